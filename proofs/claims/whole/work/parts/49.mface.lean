/-! the reference as a whole: its state, what each call answers -/
abbrev sM : Type := ((Nat → Bool) × Nat) × (Nat → Bool) × Bool × sN
def mm_r0 (sd : Nat → Bool) : Nat → Nat := fun j => if sd j = true then 1 else 0
def mm_start (z : sM) : sN := (0, mm_r0 z.1.1, (mc_ (mm_r0 z.1.1) 32768 0 (z.2.2.2.2.2.1, 0)).1, (mc_ (mm_r0 z.1.1) 32768 0 (z.2.2.2.2.2.1, 0)).2, false)
def mm_N (z : sM) : sN := if z.2.2.1 = true then z.2.2.2 else (mk_ z.2.1 1000 (mm_start z)).getD (mm_start z)
def mm_make (z : sM) : sM := (z.1, z.2.1, true, mm_N z)
/-- what is true of the places and rounds once they are known -/
def mN_ok (x : sN) : Prop := (∀ j, x.2.1 j ≤ x.1 + 1) ∧ x.1 ≤ 1000000 ∧ (x.2.2.2.2 = false → x.2.2.2.1 ≤ 400) ∧ (∀ j, j < x.2.2.2.1 → x.2.2.1 j < 32768) ∧ x.2.2.2.1 ≤ 401
def mI_ (z : sM) : Prop := z.1.2 ≤ 120 ∧ (z.2.2.1 = true → mN_ok z.2.2.2) ∧ (z.2.2.1 = false → (mm_start z).2.2.2.1 ≤ 400 ∧ ∃ res, mk_ z.2.1 1000 (mm_start z) = some res)
theorem mk_ok {of : Nat → Bool} : ∀ (n : Nat) (x res : sN), x.1 + n ≤ 1000000 → mN_ok x → mk_ of n x = some res → mN_ok res
  | 0, _, _, _, _, h => by cases h
  | n + 1, (gr, rn, hl, mn, lg), res, hg, hx, h => by
    cases lg with
    | true => rw [mk_t] at h; cases h; exact hx
    | false =>
      rw [mk_s] at h
      by_cases ha : (mk_G hl mn of).any (fun c => decide (rn c = 0)) = true
      · rw [if_pos ha] at h
        obtain ⟨h1, h2, h3, h4, h5⟩ := hx
        have hmc := mc_ok (rn := mk_rn (mk_G hl mn of) gr rn) 32768 0 (hl, 0) (by omega) (Nat.zero_le _) (fun j hj => absurd hj (Nat.not_lt_zero _))
        refine mk_ok n _ _ (by show gr + 1 + n ≤ _; have : gr + (n + 1) ≤ 1000000 := hg; omega) ⟨fun j => ?_, by show gr + 1 ≤ _; have : gr + (n + 1) ≤ 1000000 := hg; omega, fun hf => ?_, hmc.2, hmc.1⟩ h
        · show mk_rn (mk_G hl mn of) gr rn j ≤ gr + 1 + 1
          unfold mk_rn
          split
          · omega
          · have : rn j ≤ gr + 1 := h1 j
            omega
        · have := of_decide_eq_false hf
          show (mc_ _ 32768 0 (hl, 0)).2 ≤ 400
          omega
      · rw [if_neg ha] at h
        cases h
        exact hx
theorem mN_start {z : sM} (h : (mm_start z).2.2.2.1 ≤ 400) : mN_ok (mm_start z) := by
  have hmc := mc_ok (rn := mm_r0 z.1.1) 32768 0 (z.2.2.2.2.2.1, 0) (by omega) (Nat.zero_le _) (fun j hj => absurd hj (Nat.not_lt_zero _))
  refine ⟨fun j => ?_, Nat.zero_le _, fun _ => h, hmc.2, hmc.1⟩
  show (if z.1.1 j = true then 1 else 0) ≤ 0 + 1
  split <;> omega
theorem mm_N_ok {z : sM} (h : mI_ z) : mN_ok (mm_N z) := by
  unfold mm_N
  split
  · rename_i hk
    exact h.2.1 hk
  · rename_i hk
    obtain ⟨h1, res, h2⟩ := h.2.2 (by simpa using hk)
    rw [h2]
    exact mk_ok 1000 _ _ (by show 0 + 1000 ≤ 1000000; omega) (mN_start h1) h2
theorem mm_case {z : sM} (h : mI_ z) : (z.2.2.1 = true ∧ mm_N z = z.2.2.2) ∨ (z.2.2.1 = false ∧ (mc_ (mm_r0 z.1.1) 32768 0 (z.2.2.2.2.2.1, 0)).2 ≤ 400 ∧ mk_ z.2.1 1000 (0, mm_r0 z.1.1, (mc_ (mm_r0 z.1.1) 32768 0 (z.2.2.2.2.2.1, 0)).1, (mc_ (mm_r0 z.1.1) 32768 0 (z.2.2.2.2.2.1, 0)).2, false) = some (mm_N z)) := by
  cases hk : z.2.2.1 with
  | true =>
    left
    refine ⟨rfl, ?_⟩
    unfold mm_N
    rw [if_pos hk]
  | false =>
    right
    obtain ⟨h1, res, h2⟩ := h.2.2 hk
    refine ⟨rfl, h1, ?_⟩
    unfold mm_N
    rw [if_neg (by rw [hk]; simp), h2]
    exact h2
/-! a search that found: its places are places -/
def mq1_ (st : sQ) : Prop := ∀ j, j + 1 < st.2.2.2 → 1 ≤ st.1 j
theorem mn_found {hl : Nat → Nat} {mn r : Nat} : ∀ (n : Nat) (st st' : sQ), mq1_ st → mn_ hl mn r n st = some (st', true) → st'.2.2.2 = rq_cnts.getD r 0 ∧ ∀ j, j < st'.2.2.2 → 1 ≤ st'.1 j
  | 0, _, _, _, h => by cases h
  | n + 1, (a, ds, bd, 0), st', _, h => by
    rw [mn_z] at h
    cases h
  | n + 1, (a, ds, bd, l + 1), st', h1, h => by
    rw [mn_s] at h
    have g1 : ∀ j, j + 1 < l + 1 → 1 ≤ a j := h1
    by_cases e1 : a l = mn
    · rw [if_pos e1] at h
      refine mn_found n _ _ (fun j hj => ?_) h
      have hj : j + 1 < l := hj
      show 1 ≤ ua a l (a l + 1) j
      rw [ua_ne _ _ (by omega)]
      exact g1 j (by omega)
    · rw [if_neg e1] at h
      split at h
      · split at h
        · rename_i e3
          cases h
          refine ⟨e3, fun j hj => ?_⟩
          have hj : j < l + 1 := hj
          show 1 ≤ ua a l (a l + 1) j
          by_cases e : j = l
          · rw [e, ua_self]; omega
          · rw [ua_ne _ _ e]; exact g1 j (by omega)
        · refine mn_found n _ _ (fun j hj => ?_) h
          have hj : j + 1 < l + 2 := hj
          show 1 ≤ ua (ua a l (a l + 1)) (l + 1) 0 j
          rw [ua_ne _ _ (by omega)]
          by_cases e : j = l
          · rw [e, ua_self]; omega
          · rw [ua_ne _ _ e]; exact g1 j (by omega)
      · refine mn_found n _ _ (fun j hj => ?_) h
        have hj : j + 1 < l + 1 := hj
        show 1 ≤ ua a l (a l + 1) j
        rw [ua_ne _ _ (by omega)]
        exact g1 j hj
def mZ_ (hl : Nat → Nat) (mn r : Nat) : List (List Nat × List Nat) → sQ → Prop
  | [], st => mq_ok mn r st ∧ ∃ (k : Nat) (st' : sQ), mn_ hl mn r k st = some (st', false)
  | q :: L, st => mq_ok mn r st ∧ ∃ (k : Nat) (st' : sQ), mn_ hl mn r k st = some (st', true) ∧ (∀ j, j < rq_cnts.getD r 0 → 1 ≤ st'.1 j ∧ st'.1 j ≤ mn) ∧ mp_ hl st'.1 0 (rq_cnts.getD r 0) = q.1 ∧ st'.2.1 = q.2 ∧ mZ_ hl mn r L st'
theorem mZ_of {hl : Nat → Nat} {mn r : Nat} (hhl : ∀ j, j < mn → hl j < 32768) : ∀ (L : List (List Nat × List Nat)) (st : sQ), mq1_ st → mz_ hl mn r L st → mZ_ hl mn r L st
  | [], _, _, h => h
  | q :: L, st, h1, h => by
    obtain ⟨hok, k, st', e1, e2, e3, e4⟩ := h
    obtain ⟨f1, f2⟩ := mn_found k st st' h1 e1
    have hok' := mn_ok hhl k _ _ _ hok e1
    exact ⟨hok, k, st', e1, fun j hj => ⟨f2 j (by omega), hok'.2.2.2 j (by omega)⟩, e2, e3, mZ_of hhl L st' (fun j hj => f2 j (by omega)) e4⟩
theorem mZ_begin {hl : Nat → Nat} {mn r : Nat} (hhl : ∀ j, j < mn → hl j < 32768) (hr : r < 24) (a : Nat → Nat) : mZ_ hl mn r (rv_sol ((List.range' 0 mn).map hl) r (rq_cnts.getD r 0) 0 rt_free) (ua a 0 0, rt_free, fun _ => 0, 1) :=
  mZ_of hhl _ _ (fun j hj => by have hj : j + 1 < 1 := hj; omega) (mz_begin hhl hr a)
theorem mp_at {hl a : Nat → Nat} {n k : Nat} (hk : k < n) : (mp_ hl a 0 n).getD k 0 = hl (a k - 1) := by
  unfold mp_
  rw [List.getD_eq_getElem?_getD, List.getElem?_map, List.getElem?_range' hk]
  simp
/-! the ways and the clashes, in their order -/
def mw_row (hs : List Nat) (of : Nat → Bool) (c r : Nat) : List (Nat × List Nat) := if of r then [] else ((rv_sol hs r (rq_cnts.getD r 0) 0 rt_free).filter (fun q => decide (rj_given r q.2 = c))).map (fun q => (r, q.1))
def mw_ (hs : List Nat) (of : Nat → Bool) (c : Nat) : List (Nat × List Nat) := (List.range' 0 21).flatMap (mw_row hs of c)
def mx_row (hs : List Nat) (r : Nat) : List (Nat × List Nat) := (rv_sol hs r (rq_cnts.getD r 0) 0 rt_free).map (fun q => (r, q.1))
def mx_ (hs : List Nat) : List (Nat × List Nat) := (List.range' 21 3).flatMap (mx_row hs)
def mm_hs (x : sN) : List Nat := (List.range' 0 x.2.2.2.1).map x.2.2.1
def mm_lg (x : sN) : Bool := x.2.2.2.2
def mm_pr (q : Nat × List Nat) (w : Nat) : Int32 := if rq_cnts.getD q.1 0 < w then -2 else nI (q.2.getD (w - 1) 0)
def ma_say (z : sM) (s p o : Int32) : Int32 × sM := if rc_tm3 s p o = 0 then (-1, z) else if z.1.1 (xl_c3 s p o) = true then (nI 0, z) else if z.1.2 = 120 then (-3, z) else (nI 1, ((ua z.1.1 (xl_c3 s p o) true, z.1.2 + 1), z.2.1, false, z.2.2.2))
def ma_unsay (z : sM) (s p o : Int32) : Int32 × sM := if rc_tm3 s p o = 0 then (-1, z) else if z.1.1 (xl_c3 s p o) = true then (nI 1, ((ua z.1.1 (xl_c3 s p o) false, z.1.2 - 1), z.2.1, false, z.2.2.2)) else (nI 0, z)
def ma_rule (z : sM) (r : Int32) (on : Bool) : Int32 × sM := if r < 0 then (-1, z) else if r < nI 21 then (if z.2.1 r.toBitVec.toNat = on then (nI 1, (z.1, ua z.2.1 r.toBitVec.toNat (!on), false, z.2.2.2)) else (nI 0, z)) else (-1, z)
def ma_run (z : sM) : Int32 × sM := if mm_lg (mm_N z) = true then (-4, mm_make z) else (nI (mm_N z).1, mm_make z)
def ma_size (z : sM) : Int32 × sM := if mm_lg (mm_N z) = true then (-4, mm_make z) else (nI (mm_N z).2.2.2.1, mm_make z)
def ma_triple (z : sM) (i : Int32) : Int32 × sM := if mm_lg (mm_N z) = true then (-4, mm_make z) else if i < 0 then (-2, mm_make z) else if nI (mm_N z).2.2.2.1 ≤ i then (-2, mm_make z) else (nI ((mm_N z).2.2.1 i.toBitVec.toNat), mm_make z)
def ma_round (z : sM) (s p o : Int32) : Int32 × sM := if rc_tm3 s p o = 0 then (-1, z) else if mm_lg (mm_N z) = true then (-4, mm_make z) else if (mm_N z).2.1 (xl_c3 s p o) = 0 then (-2, mm_make z) else (nI ((mm_N z).2.1 (xl_c3 s p o) - 1), mm_make z)
def ma_ways (z : sM) (s p o : Int32) : Int32 × sM := if rc_tm3 s p o = 0 then (-1, z) else if mm_lg (mm_N z) = true then (-4, mm_make z) else (nI (mw_ (mm_hs (mm_N z)) z.2.1 (xl_c3 s p o)).length, mm_make z)
def mm_an (o : Option (Nat × List Nat)) (b : Nat) (w : Int32) : Int32 := match o with
  | none => -2
  | some q => if w = 0 then nI (q.1 - b) else mm_pr q w.toBitVec.toNat
def ma_way (z : sM) (s p o i w : Int32) : Int32 × sM := if rc_tm3 s p o = 0 then (-1, z) else if w < 0 then (-1, z) else if w ≤ nI 4 then (if mm_lg (mm_N z) = true then (-4, mm_make z) else if i < 0 then (-2, mm_make z) else (mm_an (mw_ (mm_hs (mm_N z)) z.2.1 (xl_c3 s p o))[i.toBitVec.toNat]? 0 w, mm_make z)) else (-1, z)
def ma_clashes (z : sM) : Int32 × sM := if mm_lg (mm_N z) = true then (-4, mm_make z) else (nI (mx_ (mm_hs (mm_N z))).length, mm_make z)
def ma_clash (z : sM) (i w : Int32) : Int32 × sM := if w < 0 then (-1, z) else if w ≤ nI 3 then (if mm_lg (mm_N z) = true then (-4, mm_make z) else if i < 0 then (-2, mm_make z) else (mm_an (mx_ (mm_hs (mm_N z)))[i.toBitVec.toNat]? 21 w, mm_make z)) else (-1, z)
def mg_ (rn : Nat → Nat) (a : Nat) : Nat → Nat → Nat → Nat
  | 0, _, l => l
  | n + 1, t, l => mg_ rn a n (t + 1) (if t < l ∧ 0 < rn (rx_code a 6 t) then t else l)
def ma_group (z : sM) (t : Int32) : Int32 × sM := if rc_tm t = 0 then (-1, z) else if mm_lg (mm_N z) = true then (-4, mm_make z) else (nI (mg_ (mm_N z).2.1 t.toBitVec.toNat 32 0 t.toBitVec.toNat), mm_make z)
