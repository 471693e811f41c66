/-! the reference's rounds -/
def mk_st (rn : Nat → Nat) (x : (Nat → Bool) × Bool) (c : Nat) : (Nat → Bool) × Bool := (ua x.1 c (x.1 c || decide (rn c = 0)), x.2 || decide (rn c = 0))
def mk_row (hl : Nat → Nat) (mn : Nat) (of : Nat → Bool) (r : Nat) : List Nat := if of r then [] else (rv_sol ((List.range' 0 mn).map hl) r (rq_cnts.getD r 0) 0 rt_free).map (fun q => rj_given r q.2)
def mk_G (hl : Nat → Nat) (mn : Nat) (of : Nat → Bool) : List Nat := (List.range' 0 21).flatMap (mk_row hl mn of)
theorem mk_fold_1 {rn : Nat → Nat} : ∀ (G : List Nat) (x : (Nat → Bool) × Bool) (c : Nat), (G.foldl (mk_st rn) x).1 c = (x.1 c || (decide (c ∈ G) && decide (rn c = 0)))
  | [], x, c => by simp
  | g :: G, x, c => by
    rw [List.foldl_cons, mk_fold_1 G]
    show (ua x.1 g (x.1 g || decide (rn g = 0)) c || _) = _
    unfold ua
    by_cases h : c = g
    · subst h
      rw [if_pos rfl]
      cases x.1 c <;> cases decide (rn c = 0) <;> simp
    · rw [if_neg h]
      simp [h]
theorem mk_fold_2 {rn : Nat → Nat} : ∀ (G : List Nat) (x : (Nat → Bool) × Bool), (G.foldl (mk_st rn) x).2 = (x.2 || G.any (fun c => decide (rn c = 0)))
  | [], x => by simp
  | g :: G, x => by
    rw [List.foldl_cons, mk_fold_2 G]
    show (x.2 || decide (rn g = 0) || _) = _
    rw [List.any_cons, Bool.or_assoc]
/-- a round: what is new, its number, the places anew -/
abbrev sN : Type := Nat × (Nat → Nat) × (Nat → Nat) × Nat × Bool
def mk_rn (G : List Nat) (gr : Nat) (rn : Nat → Nat) : Nat → Nat := fun c => if (decide (c ∈ G) && decide (rn c = 0)) = true then gr + 2 else rn c
def mk_ (of : Nat → Bool) : Nat → sN → Option sN
  | 0, _ => none
  | n + 1, (gr, rn, hl, mn, lg) => if lg = true then some (gr, rn, hl, mn, lg) else if (mk_G hl mn of).any (fun c => decide (rn c = 0)) = true then
      mk_ of n (gr + 1, mk_rn (mk_G hl mn of) gr rn, (mc_ (mk_rn (mk_G hl mn of) gr rn) 32768 0 (hl, 0)).1, (mc_ (mk_rn (mk_G hl mn of) gr rn) 32768 0 (hl, 0)).2, decide (400 < (mc_ (mk_rn (mk_G hl mn of) gr rn) 32768 0 (hl, 0)).2))
    else some (gr, rn, hl, mn, lg)
theorem mk_s {of : Nat → Bool} {n gr mn : Nat} {rn hl : Nat → Nat} : mk_ of (n + 1) (gr, rn, hl, mn, false) = if (mk_G hl mn of).any (fun c => decide (rn c = 0)) = true then
      mk_ of n (gr + 1, mk_rn (mk_G hl mn of) gr rn, (mc_ (mk_rn (mk_G hl mn of) gr rn) 32768 0 (hl, 0)).1, (mc_ (mk_rn (mk_G hl mn of) gr rn) 32768 0 (hl, 0)).2, decide (400 < (mc_ (mk_rn (mk_G hl mn of) gr rn) 32768 0 (hl, 0)).2))
    else some (gr, rn, hl, mn, false) := rfl
theorem mk_t {of : Nat → Bool} {n gr mn : Nat} {rn hl : Nat → Nat} : mk_ of (n + 1) (gr, rn, hl, mn, true) = some (gr, rn, hl, mn, true) := rfl
theorem mc_ok {rn : Nat → Nat} : ∀ (n c : Nat) (x : (Nat → Nat) × Nat), c + n ≤ 32768 → x.2 ≤ 401 → (∀ j, j < x.2 → x.1 j < 32768) → (mc_ rn n c x).2 ≤ 401 ∧ ∀ j, j < (mc_ rn n c x).2 → (mc_ rn n c x).1 j < 32768
  | 0, _, _, _, h1, h2 => ⟨h1, h2⟩
  | n + 1, c, x, hc, h1, h2 => by
    show (if x.2 ≤ 400 then mc_ rn n (c + 1) (if 0 < rn c then (ua x.1 x.2 c, x.2 + 1) else x) else x).2 ≤ 401 ∧ ∀ j, j < (if x.2 ≤ 400 then mc_ rn n (c + 1) (if 0 < rn c then (ua x.1 x.2 c, x.2 + 1) else x) else x).2 → (if x.2 ≤ 400 then mc_ rn n (c + 1) (if 0 < rn c then (ua x.1 x.2 c, x.2 + 1) else x) else x).1 j < 32768
    by_cases hx : x.2 ≤ 400
    · rw [if_pos hx]
      by_cases hr : 0 < rn c
      · rw [if_pos hr]
        refine mc_ok n (c + 1) _ (by omega) (by show x.2 + 1 ≤ 401; omega) (fun j hj => ?_)
        have hj : j < x.2 + 1 := hj
        show ua x.1 x.2 c j < 32768
        unfold ua
        split
        · omega
        · exact h2 j (by omega)
      · rw [if_neg hr]
        exact mc_ok n (c + 1) _ (by omega) h1 h2
    · rw [if_neg hx]
      exact ⟨h1, h2⟩
/-- the letters of what a rule gives are bound in each way to meet its premises -/
theorem rv_cov {hs : List Nat} {r : Nat} (hhs : ∀ c ∈ hs, c < 32768) : ∀ (rem k : Nat) (ds : List Nat), k + rem = rq_cnts.getD r 0 → rt_ok ds → rj_cov r k none ds → ∀ q ∈ rv_sol hs r rem k ds, rt_ok q.2 ∧ rj_cov r (rq_cnts.getD r 0) none q.2 ∧ q.1.length = rem ∧ ∀ c ∈ q.1, c ∈ hs
  | 0, k, ds, hk, hd, hc, q, hq => by
    have : q = ([], ds) := List.mem_singleton.mp hq
    subst this
    exact ⟨hd, by rw [← hk]; exact hc, rfl, fun c hc => by cases hc⟩
  | rem + 1, k, ds, hk, hd, hc, q, hq => by
    obtain ⟨c, hcm, hq⟩ := List.mem_flatMap.mp hq
    split at hq
    · cases hq
    · rename_i ds' hf
      obtain ⟨q', hq', rfl⟩ := List.mem_map.mp hq
      obtain ⟨h1, h2, h3, h4⟩ := rv_cov hhs rem (k + 1) ds' (by omega) (rt_fit_ok hd (hhs c hcm) hf) (rj_cov_step hd (hhs c hcm) hc hf) q' hq'
      refine ⟨h1, h2, by show (c :: q'.1).length = _; rw [List.length_cons, h3], fun d hd => ?_⟩
      rcases List.mem_cons.mp hd with rfl | hd
      · exact hcm
      · exact h4 d hd
theorem rv_cov0 {hs : List Nat} {r : Nat} (hhs : ∀ c ∈ hs, c < 32768) {q : List Nat × List Nat} (hq : q ∈ rv_sol hs r (rq_cnts.getD r 0) 0 rt_free) : rt_ok q.2 ∧ rj_cov r (rq_cnts.getD r 0) none q.2 ∧ q.1.length = rq_cnts.getD r 0 ∧ ∀ c ∈ q.1, c ∈ hs :=
  rv_cov hhs _ _ _ (by omega) rt_free_ok (fun j _ h => by rcases h with h | h; exact absurd h (Nat.not_lt_zero _); cases h) q hq
theorem rj_given_E {r x y z : Nat} {ds : List Nat} (h1 : rt_term (rq_given.getD (3 * r) 0) ds = some x) (h2 : rt_term (rq_given.getD (3 * r + 1) 0) ds = some y) (h3 : rt_term (rq_given.getD (3 * r + 2) 0) ds = some z) : rj_given r ds = rx_code x y z := by
  unfold rj_given
  rw [h1, h2, h3]
  rfl
theorem hs_lt {hl : Nat → Nat} {mn : Nat} (h : ∀ j, j < mn → hl j < 32768) : ∀ c ∈ (List.range' 0 mn).map hl, c < 32768 := by
  intro c hc
  obtain ⟨j, hj, rfl⟩ := List.mem_map.mp hc
  obtain ⟨i, hi, e⟩ := List.mem_range'.mp hj
  exact h j (by omega)
theorem rz_fn {D : va_G} {cl : List vw_C} {ws : va_W} {H : Heap} (hP : va_P D cl ws H) (q0 : Nat) {a : Nat} {cA : ClassId} {n : Nat} {f f' : Nat → Bool} (ha : ws[q0]? = some (a, .inl (cA, n, .inl (rzf f)))) (h : ∀ j, j < n → f j = f' j) : va_P D cl (ws.set q0 (a, .inl (cA, n, .inl (rzf f')))) H := rv_fn hP q0 ha (fun j hj => by unfold rzf; rw [h j hj])
theorem rn_fn {D : va_G} {cl : List vw_C} {ws : va_W} {H : Heap} (hP : va_P D cl ws H) (q0 : Nat) {a : Nat} {cA : ClassId} {n : Nat} {f f' : Nat → Nat} (ha : ws[q0]? = some (a, .inl (cA, n, .inl (rnf f)))) (h : ∀ j, j < n → f j = f' j) : va_P D cl (ws.set q0 (a, .inl (cA, n, .inl (rnf f')))) H := rv_fn hP q0 ha (fun j hj => by unfold rnf; rw [h j hj])
/-- a stretch said anew -/
def uf_ {α : Type} (g f : Nat → α) (i : Nat) : Nat → α := fun j => if j < i then g j else f j
theorem uf_0 {α : Type} (g f : Nat → α) : uf_ g f 0 = f := by
  funext j
  unfold uf_
  rw [if_neg (by omega)]
theorem uf_s {α : Type} (g f : Nat → α) (i : Nat) : ua (uf_ g f i) i (g i) = uf_ g f (i + 1) := by
  funext j
  unfold ua uf_
  by_cases h : j = i
  · rw [if_pos h, if_pos (by omega), h]
  · rw [if_neg h]
    by_cases h2 : j < i
    · rw [if_pos h2, if_pos (by omega)]
    · rw [if_neg h2, if_neg (by omega)]
theorem uf_in {α : Type} (g f : Nat → α) {i j : Nat} (h : j < i) : uf_ g f i j = g j := by
  unfold uf_
  rw [if_pos h]
theorem uf_out {α : Type} (g f : Nat → α) {i j : Nat} (h : i ≤ j) : uf_ g f i j = f j := by
  unfold uf_
  rw [if_neg (by omega)]
