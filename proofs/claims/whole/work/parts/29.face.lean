/-! the object as a whole: its state, what each call answers, the state behind it -/
abbrev sX : Type := (Nat × (Nat → Int32)) × Int32 × Bool × sR × sS × Int32
def xk_ (z : sX) : Prop := z.1.1 ≤ 120 ∧ (∀ j, j < z.1.1 → rk_ z.1.2 j < 32768) ∧ rd_ok z.2.2.2.1.2.1
def xl_make (z : sX) : sX := if z.2.2.1 = true then z else (z.1, z.2.1, true, rd_derive (rk_ z.1.2) z.1.1 z.2.1 z.2.2.2.1.2.1, z.2.2.2.2)
def xl_lg (z : sX) : Bool := z.2.2.2.1.2.1.2.2.2.2.2
def xl_c3 (s p o : Int32) : Nat := rx_code s.toBitVec.toNat p.toBitVec.toNat o.toBitVec.toNat
theorem xl_ok {z : sX} (h : xk_ z) : xk_ (xl_make z) := by
  unfold xl_make
  split
  · exact h
  · exact ⟨h.1, h.2.1, rd_ok_derive h.2.1⟩
theorem xl_c3E {a b d : Nat} (ha : a < 32) (hb : b < 32) (hd : d < 32) : xl_c3 (nI a) (nI b) (nI d) = rx_code a b d := by
  unfold xl_c3
  rw [rb_tn (by omega), rb_tn (by omega), rb_tn (by omega)]
theorem rc_tm_of {x : Int32} (h : ¬ rc_tm x = 0) : ∃ a : Nat, a < 32 ∧ x = nI a := by
  unfold rc_tm at h
  split at h
  · exact absurd rfl h
  · rename_i h0
    split at h
    · rename_i h1
      obtain ⟨j, hj, rfl⟩ := nI_of h0
      exact ⟨j, (nI_ltI hj (by decide)).mp h1, rfl⟩
    · exact absurd rfl h
theorem rc_tm3_of {x y z : Int32} (h : ¬ rc_tm3 x y z = 0) : ∃ a b d : Nat, a < 32 ∧ b < 32 ∧ d < 32 ∧ x = nI a ∧ y = nI b ∧ z = nI d := by
  unfold rc_tm3 at h
  split at h
  · exact absurd rfl h
  · rename_i h1
    split at h
    · exact absurd rfl h
    · rename_i h2
      split at h
      · exact absurd rfl h
      · rename_i h3
        obtain ⟨a, ha, ea⟩ := rc_tm_of h1
        obtain ⟨b, hb, eb⟩ := rc_tm_of h2
        obtain ⟨d, hd, ed⟩ := rc_tm_of h3
        exact ⟨a, b, d, ha, hb, hd, ea, eb, ed⟩
def xl_find (f : Nat → Int32) (c : Int32) : Nat → Nat → Option Nat
  | 0, _ => none
  | n + 1, i => if f i = c then some i else xl_find f c n (i + 1)
theorem xl_find_lt {f : Nat → Int32} {c : Int32} : ∀ {n i k : Nat}, xl_find f c n i = some k → i ≤ k ∧ k < i + n ∧ f k = c
  | 0, _, _, h => by cases h
  | n + 1, i, k, h => by
    unfold xl_find at h
    split at h
    · cases h; exact ⟨Nat.le_refl _, by omega, by assumption⟩
    · obtain ⟨h1, h2, h3⟩ := xl_find_lt h
      exact ⟨by omega, by omega, h3⟩
def xq_say (z : sX) (s p o : Int32) : Int32 × sX := if rc_tm3 s p o = 0 then (-1, z) else match xl_find z.1.2 (nI (xl_c3 s p o)) z.1.1 0 with
  | some _ => (nI 0, z)
  | none => if z.1.1 < 120 then (nI 1, ((z.1.1 + 1, upd z.1.2 z.1.1 (nI (xl_c3 s p o))), z.2.1, false, z.2.2.2)) else (-3, z)
def xq_unsay (z : sX) (s p o : Int32) : Int32 × sX := if rc_tm3 s p o = 0 then (-1, z) else match xl_find z.1.2 (nI (xl_c3 s p o)) z.1.1 0 with
  | some i => (nI 1, ((z.1.1 - 1, upd z.1.2 i (z.1.2 (z.1.1 - 1))), z.2.1, false, z.2.2.2))
  | none => (nI 0, z)
def xq_rule (z : sX) (r : Int32) (on : Bool) : Int32 × sX := if r < 0 then (-1, z) else if r < nI 21 then (if rb_b z.2.1 r.toBitVec.toNat = on then (nI 0, z) else (nI 1, (z.1, z.2.1 ^^^ (nI 1) <<< (r &&& 31), false, z.2.2.2))) else (-1, z)
def xq_run (z : sX) : Int32 × sX := if xl_lg (xl_make z) = true then (-4, xl_make z) else (rd_last (xl_make z).2.2.2.1.2.1, xl_make z)
def xq_size (z : sX) : Int32 × sX := if xl_lg (xl_make z) = true then (-4, xl_make z) else (nI (xl_make z).2.2.2.1.2.1.2.2.2.2.1, xl_make z)
def xq_triple (z : sX) (i : Int32) : Int32 × sX := if xl_lg (xl_make z) = true then (-4, xl_make z) else if i < 0 then (-2, xl_make z) else if i < nI (xl_make z).2.2.2.1.2.1.2.2.2.2.1 then (rc_no ((rc_fr (xl_make z).2.2.2.1.1.1 1024 0)[i.toBitVec.toNat]?), xl_make z) else (-2, xl_make z)
def xq_round (z : sX) (s p o : Int32) : Int32 × sX := if rc_tm3 s p o = 0 then (-1, z) else if xl_lg (xl_make z) = true then (-4, xl_make z) else (rd_find (xl_make z).2.2.2.1.2.1.2.2.1 (xl_make z).2.2.2.1.2.1.2.2.2.1 (nI (xl_c3 s p o)) (xl_make z).2.2.2.1.2.1.2.2.2.2.1 0, xl_make z)
def xl_sk (y : sX) (st : sS) (wt : Int32) : sX := (y.1, y.2.1, y.2.2.1, y.2.2.2.1, st, wt)
def xl_W (y : sX) (c : Nat) (i : Int32) : sS × Bool := rs_way y.2.2.2.1.1 i c y.2.1 y.2.2.2.2.1
def xl_K (y : sX) (i : Int32) : sS × Bool := rs_clash y.2.2.2.1.1 i y.2.2.2.2.1
def xq_ways (z : sX) (s p o : Int32) : Int32 × sX := if rc_tm3 s p o = 0 then (-1, z) else if xl_lg (xl_make z) = true then (-4, xl_make z) else ((xl_W (xl_make z) (xl_c3 s p o) (-1)).1.2.1, xl_sk (xl_make z) (xl_W (xl_make z) (xl_c3 s p o) (-1)).1 (-1))
def xl_pr (st : sS) (w : Int32) : Int32 := if rq_cnts.getD st.2.2.toBitVec.toNat 0 < w.toBitVec.toNat then -2 else st.1 (w.toBitVec.toNat - 1)
def xq_way (z : sX) (s p o i w : Int32) : Int32 × sX := if rc_tm3 s p o = 0 then (-1, z) else if w < 0 then (-1, z) else if w ≤ nI 4 then (if xl_lg (xl_make z) = true then (-4, xl_make z) else if i < 0 then (-2, xl_make z) else
    if (xl_W (xl_make z) (xl_c3 s p o) i).2 = true then (if w = 0 then (xl_W (xl_make z) (xl_c3 s p o) i).1.2.2 else xl_pr (xl_W (xl_make z) (xl_c3 s p o) i).1 w, xl_sk (xl_make z) (xl_W (xl_make z) (xl_c3 s p o) i).1 i) else (-2, xl_sk (xl_make z) (xl_W (xl_make z) (xl_c3 s p o) i).1 i)) else (-1, z)
def xq_clashes (z : sX) : Int32 × sX := if xl_lg (xl_make z) = true then (-4, xl_make z) else ((xl_K (xl_make z) (-1)).1.2.1, xl_sk (xl_make z) (xl_K (xl_make z) (-1)).1 (-1))
def xq_clash (z : sX) (i w : Int32) : Int32 × sX := if w < 0 then (-1, z) else if w ≤ nI 3 then (if xl_lg (xl_make z) = true then (-4, xl_make z) else if i < 0 then (-2, xl_make z) else
    if (xl_K (xl_make z) i).2 = true then (if w = 0 then (xl_K (xl_make z) i).1.2.2 - nI 21 else xl_pr (xl_K (xl_make z) i).1 w, xl_sk (xl_make z) (xl_K (xl_make z) i).1 i) else (-2, xl_sk (xl_make z) (xl_K (xl_make z) i).1 i)) else (-1, z)
def xl_min (x y : Int32) : Int32 := if y < x then y else x
def xq_group (z : sX) (t : Int32) : Int32 × sX := if rc_tm t = 0 then (-1, z) else if xl_lg (xl_make z) = true then (-4, xl_make z) else (xl_min t (nI (rb_least ((xl_make z).2.2.2.1.1.1 (t.toBitVec.toNat * 32 + 6)))), xl_make z)
theorem rs_join_row {TV : Option Nat → Option Nat → Option Nat → List Nat} {wt : Int32} {r : Nat} {fx : Option Nat} : ∀ (rem k : Nat) (ds : List Nat) (st : sS), (rj_join TV (rs_meet wt r) rs_ch r fx rem k ds st).2 = true → (rj_join TV (rs_meet wt r) rs_ch r fx rem k ds st).1.2.2 = nI r
  | 0, _, ds, st, h => by
    have h1 : st.2.1 = wt := of_decide_eq_true h
    show (if st.2.1 = wt then nI r else st.2.2) = nI r
    rw [if_pos h1]
  | rem + 1, k, ds, st, h => by
    have key : ∀ (l : List Nat) (st : sS), (rj_fold (rj_body rs_ch r k ds (rj_join TV (rs_meet wt r) rs_ch r fx rem (k + 1))) st l).2 = true → (rj_fold (rj_body rs_ch r k ds (rj_join TV (rs_meet wt r) rs_ch r fx rem (k + 1))) st l).1.2.2 = nI r := by
      intro l
      induction l with
      | nil => intro st h; cases h
      | cons c l ih =>
        intro st h
        have e : rj_fold (rj_body rs_ch r k ds (rj_join TV (rs_meet wt r) rs_ch r fx rem (k + 1))) st (c :: l) = if (rj_body rs_ch r k ds (rj_join TV (rs_meet wt r) rs_ch r fx rem (k + 1)) st c).2 = true then rj_body rs_ch r k ds (rj_join TV (rs_meet wt r) rs_ch r fx rem (k + 1)) st c else rj_fold (rj_body rs_ch r k ds (rj_join TV (rs_meet wt r) rs_ch r fx rem (k + 1))) (rj_body rs_ch r k ds (rj_join TV (rs_meet wt r) rs_ch r fx rem (k + 1)) st c).1 l := rfl
        rw [e] at h ⊢
        split at h
        · rename_i hb
          rw [if_pos hb]
          unfold rj_body at hb ⊢
          split
          · rename_i hn
            rw [hn] at hb
            cases hb
          · rename_i ds' hn
            rw [hn] at hb
            exact rs_join_row rem (k + 1) ds' _ hb
        · rename_i hb
          rw [if_neg hb]
          exact ih _ h
    have e2 : rj_join TV (rs_meet wt r) rs_ch r fx (rem + 1) k ds st = if fx = some k then rj_join TV (rs_meet wt r) rs_ch r fx rem (k + 1) ds st else rj_fold (rj_body rs_ch r k ds (rj_join TV (rs_meet wt r) rs_ch r fx rem (k + 1))) st (TV (rt_term (rq_prem.getD (12 * r + 3 * k) 0) ds) (rt_term (rq_prem.getD (12 * r + 3 * k + 1) 0) ds) (rt_term (rq_prem.getD (12 * r + 3 * k + 2) 0) ds)) := rfl
    rw [e2] at h ⊢
    split at h
    · rename_i hf
      rw [if_pos hf]
      exact rs_join_row rem (k + 1) ds st h
    · rename_i hf
      rw [if_neg hf]
      exact key _ _ h
theorem rj_fold_last {σ α : Type} {f : σ → α → σ × Bool} {K : σ × Bool → Prop} : ∀ (l : List α) (st : σ), (∀ st c, c ∈ l → (f st c).2 = true → K (f st c)) → (rj_fold f st l).2 = true → K (rj_fold f st l)
  | [], _, _, h => by cases h
  | c :: l, st, hf, h => by
    have e : rj_fold f st (c :: l) = if (f st c).2 = true then f st c else rj_fold f (f st c).1 l := rfl
    rw [e] at h ⊢
    split at h
    · rename_i hb
      rw [if_pos hb]
      exact hf st c List.mem_cons_self hb
    · rename_i hb
      rw [if_neg hb]
      exact rj_fold_last l _ (fun st c hc => hf st c (List.mem_cons_of_mem _ hc)) h
theorem rs_way_row {he : sT} {wt : Int32} {c : Nat} {x : Int32} {st : sS} (h : (rs_way he wt c x st).2 = true) : ∃ r, r < 21 ∧ (rs_way he wt c x st).1.2.2 = nI r := by
  refine rj_fold_last (K := fun q => ∃ r, r < 21 ∧ q.1.2.2 = nI r) _ _ (fun st r hr hb => ?_) h
  have hr21 : r < 21 := by
    have := List.mem_range'.mp hr
    obtain ⟨i, hi, e⟩ := this
    omega
  refine ⟨r, hr21, ?_⟩
  unfold rs_G at hb ⊢
  split
  · rename_i hx
    rw [if_pos hx] at hb
    unfold rs_F at hb ⊢
    split
    · rename_i hq
      rw [hq] at hb
      cases hb
    · rename_i ds hq
      rw [hq] at hb
      exact rs_join_row _ _ _ _ hb
  · rename_i hx
    rw [if_neg hx] at hb
    cases hb
theorem rs_clash_row {he : sT} {wt : Int32} {st : sS} (h : (rs_clash he wt st).2 = true) : ∃ k, k < 3 ∧ (rs_clash he wt st).1.2.2 = nI (21 + k) := by
  refine rj_fold_last (K := fun q => ∃ r, r < 3 ∧ q.1.2.2 = nI (21 + r)) _ _ (fun st r hr hb => ?_) h
  have hr3 : r < 3 := by
    have := List.mem_range'.mp hr
    obtain ⟨i, hi, e⟩ := this
    omega
  exact ⟨r, hr3, rs_join_row _ _ _ _ hb⟩
