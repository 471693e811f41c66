/-! the reference's search: one step, and what stays true -/
theorem raf_inc (x : Nat) : (nI x - 1) + nI 1 = nI (x + 1) - 1 := by
  rw [nI_pred]
  exact Int32.sub_add_cancel _ _
theorem raf_rd (a : Nat → Nat) (l : Nat) : nI (ua a l (a l + 1) l) - 1 = nI (a l) := by
  unfold ua
  rw [if_pos rfl, nI_pred]
theorem mn_z {hl : Nat → Nat} {mn r n : Nat} {a : Nat → Nat} {ds : List Nat} {bd : Nat → Nat} : mn_ hl mn r (n + 1) (a, ds, bd, 0) = some ((a, ds, bd, 0), false) := rfl
theorem mn_s {hl : Nat → Nat} {mn r n l : Nat} {a : Nat → Nat} {ds : List Nat} {bd : Nat → Nat} : mn_ hl mn r (n + 1) (a, ds, bd, l + 1) = (if a l = mn then mn_ hl mn r n (ua a l (a l + 1), (mi_rel 3 (3 * l) (ds, bd)).1, (mi_rel 3 (3 * l) (ds, bd)).2, l)
      else if (mi_fits r l (hl (a l)) (mi_rel 3 (3 * l) (ds, bd)).1 (mi_rel 3 (3 * l) (ds, bd)).2).2 = true then
        (if l + 1 = rq_cnts.getD r 0 then some ((ua a l (a l + 1), (mi_fits r l (hl (a l)) (mi_rel 3 (3 * l) (ds, bd)).1 (mi_rel 3 (3 * l) (ds, bd)).2).1.1, (mi_fits r l (hl (a l)) (mi_rel 3 (3 * l) (ds, bd)).1 (mi_rel 3 (3 * l) (ds, bd)).2).1.2, l + 1), true)
         else mn_ hl mn r n (ua (ua a l (a l + 1)) (l + 1) 0, (mi_fits r l (hl (a l)) (mi_rel 3 (3 * l) (ds, bd)).1 (mi_rel 3 (3 * l) (ds, bd)).2).1.1, (mi_fits r l (hl (a l)) (mi_rel 3 (3 * l) (ds, bd)).1 (mi_rel 3 (3 * l) (ds, bd)).2).1.2, l + 2))
      else mn_ hl mn r n (ua a l (a l + 1), (mi_fits r l (hl (a l)) (mi_rel 3 (3 * l) (ds, bd)).1 (mi_rel 3 (3 * l) (ds, bd)).2).1.1, (mi_fits r l (hl (a l)) (mi_rel 3 (3 * l) (ds, bd)).1 (mi_rel 3 (3 * l) (ds, bd)).2).1.2, l + 1)) := rfl
theorem mq_pop {mn r l : Nat} {a : Nat → Nat} {ds : List Nat} {bd : Nat → Nat} {y : List Nat × (Nat → Nat)} (h : mq_ok mn r (a, ds, bd, l + 1)) (h1 : rt_ok y.1) (h2 : mb_ok y.2) : mq_ok mn r (ua a l (a l + 1), y.1, y.2, l) := by
  refine ⟨h1, h2, Nat.le_of_succ_le h.2.2.1, fun j hj => ?_⟩
  have hj : j < l := hj
  show ua a l (a l + 1) j ≤ mn
  unfold ua
  rw [if_neg (by omega)]
  exact h.2.2.2 j (by show j < l + 1; omega)
theorem mq_fail {mn r l : Nat} {a : Nat → Nat} {ds : List Nat} {bd : Nat → Nat} {y : List Nat × (Nat → Nat)} (h : mq_ok mn r (a, ds, bd, l + 1)) (hne : ¬ a l = mn) (h1 : rt_ok y.1) (h2 : mb_ok y.2) : mq_ok mn r (ua a l (a l + 1), y.1, y.2, l + 1) := by
  refine ⟨h1, h2, h.2.2.1, fun j hj => ?_⟩
  have hj : j < l + 1 := hj
  have hl : a l ≤ mn := h.2.2.2 l (Nat.lt_succ_self l)
  show ua a l (a l + 1) j ≤ mn
  unfold ua
  split
  · omega
  · exact h.2.2.2 j hj
theorem mq_down {mn r l : Nat} {a : Nat → Nat} {ds : List Nat} {bd : Nat → Nat} {y : List Nat × (Nat → Nat)} (h : mq_ok mn r (a, ds, bd, l + 1)) (hne : ¬ a l = mn) (hlt : ¬ l + 1 = rq_cnts.getD r 0) (h1 : rt_ok y.1) (h2 : mb_ok y.2) : mq_ok mn r (ua (ua a l (a l + 1)) (l + 1) 0, y.1, y.2, l + 2) := by
  have hc : l + 1 ≤ rq_cnts.getD r 0 := h.2.2.1
  refine ⟨h1, h2, by show l + 2 ≤ _; omega, fun j hj => ?_⟩
  have hj : j < l + 2 := hj
  have hl : a l ≤ mn := h.2.2.2 l (Nat.lt_succ_self l)
  show ua (ua a l (a l + 1)) (l + 1) 0 j ≤ mn
  unfold ua
  split
  · omega
  · split
    · omega
    · exact h.2.2.2 j (by show j < l + 1; omega)
