/-! the reference's fitting: the same letters as the other order of binding; what is released again -/
theorem rt_set_none {k1 k2 t : Nat} {ds : List Nat} (h2 : rt_term k2 ds = none) (hne : k1 ≠ k2) (h1 : 32 ≤ k1) : rt_term k2 (ds.set (k1 - 32) t) = none := by
  obtain ⟨h32, h0⟩ := rt_none h2
  unfold rt_term
  rw [if_neg (by omega), List.getD_eq_getElem?_getD, List.getElem?_set_ne (by omega), ← List.getD_eq_getElem?_getD, h0]
theorem rt_bind_comm {k1 k2 t1 t2 : Nat} {ds : List Nat} (hd : rt_ok ds) (a1 : k1 < 42) (a2 : k2 < 42) : (rt_bind k1 t1 ds).bind (rt_bind k2 t2) = (rt_bind k2 t2 ds).bind (rt_bind k1 t1) := by
  cases h1 : rt_term k1 ds with
  | some u1 =>
    have e1 : rt_bind k1 t1 ds = if u1 = t1 then some ds else none := by unfold rt_bind; rw [h1]
    cases h2 : rt_term k2 ds with
    | some u2 =>
      have e2 : rt_bind k2 t2 ds = if u2 = t2 then some ds else none := by unfold rt_bind; rw [h2]
      rw [e1, e2]
      by_cases c1 : u1 = t1 <;> by_cases c2 : u2 = t2 <;> simp [c1, c2, e1, e2]
    | none =>
      have e2 : rt_bind k2 t2 ds = some (ds.set (k2 - 32) (t2 + 1)) := by unfold rt_bind; rw [h2]
      have e3 : rt_bind k1 t1 (ds.set (k2 - 32) (t2 + 1)) = if u1 = t1 then some (ds.set (k2 - 32) (t2 + 1)) else none := by
        unfold rt_bind
        rw [rt_bind_keep e2 h1]
      rw [e1, e2, Option.bind_some, e3]
      by_cases c1 : u1 = t1
      · rw [if_pos c1, if_pos c1, Option.bind_some, e2]
      · rw [if_neg c1, if_neg c1]; rfl
  | none =>
    have e1 : rt_bind k1 t1 ds = some (ds.set (k1 - 32) (t1 + 1)) := by unfold rt_bind; rw [h1]
    cases h2 : rt_term k2 ds with
    | some u2 =>
      have e2 : rt_bind k2 t2 ds = if u2 = t2 then some ds else none := by unfold rt_bind; rw [h2]
      have e3 : rt_bind k2 t2 (ds.set (k1 - 32) (t1 + 1)) = if u2 = t2 then some (ds.set (k1 - 32) (t1 + 1)) else none := by
        unfold rt_bind
        rw [rt_bind_keep e1 h2]
      rw [e1, e2, Option.bind_some, e3]
      by_cases c1 : u2 = t2
      · rw [if_pos c1, if_pos c1, Option.bind_some, e1]
      · rw [if_neg c1, if_neg c1]; rfl
    | none =>
      have e2 : rt_bind k2 t2 ds = some (ds.set (k2 - 32) (t2 + 1)) := by unfold rt_bind; rw [h2]
      obtain ⟨g1, -⟩ := rt_none h1
      obtain ⟨g2, -⟩ := rt_none h2
      rw [e1, e2, Option.bind_some, Option.bind_some]
      by_cases hk : k1 = k2
      · subst hk
        have f1 : rt_bind k1 t2 (ds.set (k1 - 32) (t1 + 1)) = if t1 = t2 then some (ds.set (k1 - 32) (t1 + 1)) else none := by
          have := rt_bind_this hd a1 e1
          unfold rt_bind
          rw [this]
        have f2 : rt_bind k1 t1 (ds.set (k1 - 32) (t2 + 1)) = if t2 = t1 then some (ds.set (k1 - 32) (t2 + 1)) else none := by
          have := rt_bind_this hd a1 e2
          unfold rt_bind
          rw [this]
        rw [f1, f2]
        by_cases c : t1 = t2
        · subst c; rfl
        · rw [if_neg c, if_neg (fun z => c z.symm)]
      · have f1 : rt_bind k2 t2 (ds.set (k1 - 32) (t1 + 1)) = some ((ds.set (k1 - 32) (t1 + 1)).set (k2 - 32) (t2 + 1)) := by
          unfold rt_bind
          rw [rt_set_none h2 hk g1]
        have f2 : rt_bind k1 t1 (ds.set (k2 - 32) (t2 + 1)) = some ((ds.set (k2 - 32) (t2 + 1)).set (k1 - 32) (t1 + 1)) := by
          unfold rt_bind
          rw [rt_set_none h1 (fun z => hk z.symm) g2]
        rw [f1, f2, List.set_comm _ _ (by omega)]
/-- the fitting of one premise of a rule -/
def rs_fit (r k c : Nat) (ds : List Nat) : Option (List Nat) := rt_fit (rq_prem.getD (12 * r + 3 * k) 0) (rq_prem.getD (12 * r + 3 * k + 1) 0) (rq_prem.getD (12 * r + 3 * k + 2) 0) c ds
theorem mi_item_b {k t q : Nat} {ds : List Nat} {bd : Nat → Nat} : (rt_bind k t ds = none ∧ (mi_item k t q ds bd).2 = false) ∨ (rt_bind k t ds = some (mi_item k t q ds bd).1.1 ∧ (mi_item k t q ds bd).2 = true) := by
  unfold rt_bind mi_item
  cases rt_term k ds with
  | some u =>
    by_cases h : u = t
    · right; simp [h]
    · left; simp [h]
  | none => right; exact ⟨rfl, rfl⟩
theorem mi_fits_b {r l c : Nat} {ds : List Nat} {bd : Nat → Nat} (hd : rt_ok ds) (hc : c < 32768) : (rs_fit r l c ds = none ∧ (mi_fits r l c ds bd).2 = false) ∨ (rs_fit r l c ds = some (mi_fits r l c ds bd).1.1 ∧ (mi_fits r l c ds bd).2 = true) := by
  have key : rs_fit r l c ds = (rt_bind (rq_prem.getD (12 * r + 3 * l) 0) (c / 1024) ds).bind (fun d => (rt_bind (rq_prem.getD (12 * r + 3 * l + 1) 0) (c / 32 % 32) d).bind (fun d => rt_bind (rq_prem.getD (12 * r + 3 * l + 2) 0) (c % 32) d)) := by
    unfold rs_fit rt_fit
    rw [show c / 32 / 32 = c / 1024 by omega]
    have := rt_bind_comm (t1 := c / 32 % 32) (t2 := c / 1024) hd (rq_prem_lt (12 * r + 3 * l + 1)) (rq_prem_lt (12 * r + 3 * l))
    rw [← Option.bind_assoc, ← Option.bind_assoc, this]
  rw [key]
  unfold mi_fits
  rcases mi_item_b (k := rq_prem.getD (12 * r + 3 * l) 0) (t := c / 1024) (q := 3 * l + 0) (ds := ds) (bd := bd) with ⟨h1, h2⟩ | ⟨h1, h2⟩
  · left
    rw [h1, if_neg (by rw [h2]; simp)]
    exact ⟨rfl, rfl⟩
  · rw [h1, if_pos h2, Option.bind_some]
    generalize mi_item (rq_prem.getD (12 * r + 3 * l) 0) (c / 1024) (3 * l + 0) ds bd = x
    rcases mi_item_b (k := rq_prem.getD (12 * r + 3 * l + 1) 0) (t := c / 32 % 32) (q := 3 * l + 1) (ds := x.1.1) (bd := x.1.2) with ⟨g1, g2⟩ | ⟨g1, g2⟩
    · left
      rw [g1, if_neg (by rw [g2]; simp)]
      exact ⟨rfl, rfl⟩
    · rw [g1, if_pos g2, Option.bind_some]
      generalize mi_item (rq_prem.getD (12 * r + 3 * l + 1) 0) (c / 32 % 32) (3 * l + 1) x.1.1 x.1.2 = y
      exact mi_item_b
/-! release -/
def mr_K (ds0 ds : List Nat) (l : Nat) (bd0 bd : Nat → Nat) : Prop := ds.length = 10 ∧ ds0.length = 10 ∧ (∀ j, ds.getD j 0 = ds0.getD j 0 ∨ (ds0.getD j 0 = 0 ∧ ∃ q, 3 * l ≤ q ∧ q < 3 * l + 3 ∧ bd q = j + 32)) ∧ (∀ q, bd q = bd0 q ∨ (3 * l ≤ q ∧ q < 3 * l + 3)) ∧ (∀ q, 3 * l ≤ q → q < 3 * l + 3 → 0 < bd q → ds0.getD (bd q - 32) 0 = 0)
theorem mr_item {ds0 ds : List Nat} {l k t q : Nat} {bd0 bd : Nat → Nat} (h : mr_K ds0 ds l bd0 bd) (hk : k < 42) (hq1 : 3 * l ≤ q) (hq2 : q < 3 * l + 3) (hz : bd q = 0) : mr_K ds0 (mi_item k t q ds bd).1.1 l bd0 (mi_item k t q ds bd).1.2 := by
  unfold mi_item
  cases ht : rt_term k ds with
  | some u => exact h
  | none =>
    obtain ⟨h32, h0⟩ := rt_none ht
    obtain ⟨a1, a2, a3, a4, a5⟩ := h
    have hk0 : ds0.getD (k - 32) 0 = 0 := by
      rcases a3 (k - 32) with z | z
      · rw [← z]; exact h0
      · exact z.1
    refine ⟨by rw [List.length_set]; exact a1, a2, fun j => ?_, fun q' => ?_, fun q' g1 g2 g3 => ?_⟩
    · by_cases e : j = k - 32
      · right
        subst e
        refine ⟨hk0, q, hq1, hq2, ?_⟩
        · show ua bd q k q = k - 32 + 32
          unfold ua
          rw [if_pos rfl]
          omega
      · have e1 : (ds.set (k - 32) (t + 1)).getD j 0 = ds.getD j 0 := by
          rw [List.getD_eq_getElem?_getD, List.getElem?_set_ne (fun z => e z.symm), ← List.getD_eq_getElem?_getD]
        show (ds.set (k - 32) (t + 1)).getD j 0 = _ ∨ _
        rw [e1]
        rcases a3 j with z | ⟨z1, q9, z2, z3, z4⟩
        · exact Or.inl z
        · refine Or.inr ⟨z1, q9, z2, z3, ?_⟩
          show ua bd q k q9 = j + 32
          unfold ua
          split
          · rename_i e9
            rw [e9, hz] at z4
            omega
          · exact z4
    · show ua bd q k q' = bd0 q' ∨ _
      unfold ua
      split
      · rename_i e9
        subst e9
        exact Or.inr ⟨hq1, hq2⟩
      · exact a4 q'
    · show ds0.getD (ua bd q k q' - 32) 0 = 0
      have g3 : 0 < ua bd q k q' := g3
      unfold ua at g3 ⊢
      split
      · exact hk0
      · rename_i e9
        rw [if_neg e9] at g3
        exact a5 q' g1 g2 g3
theorem mr_item_z {k t q q' : Nat} {ds : List Nat} {bd : Nat → Nat} (hne : q' ≠ q) (hz : bd q' = 0) : (mi_item k t q ds bd).1.2 q' = 0 := by
  unfold mi_item
  split
  · exact hz
  · show ua bd q k q' = 0
    unfold ua
    rw [if_neg hne]
    exact hz
theorem mr_fits {r l c : Nat} {ds : List Nat} {bd : Nat → Nat} (hd : ds.length = 10) (hz : ∀ q, 3 * l ≤ q → bd q = 0) : mr_K ds (mi_fits r l c ds bd).1.1 l bd (mi_fits r l c ds bd).1.2 := by
  have h0 : mr_K ds ds l bd bd := ⟨hd, hd, fun j => Or.inl rfl, fun q => Or.inl rfl, fun q g1 _ g3 => by rw [hz q g1] at g3; omega⟩
  have h1 := mr_item (k := rq_prem.getD (12 * r + 3 * l) 0) (t := c / 1024) (q := 3 * l + 0) h0 (rq_prem_lt _) (by omega) (by omega) (hz _ (by omega))
  have z1 : (mi_item (rq_prem.getD (12 * r + 3 * l) 0) (c / 1024) (3 * l + 0) ds bd).1.2 (3 * l + 1) = 0 := mr_item_z (by omega) (hz _ (by omega))
  have z2 : (mi_item (rq_prem.getD (12 * r + 3 * l) 0) (c / 1024) (3 * l + 0) ds bd).1.2 (3 * l + 2) = 0 := mr_item_z (by omega) (hz _ (by omega))
  unfold mi_fits
  generalize mi_item (rq_prem.getD (12 * r + 3 * l) 0) (c / 1024) (3 * l + 0) ds bd = x at h1 z1 z2 ⊢
  have h2 := mr_item (k := rq_prem.getD (12 * r + 3 * l + 1) 0) (t := c / 32 % 32) (q := 3 * l + 1) h1 (rq_prem_lt _) (by omega) (by omega) z1
  have z3 : (mi_item (rq_prem.getD (12 * r + 3 * l + 1) 0) (c / 32 % 32) (3 * l + 1) x.1.1 x.1.2).1.2 (3 * l + 2) = 0 := mr_item_z (by omega) z2
  split
  · generalize mi_item (rq_prem.getD (12 * r + 3 * l + 1) 0) (c / 32 % 32) (3 * l + 1) x.1.1 x.1.2 = y at h2 z3 ⊢
    split
    · exact mr_item h2 (rq_prem_lt _) (by omega) (by omega) z3
    · exact h2
  · exact h1
theorem mr_rel1 {ds0 ds : List Nat} {l q : Nat} {bd0 bd : Nat → Nat} (h : mr_K ds0 ds l bd0 bd) (hb : mb_ok bd) (hq1 : 3 * l ≤ q) (hq2 : q < 3 * l + 3) : mr_K ds0 (mi_rel1 q (ds, bd)).1 l bd0 (mi_rel1 q (ds, bd)).2 ∧ (mi_rel1 q (ds, bd)).2 q = 0 ∧ ∀ q', q' ≠ q → (mi_rel1 q (ds, bd)).2 q' = bd q' := by
  unfold mi_rel1
  by_cases hp : 0 < bd q
  · have hp' : 0 < ((ds, bd) : List Nat × (Nat → Nat)).2 q := hp
    rw [if_pos hp']
    have h32 : 32 ≤ bd q := by rcases hb q with z | z; omega; exact z.1
    obtain ⟨a1, a2, a3, a4, a5⟩ := h
    have hz0 := a5 q hq1 hq2 hp
    refine ⟨⟨by rw [List.length_set]; exact a1, a2, fun j => ?_, fun q' => ?_, fun q' g1 g2 g3 => ?_⟩, ?_, ?_⟩
    · show (ds.set (bd q - 32) 0).getD j 0 = _ ∨ _
      by_cases e : j = bd q - 32
      · subst e
        by_cases hl : bd q - 32 < 10
        · rw [List.getD_eq_getElem?_getD, List.getElem?_set_self (by rw [a1]; exact hl)]
          left
          rw [hz0]
          rfl
        · left
          rw [List.getD_eq_getElem?_getD, List.getElem?_eq_none (by rw [List.length_set, a1]; omega), List.getD_eq_getElem?_getD, List.getElem?_eq_none (by rw [a2]; omega)]
      · rw [List.getD_eq_getElem?_getD, List.getElem?_set_ne (fun z => e z.symm), ← List.getD_eq_getElem?_getD]
        rcases a3 j with z | ⟨z1, q9, z2, z3, z4⟩
        · exact Or.inl z
        · refine Or.inr ⟨z1, q9, z2, z3, ?_⟩
          show ua bd q 0 q9 = j + 32
          unfold ua
          split
          · rename_i e9
            rw [e9] at z4
            omega
          · exact z4
    · show ua bd q 0 q' = bd0 q' ∨ _
      unfold ua
      split
      · rename_i e9
        subst e9
        exact Or.inr ⟨hq1, hq2⟩
      · exact a4 q'
    · show ds0.getD (ua bd q 0 q' - 32) 0 = 0
      have g3 : 0 < ua bd q 0 q' := g3
      unfold ua at g3 ⊢
      split
      · rename_i e9
        rw [if_pos e9] at g3
        omega
      · rename_i e9
        rw [if_neg e9] at g3
        exact a5 q' g1 g2 g3
    · show ua bd q 0 q = 0
      unfold ua
      rw [if_pos rfl]
    · intro q' hne
      show ua bd q 0 q' = bd q'
      unfold ua
      rw [if_neg hne]
  · have hp' : ¬ 0 < ((ds, bd) : List Nat × (Nat → Nat)).2 q := hp
    rw [if_neg hp']
    exact ⟨h, by show bd q = 0; omega, fun _ _ => rfl⟩
/-- what a fitting bound is released: the letters and the bound places are as before -/
theorem mr_all {ds0 ds : List Nat} {l : Nat} {bd0 bd : Nat → Nat} (h : mr_K ds0 ds l bd0 bd) (hb : mb_ok bd) (hd : rt_ok ds) (hz : ∀ q, 3 * l ≤ q → bd0 q = 0) : mi_rel 3 (3 * l) (ds, bd) = (ds0, bd0) := by
  obtain ⟨k1, u1, v1⟩ := mr_rel1 h hb (q := 3 * l) (by omega) (by omega)
  have o1 := mi_rel1_ok (q := 3 * l) (x := (ds, bd)) hd hb
  show mi_rel1 (3 * l + 1 + 1) (mi_rel1 (3 * l + 1) (mi_rel1 (3 * l) (ds, bd))) = (ds0, bd0)
  generalize mi_rel1 (3 * l) (ds, bd) = x at k1 u1 v1 o1 ⊢
  obtain ⟨x1, x2⟩ := x
  obtain ⟨k2, u2, v2⟩ := mr_rel1 k1 o1.2 (q := 3 * l + 1) (by omega) (by omega)
  have o2 := mi_rel1_ok (q := 3 * l + 1) (x := (x1, x2)) o1.1 o1.2
  generalize mi_rel1 (3 * l + 1) (x1, x2) = y at k2 u2 v2 o2 ⊢
  obtain ⟨y1, y2⟩ := y
  obtain ⟨k3, u3, v3⟩ := mr_rel1 k2 o2.2 (q := 3 * l + 1 + 1) (by omega) (by omega)
  generalize mi_rel1 (3 * l + 1 + 1) (y1, y2) = w at k3 u3 v3 ⊢
  obtain ⟨w1, w2⟩ := w
  obtain ⟨a1, a2, a3, a4, -⟩ := k3
  have hw : ∀ q, 3 * l ≤ q → q < 3 * l + 3 → w2 q = 0 := by
    intro q g1 g2
    rcases (show q = 3 * l ∨ q = 3 * l + 1 ∨ q = 3 * l + 1 + 1 by omega) with e | e | e
    · rw [e]
      have e1 := v3 (3 * l) (by omega)
      have e2 := v2 (3 * l) (by omega)
      exact e1.trans (e2.trans u1)
    · rw [e]
      exact (v3 (3 * l + 1) (by omega)).trans u2
    · rw [e]; exact u3
  have e1 : w1 = ds0 := by
    apply List.ext_getElem (by rw [a1, a2])
    intro j hj1 hj2
    have := a3 j
    rw [List.getD_eq_getElem?_getD, List.getD_eq_getElem?_getD, List.getElem?_eq_getElem hj1, List.getElem?_eq_getElem hj2] at this
    rcases this with z | ⟨-, q, g1, g2, g3⟩
    · exact z
    · have g3 : w2 q = j + 32 := g3
      rw [hw q g1 g2] at g3
      omega
  have e2 : w2 = bd0 := by
    funext q
    rcases a4 q with z | ⟨g1, g2⟩
    · exact z
    · show w2 q = bd0 q
      rw [hw q g1 g2, hz q g1]
  rw [e1, e2]
theorem mr_back {r l c : Nat} {ds : List Nat} {bd : Nat → Nat} (hd : rt_ok ds) (hb : mb_ok bd) (hc : c < 32768) (hz : ∀ q, 3 * l ≤ q → bd q = 0) : mi_rel 3 (3 * l) (mi_fits r l c ds bd).1 = (ds, bd) := by
  have o := mi_fits_ok (r := r) (l := l) hc hd hb
  exact mr_all (mr_fits hd.1 hz) o.2 o.1 hz
theorem mr_none {l : Nat} {ds : List Nat} {bd : Nat → Nat} (hd : rt_ok ds) (hb : mb_ok bd) (hz : ∀ q, 3 * l ≤ q → bd q = 0) : mi_rel 3 (3 * l) (ds, bd) = (ds, bd) :=
  mr_all ⟨hd.1, hd.1, fun _ => Or.inl rfl, fun _ => Or.inl rfl, fun q g1 _ g3 => by rw [hz q g1] at g3; omega⟩ hb hd hz
theorem mr_high {r l c : Nat} {ds : List Nat} {bd : Nat → Nat} (hd : rt_ok ds) (hz : ∀ q, 3 * l ≤ q → bd q = 0) : ∀ q, 3 * (l + 1) ≤ q → (mi_fits r l c ds bd).1.2 q = 0 := by
  intro q hq
  rcases (mr_fits (r := r) (c := c) hd.1 hz).2.2.2.1 q with z | ⟨-, g⟩
  · rw [z]; exact hz q (by omega)
  · omega
