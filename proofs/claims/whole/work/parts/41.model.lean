/-! the reference: its patterns, and what its own methods do, by naturals -/
def rp_tab : List Int32 := [131489, -1, -1, -1, 135584, 131489, 135586, -1, -1, 131490, 131489, 133410, -1, -1, 137506, 131489, 141600, -1, -1, 141601, 147687, 133409, -1, -1, 131111, 147751, 133409, -1, -1, 135207, 147472, 133409, -1, -1, 137504, 147471, 133409, 137506, -1, 133410, 147813, 133409, -1, -1, 137568, 147813, 133473, -1, -1, 137504, 147621, 133409, -1, -1, 133473, 147621, 151718, -1, -1, 147622, 159848, 131111, -1, -1, 131112, 159848, 163945, -1, -1, 159849, 147473, 133409, 133410, -1, 135586, 147474, 133410, 137506, -1, 131489, 160424, 160356, 133409, 135208, 131111, 160488, 160356, 131111, 133409, 135208, 160547, 160356, 131111, -1, 133411, 160547, 160356, 133411, -1, 131111, 148325, 148390, 133473, 137634, 133410, 131489, 131553, -1, -1, -1, 160296, 131111, 131112, -1, -1, 148709, 133409, 133473, -1, -1]
theorem rp_prem : ∀ r, r < 24 → ∀ k, k < rq_cnts.getD r 0 → rp_tab.getD (5 * r + k) (-1) = nI (4096 * rq_prem.getD (12 * r + 3 * k) 0 + 64 * rq_prem.getD (12 * r + 3 * k + 1) 0 + rq_prem.getD (12 * r + 3 * k + 2) 0) := by
  have h : ∀ r, r < 24 → ∀ k, k < 4 → k < rq_cnts.getD r 0 → rp_tab.getD (5 * r + k) (-1) = nI (4096 * rq_prem.getD (12 * r + 3 * k) 0 + 64 * rq_prem.getD (12 * r + 3 * k + 1) 0 + rq_prem.getD (12 * r + 3 * k + 2) 0) := by decide +kernel
  intro r hr k hk
  exact h r hr k (by have := rq_cnts_le r hr; omega) hk
theorem rp_given : ∀ r, r < 21 → rp_tab.getD (5 * r + 4) (-1) = nI (4096 * rq_given.getD (3 * r) 0 + 64 * rq_given.getD (3 * r + 1) 0 + rq_given.getD (3 * r + 2) 0) := by decide +kernel
theorem rp_neg : ∀ r, r < 24 → ∀ k, k < 4 → (rp_tab.getD (5 * r + k) (-1) < 0 ↔ rq_cnts.getD r 0 ≤ k) := by decide +kernel
/-- one item against a term: letters, what was bound at this place -/
def mi_item (k t q : Nat) (ds : List Nat) (bd : Nat → Nat) : (List Nat × (Nat → Nat)) × Bool := match rt_term k ds with
  | some u => ((ds, bd), decide (u = t))
  | none => ((ds.set (k - 32) (t + 1), ua bd q k), true)
def mi_fits (r l c : Nat) (ds : List Nat) (bd : Nat → Nat) : (List Nat × (Nat → Nat)) × Bool :=
  if (mi_item (rq_prem.getD (12 * r + 3 * l) 0) (c / 1024) (3 * l + 0) ds bd).2 = true then
    (if (mi_item (rq_prem.getD (12 * r + 3 * l + 1) 0) (c / 32 % 32) (3 * l + 1) (mi_item (rq_prem.getD (12 * r + 3 * l) 0) (c / 1024) (3 * l + 0) ds bd).1.1 (mi_item (rq_prem.getD (12 * r + 3 * l) 0) (c / 1024) (3 * l + 0) ds bd).1.2).2 = true then
      mi_item (rq_prem.getD (12 * r + 3 * l + 2) 0) (c % 32) (3 * l + 2) (mi_item (rq_prem.getD (12 * r + 3 * l + 1) 0) (c / 32 % 32) (3 * l + 1) (mi_item (rq_prem.getD (12 * r + 3 * l) 0) (c / 1024) (3 * l + 0) ds bd).1.1 (mi_item (rq_prem.getD (12 * r + 3 * l) 0) (c / 1024) (3 * l + 0) ds bd).1.2).1.1 (mi_item (rq_prem.getD (12 * r + 3 * l + 1) 0) (c / 32 % 32) (3 * l + 1) (mi_item (rq_prem.getD (12 * r + 3 * l) 0) (c / 1024) (3 * l + 0) ds bd).1.1 (mi_item (rq_prem.getD (12 * r + 3 * l) 0) (c / 1024) (3 * l + 0) ds bd).1.2).1.2
     else ((mi_item (rq_prem.getD (12 * r + 3 * l + 1) 0) (c / 32 % 32) (3 * l + 1) (mi_item (rq_prem.getD (12 * r + 3 * l) 0) (c / 1024) (3 * l + 0) ds bd).1.1 (mi_item (rq_prem.getD (12 * r + 3 * l) 0) (c / 1024) (3 * l + 0) ds bd).1.2).1, false))
  else ((mi_item (rq_prem.getD (12 * r + 3 * l) 0) (c / 1024) (3 * l + 0) ds bd).1, false)
def mi_rel1 (q : Nat) (x : List Nat × (Nat → Nat)) : List Nat × (Nat → Nat) := if 0 < x.2 q then (x.1.set (x.2 q - 32) 0, ua x.2 q 0) else x
def mi_rel : Nat → Nat → List Nat × (Nat → Nat) → List Nat × (Nat → Nat)
  | 0, _, x => x
  | n + 1, i, x => mi_rel n (i + 1) (mi_rel1 i x)
/-- what was bound are letters -/
def mb_ok (bd : Nat → Nat) : Prop := ∀ q, bd q = 0 ∨ (32 ≤ bd q ∧ bd q < 42)
theorem mb_ok_ua {bd : Nat → Nat} {q k : Nat} (h : mb_ok bd) (hk : k = 0 ∨ (32 ≤ k ∧ k < 42)) : mb_ok (ua bd q k) := by
  intro j
  unfold ua
  split
  · exact hk
  · exact h j
theorem mi_rel1_ok {q : Nat} {x : List Nat × (Nat → Nat)} (h1 : rt_ok x.1) (h2 : mb_ok x.2) : rt_ok (mi_rel1 q x).1 ∧ mb_ok (mi_rel1 q x).2 := by
  unfold mi_rel1
  split
  · exact ⟨rt_set_ok h1 (Nat.zero_le _), mb_ok_ua h2 (Or.inl rfl)⟩
  · exact ⟨h1, h2⟩
theorem mi_rel_ok : ∀ (n i : Nat) (x : List Nat × (Nat → Nat)), rt_ok x.1 → mb_ok x.2 → rt_ok (mi_rel n i x).1 ∧ mb_ok (mi_rel n i x).2
  | 0, _, _, h1, h2 => ⟨h1, h2⟩
  | n + 1, i, x, h1, h2 => mi_rel_ok n (i + 1) _ (mi_rel1_ok h1 h2).1 (mi_rel1_ok h1 h2).2
theorem mi_item_ok {k t q : Nat} {ds : List Nat} {bd : Nat → Nat} (hk : k < 42) (ht : t < 32) (h1 : rt_ok ds) (h2 : mb_ok bd) : rt_ok (mi_item k t q ds bd).1.1 ∧ mb_ok (mi_item k t q ds bd).1.2 := by
  unfold mi_item
  split
  · exact ⟨h1, h2⟩
  · rename_i hn
    have := rt_none hn
    exact ⟨rt_set_ok h1 (by omega), mb_ok_ua h2 (Or.inr ⟨this.1, hk⟩)⟩
theorem mi_fits_ok {r l c : Nat} {ds : List Nat} {bd : Nat → Nat} (hc : c < 32768) (h1 : rt_ok ds) (h2 : mb_ok bd) : rt_ok (mi_fits r l c ds bd).1.1 ∧ mb_ok (mi_fits r l c ds bd).1.2 := by
  unfold mi_fits
  have a := mi_item_ok (k := rq_prem.getD (12 * r + 3 * l) 0) (t := c / 1024) (q := 3 * l + 0) (rq_prem_lt _) (by omega) h1 h2
  have b := mi_item_ok (k := rq_prem.getD (12 * r + 3 * l + 1) 0) (t := c / 32 % 32) (q := 3 * l + 1) (rq_prem_lt _) (by omega) a.1 a.2
  split
  · split
    · exact mi_item_ok (rq_prem_lt _) (by omega) b.1 b.2
    · exact b
  · exact a
/-- a search under way: the next places to try, letters, what was bound, the level and one -/
abbrev sQ : Type := (Nat → Nat) × List Nat × (Nat → Nat) × Nat
def mn_ (hl : Nat → Nat) (mn r : Nat) : Nat → sQ → Option (sQ × Bool)
  | 0, _ => none
  | n + 1, (a, ds, bd, lv) => match lv with
    | 0 => some ((a, ds, bd, 0), false)
    | l + 1 =>
      if a l = mn then mn_ hl mn r n (ua a l (a l + 1), (mi_rel 3 (3 * l) (ds, bd)).1, (mi_rel 3 (3 * l) (ds, bd)).2, l)
      else if (mi_fits r l (hl (a l)) (mi_rel 3 (3 * l) (ds, bd)).1 (mi_rel 3 (3 * l) (ds, bd)).2).2 = true then
        (if l + 1 = rq_cnts.getD r 0 then some ((ua a l (a l + 1), (mi_fits r l (hl (a l)) (mi_rel 3 (3 * l) (ds, bd)).1 (mi_rel 3 (3 * l) (ds, bd)).2).1.1, (mi_fits r l (hl (a l)) (mi_rel 3 (3 * l) (ds, bd)).1 (mi_rel 3 (3 * l) (ds, bd)).2).1.2, l + 1), true)
         else mn_ hl mn r n (ua (ua a l (a l + 1)) (l + 1) 0, (mi_fits r l (hl (a l)) (mi_rel 3 (3 * l) (ds, bd)).1 (mi_rel 3 (3 * l) (ds, bd)).2).1.1, (mi_fits r l (hl (a l)) (mi_rel 3 (3 * l) (ds, bd)).1 (mi_rel 3 (3 * l) (ds, bd)).2).1.2, l + 2))
      else mn_ hl mn r n (ua a l (a l + 1), (mi_fits r l (hl (a l)) (mi_rel 3 (3 * l) (ds, bd)).1 (mi_rel 3 (3 * l) (ds, bd)).2).1.1, (mi_fits r l (hl (a l)) (mi_rel 3 (3 * l) (ds, bd)).1 (mi_rel 3 (3 * l) (ds, bd)).2).1.2, l + 1)
def mq_ok (mn r : Nat) (st : sQ) : Prop := rt_ok st.2.1 ∧ mb_ok st.2.2.1 ∧ st.2.2.2 ≤ rq_cnts.getD r 0 ∧ ∀ j, j < st.2.2.2 → st.1 j ≤ mn
