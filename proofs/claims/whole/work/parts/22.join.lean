/-! models: folds that end early; what a join does, over any state; the states of the two matchers -/
theorem rc_fr_hit {f : Nat → Int32} {n a j : Nat} (h : j < rb_cnt (f a)) : (rc_fr f (n + 1) a)[j]? = some (a * 32 + rb_at (f a) j) := by
  show ((rb_els (f a)).map (fun o => a * 32 + o) ++ rc_fr f n (a + 1))[j]? = _
  unfold rb_cnt at h
  rw [List.getElem?_append_left (by rw [List.length_map]; exact h), List.getElem?_map, List.getElem?_eq_getElem h]
  unfold rb_at
  rw [List.getD_eq_getElem?_getD, List.getElem?_eq_getElem h]
  rfl
theorem rc_fr_miss {f : Nat → Int32} {n a j : Nat} (h : rb_cnt (f a) ≤ j) : (rc_fr f (n + 1) a)[j]? = (rc_fr f n (a + 1))[j - rb_cnt (f a)]? := by
  show ((rb_els (f a)).map (fun o => a * 32 + o) ++ rc_fr f n (a + 1))[j]? = _
  unfold rb_cnt at h ⊢
  rw [List.getElem?_append_right (by rw [List.length_map]; exact h), List.length_map]
def rb_z (b : Bool) : Int32 := if b then nI 1 else nI 0
theorem rb_z_nar (b : Bool) : narrow .boolean (.int (rb_z b)) = .int (rb_z b) := by cases b <;> rfl
theorem rb_z_fit (b : Bool) : fits .boolean (.int (rb_z b)) = true := by cases b <;> rfl
theorem rb_z0 {b : Bool} : rb_z b = 0 ↔ b = false := by cases b <;> decide
/-- a fold that ends at the first true -/
def rj_fold {σ α : Type} (f : σ → α → σ × Bool) : σ → List α → σ × Bool
  | st, [] => (st, false)
  | st, c :: l => if (f st c).2 = true then f st c else rj_fold f (f st c).1 l
theorem rj_fold_stop {σ α : Type} {f : σ → α → σ × Bool} {st : σ} {c : α} {l : List α} {r : σ × Bool} (h : rj_fold f st (c :: l) = r) (hs : (f st c).2 = true) : f st c = r := by
  rw [← h]
  show _ = if (f st c).2 = true then f st c else rj_fold f (f st c).1 l
  rw [if_pos hs]
theorem rj_fold_go {σ α : Type} {f : σ → α → σ × Bool} {st : σ} {c : α} {l : List α} {r : σ × Bool} (h : rj_fold f st (c :: l) = r) (hs : (f st c).2 = false) : rj_fold f (f st c).1 l = r := by
  rw [← h]
  show _ = if (f st c).2 = true then f st c else rj_fold f (f st c).1 l
  rw [if_neg (by rw [hs]; simp)]
/-- the three loops of a join over one premise, then the rest -/
def rj_pat (r k : Nat) : Nat := 12 * r + 3 * k
def rj_body {σ : Type} (ch : Nat → Nat → σ → σ) (r k : Nat) (ds : List Nat) (next : List Nat → σ → σ × Bool) (st : σ) (c : Nat) : σ × Bool :=
  match rt_fit (rq_prem.getD (12 * r + 3 * k) 0) (rq_prem.getD (12 * r + 3 * k + 1) 0) (rq_prem.getD (12 * r + 3 * k + 2) 0) c ds with
  | none => (ch k c st, false)
  | some ds' => next ds' (ch k c st)
def rj_join {σ : Type} (TV : Option Nat → Option Nat → Option Nat → List Nat) (mt : List Nat → σ → σ × Bool) (ch : Nat → Nat → σ → σ) (r : Nat) (fx : Option Nat) : Nat → Nat → List Nat → σ → σ × Bool
  | 0, _, ds, st => mt ds st
  | rem + 1, k, ds, st => if fx = some k then rj_join TV mt ch r fx rem (k + 1) ds st else
    rj_fold (rj_body ch r k ds (rj_join TV mt ch r fx rem (k + 1))) st (TV (rt_term (rq_prem.getD (12 * r + 3 * k) 0) ds) (rt_term (rq_prem.getD (12 * r + 3 * k + 1) 0) ds) (rt_term (rq_prem.getD (12 * r + 3 * k + 2) 0) ds))
/-- the letters of the premises that have been fitted are bound -/
def rj_cov (r k : Nat) (fx : Option Nat) (ds : List Nat) : Prop := ∀ j, j < rq_cnts.getD r 0 → j < k ∨ fx = some j → ∀ t, t < 3 → ∃ u, u < 32 ∧ rt_term (rq_prem.getD (12 * r + 3 * j + t) 0) ds = some u
theorem rt_bind_keep {k t : Nat} {ds ds' : List Nat} (h : rt_bind k t ds = some ds') {q u : Nat} (hq : rt_term q ds = some u) : rt_term q ds' = some u := by
  unfold rt_bind at h
  split at h
  · rename_i hn
    cases h
    obtain ⟨hk, h0⟩ := rt_none hn
    unfold rt_term at hq ⊢
    split at hq
    · rename_i hql
      rw [if_pos hql]; exact hq
    · rename_i hql
      rw [if_neg hql]
      by_cases e : q - 32 = k - 32
      · rw [e, h0] at hq
        cases hq
      · rw [List.getD_eq_getElem?_getD, List.getElem?_set_ne (fun z => e z.symm), ← List.getD_eq_getElem?_getD]
        exact hq
  · split at h
    · cases h; exact hq
    · cases h
theorem rt_bind_this {k t : Nat} {ds ds' : List Nat} (hd : rt_ok ds) (hk : k < 42) (h : rt_bind k t ds = some ds') : rt_term k ds' = some t := by
  unfold rt_bind at h
  split at h
  · rename_i hn
    cases h
    obtain ⟨hk1, h0⟩ := rt_none hn
    unfold rt_term
    rw [if_neg (by omega), List.getD_eq_getElem?_getD, List.getElem?_set_self (by rw [hd.1]; omega)]
    rfl
  · rename_i u hu
    split at h
    · rename_i e
      cases h
      rw [hu, e]
    · cases h
theorem rt_fit_keep {k1 k2 k3 c : Nat} {ds ds' : List Nat} (h : rt_fit k1 k2 k3 c ds = some ds') {q u : Nat} (hq : rt_term q ds = some u) : rt_term q ds' = some u := by
  unfold rt_fit at h
  obtain ⟨d1, h1, h⟩ := Option.bind_eq_some_iff.mp h
  obtain ⟨d2, h2, h⟩ := Option.bind_eq_some_iff.mp h
  exact rt_bind_keep h (rt_bind_keep h2 (rt_bind_keep h1 hq))
theorem rt_fit_this {k1 k2 k3 c : Nat} {ds ds' : List Nat} (hd : rt_ok ds) (hc : c < 32768) (a1 : k1 < 42) (a2 : k2 < 42) (a3 : k3 < 42) (h : rt_fit k1 k2 k3 c ds = some ds') : rt_term k1 ds' = some (c / 32 / 32) ∧ rt_term k2 ds' = some (c / 32 % 32) ∧ rt_term k3 ds' = some (c % 32) := by
  unfold rt_fit at h
  obtain ⟨d1, h1, h⟩ := Option.bind_eq_some_iff.mp h
  obtain ⟨d2, h2, h⟩ := Option.bind_eq_some_iff.mp h
  have o1 := rt_bind_ok hd (by omega) h1
  have o2 := rt_bind_ok o1 (by omega) h2
  exact ⟨rt_bind_keep h (rt_bind_this o1 a1 h2), rt_bind_keep h (rt_bind_keep h2 (rt_bind_this hd a2 h1)), rt_bind_this o2 a3 h⟩
theorem rj_cov_step {r k : Nat} {fx : Option Nat} {ds ds' : List Nat} {c : Nat} (hd : rt_ok ds) (hc : c < 32768) (h : rj_cov r k fx ds) (hf : rt_fit (rq_prem.getD (12 * r + 3 * k) 0) (rq_prem.getD (12 * r + 3 * k + 1) 0) (rq_prem.getD (12 * r + 3 * k + 2) 0) c ds = some ds') : rj_cov r (k + 1) fx ds' := by
  obtain ⟨t1, t2, t3⟩ := rt_fit_this hd hc (rq_prem_lt _) (rq_prem_lt _) (rq_prem_lt _) hf
  intro j hj hk t ht
  by_cases e : j = k
  · subst e
    rcases (show t = 0 ∨ t = 1 ∨ t = 2 by omega) with rfl | rfl | rfl
    · exact ⟨_, by omega, t1⟩
    · exact ⟨_, by omega, t2⟩
    · exact ⟨_, by omega, t3⟩
  · obtain ⟨u, hu, hq⟩ := h j hj (hk.elim (fun z => Or.inl (by omega)) Or.inr) t ht
    exact ⟨u, hu, rt_fit_keep hf hq⟩
theorem rj_cov_skip {r k : Nat} {fx : Option Nat} {ds : List Nat} (h : rj_cov r k fx ds) (hf : fx = some k) : rj_cov r (k + 1) fx ds := by
  intro j hj hk t ht
  by_cases e : j = k
  · exact h j hj (Or.inr (by rw [hf, e])) t ht
  · exact h j hj (hk.elim (fun z => Or.inl (by omega)) Or.inr) t ht
theorem rq_given_in : ∀ r, r < 21 → ∀ t, t < 3 → rq_given.getD (3 * r + t) 0 < 32 ∨ ∃ j, j < rq_cnts.getD r 0 ∧ ∃ u, u < 3 ∧ rq_given.getD (3 * r + t) 0 = rq_prem.getD (12 * r + 3 * j + u) 0 := by
  have h : ∀ r, r < 21 → ∀ t, t < 3 → rq_given.getD (3 * r + t) 0 < 32 ∨ (∃ j : Fin 4, j.val < rq_cnts.getD r 0 ∧ ∃ u : Fin 3, rq_given.getD (3 * r + t) 0 = rq_prem.getD (12 * r + 3 * j.val + u.val) 0) := by decide +kernel
  intro r hr t ht
  rcases h r hr t ht with z | ⟨j, hj, u, hu⟩
  · exact Or.inl z
  · exact Or.inr ⟨j.val, hj, u.val, u.isLt, hu⟩
theorem rj_cov_given {r k : Nat} {fx : Option Nat} {ds : List Nat} (hr : r < 21) (hk : rq_cnts.getD r 0 ≤ k) (h : rj_cov r k fx ds) (t : Nat) (ht : t < 3) : ∃ u, u < 32 ∧ rt_term (rq_given.getD (3 * r + t) 0) ds = some u := by
  rcases rq_given_in r hr t ht with z | ⟨j, hj, u, hu, e⟩
  · refine ⟨_, z, ?_⟩
    unfold rt_term
    rw [if_pos z]
  · rw [e]
    exact h j hj (Or.inl (by omega)) u hu
/-- the code that a rule gives -/
def rj_given (r : Nat) (ds : List Nat) : Nat := rx_code ((rt_term (rq_given.getD (3 * r) 0) ds).getD 0) ((rt_term (rq_given.getD (3 * r + 1) 0) ds).getD 0) ((rt_term (rq_given.getD (3 * r + 2) 0) ds).getD 0)
abbrev sT : Type := (Nat → Int32) × (Nat → Int32) × (Nat → Int32) × Int32
def rx_put (c : Nat) (x : sT) : sT := (upd x.1 (c / 32) (x.1 (c / 32) ||| (nI 1) <<< (nI (c % 32) &&& 31)), upd x.2.1 (c / 32 % 32) (x.2.1 (c / 32 % 32) ||| (nI 1) <<< (nI (c / 32 / 32) &&& 31)), upd x.2.2.1 (c / 32 / 32) (x.2.2.1 (c / 32 / 32) ||| (nI 1) <<< (nI (c / 32 % 32) &&& 31)), x.2.2.2 ||| (nI 1) <<< (nI (c / 32 / 32) &&& 31))
/-- the state of a round under way: chosen, come, codes, rounds, how many, too large -/
abbrev sD : Type := (Nat → Int32) × sT × (Nat → Int32) × (Nat → Int32) × Nat × Bool
def rd_ch (k c : Nat) (st : sD) : sD := (upd st.1 k (nI c), st.2)
def rd_add (now : Nat) (c : Nat) (st : sD) : sD := if rb_b (st.2.1.1 (c / 32)) (c % 32) then st else if 400 ≤ st.2.2.2.2.1 then (st.1, st.2.1, st.2.2.1, st.2.2.2.1, st.2.2.2.2.1, true) else
  (st.1, rx_put c st.2.1, upd st.2.2.1 st.2.2.2.2.1 (nI c), upd st.2.2.2.1 st.2.2.2.2.1 (nI now), st.2.2.2.2.1 + 1, st.2.2.2.2.2)
def rd_meet (now r : Nat) (ds : List Nat) (st : sD) : sD × Bool := (rd_add now (rj_given r ds) st, (rd_add now (rj_given r ds) st).2.2.2.2.2)
/-- the seeker's: chosen, met, the row found -/
abbrev sS : Type := (Nat → Int32) × Int32 × Int32
def rs_ch (k c : Nat) (st : sS) : sS := (upd st.1 k (nI c), st.2)
def rs_meet (wanted : Int32) (r : Nat) (_ : List Nat) (st : sS) : sS × Bool := ((st.1, st.2.1 + 1, if st.2.1 = wanted then nI r else st.2.2), decide (st.2.1 = wanted))
theorem rd_cnt_le {now c : Nat} {st : sD} (h : st.2.2.2.2.1 ≤ 400) : (rd_add now c st).2.2.2.2.1 ≤ 400 := by
  unfold rd_add
  split
  · exact h
  · split
    · exact h
    · show st.2.2.2.2.1 + 1 ≤ 400
      omega
