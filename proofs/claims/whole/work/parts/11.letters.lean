/-! letters: ten digits to the base 64, the lowest first; 0 is free, a term and one more when it is bound -/
def rt_pk : List Nat → Nat
  | [] => 0
  | x :: xs => x + 64 * rt_pk xs
def rt_ok (ds : List Nat) : Prop := ds.length = 10 ∧ ∀ x ∈ ds, x ≤ 32
def rt_i : Option Nat → Int32
  | none => -1
  | some t => nI t
def rt_l : Option (List Nat) → Int64
  | none => -1
  | some ds => lN (rt_pk ds)
def rt_term (k : Nat) (ds : List Nat) : Option Nat := if k < 32 then some k else match ds.getD (k - 32) 0 with
  | 0 => none
  | t + 1 => some t
def rt_bind (k t : Nat) (ds : List Nat) : Option (List Nat) := match rt_term k ds with
  | none => some (ds.set (k - 32) (t + 1))
  | some u => if u = t then some ds else none
def rt_fit (k1 k2 k3 c : Nat) (ds : List Nat) : Option (List Nat) := (rt_bind k2 (c / 32 % 32) ds).bind fun ds => (rt_bind k1 (c / 32 / 32) ds).bind fun ds => rt_bind k3 (c % 32) ds
def rt_free : List Nat := List.replicate 10 0
theorem rt_free_ok : rt_ok rt_free := ⟨rfl, fun x h => by rw [List.eq_of_mem_replicate h]; exact Nat.zero_le _⟩
theorem rt_free_pk : rt_pk rt_free = 0 := rfl
theorem rt_pk_lt : ∀ (ds : List Nat), (∀ x ∈ ds, x ≤ 32) → rt_pk ds < 64 ^ ds.length
  | [], _ => by decide
  | x :: xs, h => by
    have h1 := rt_pk_lt xs (fun y hy => h y (List.mem_cons_of_mem _ hy))
    have h2 := h x List.mem_cons_self
    show x + 64 * rt_pk xs < 64 ^ (xs.length + 1)
    rw [Nat.pow_succ]
    omega
theorem rt_ok_lt {ds : List Nat} (h : rt_ok ds) : rt_pk ds < 1152921504606846976 := by
  have := rt_pk_lt ds h.2
  rw [h.1] at this
  exact this
theorem rt_pk_dig : ∀ (j : Nat) (ds : List Nat), (∀ x ∈ ds, x ≤ 32) → rt_pk ds / 64 ^ j % 64 = ds.getD j 0
  | _, [], _ => by simp [rt_pk]
  | 0, x :: xs, h => by
    have h2 := h x List.mem_cons_self
    show (x + 64 * rt_pk xs) / 64 ^ 0 % 64 = x
    rw [Nat.pow_zero, Nat.div_one]
    omega
  | j + 1, x :: xs, h => by
    have h1 := rt_pk_dig j xs (fun y hy => h y (List.mem_cons_of_mem _ hy))
    have h2 := h x List.mem_cons_self
    show (x + 64 * rt_pk xs) / 64 ^ (j + 1) % 64 = xs.getD j 0
    rw [← h1, Nat.pow_succ, Nat.mul_comm (64 ^ j) 64, ← Nat.div_div_eq_div_mul, show (x + 64 * rt_pk xs) / 64 = rt_pk xs by omega]
theorem rt_or64 (x y a b : Nat) (hx : x < 64) (hy : y < 64) : (x + 64 * a) ||| (y + 64 * b) = (x ||| y) + 64 * (a ||| b) := by
  have h8 : x ||| y < 2 ^ 6 := Nat.or_lt_two_pow hx hy
  apply Nat.eq_of_testBit_eq
  intro i
  have e1 := Nat.testBit_two_pow_mul_add a (show x < 2 ^ 6 from hx) i
  have e2 := Nat.testBit_two_pow_mul_add b (show y < 2 ^ 6 from hy) i
  have e3 := Nat.testBit_two_pow_mul_add (a ||| b) h8 i
  rw [show (2 : Nat) ^ 6 = 64 from rfl] at e1 e2 e3
  rw [Nat.add_comm x, Nat.add_comm y, Nat.add_comm (x ||| y), Nat.testBit_or, e1, e2, e3]
  split <;> simp [Nat.testBit_or]
theorem rt_pk_or : ∀ (j v : Nat) (ds : List Nat), (∀ x ∈ ds, x ≤ 32) → v < 64 → j < ds.length → ds.getD j 0 = 0 → rt_pk ds ||| v * 64 ^ j = rt_pk (ds.set j v)
  | _, _, [], _, _, hl, _ => absurd hl (Nat.not_lt_zero _)
  | 0, v, x :: xs, h, hv, _, h0 => by
    have hx : x = 0 := h0
    subst hx
    show (0 + 64 * rt_pk xs) ||| v * 64 ^ 0 = v + 64 * rt_pk xs
    have e := rt_or64 0 v (rt_pk xs) 0 (by omega) hv
    rw [Nat.pow_zero, Nat.mul_one]
    simpa using e
  | j + 1, v, x :: xs, h, hv, hl, h0 => by
    have hx := h x List.mem_cons_self
    have ih := rt_pk_or j v xs (fun y hy => h y (List.mem_cons_of_mem _ hy)) hv (Nat.lt_of_succ_lt_succ hl) h0
    show (x + 64 * rt_pk xs) ||| v * 64 ^ (j + 1) = x + 64 * rt_pk (xs.set j v)
    have e := rt_or64 x 0 (rt_pk xs) (v * 64 ^ j) (by omega) (by omega)
    rw [Nat.pow_succ, ← Nat.mul_assoc, Nat.mul_comm (v * 64 ^ j) 64, ← ih]
    simpa using e
theorem rt_set_ok {ds : List Nat} (h : rt_ok ds) {j v : Nat} (hv : v ≤ 32) : rt_ok (ds.set j v) := by
  refine ⟨by rw [List.length_set]; exact h.1, fun x hx => ?_⟩
  rcases List.mem_or_eq_of_mem_set hx with z | z
  · exact h.2 x z
  · rw [z]; exact hv
theorem rt_bind_ok {k t : Nat} {ds ds' : List Nat} (h : rt_ok ds) (ht : t < 32) (hb : rt_bind k t ds = some ds') : rt_ok ds' := by
  unfold rt_bind at hb
  split at hb
  · cases hb
    exact rt_set_ok h (by omega)
  · split at hb
    · cases hb; exact h
    · cases hb
theorem rt_fit_ok {k1 k2 k3 c : Nat} {ds ds' : List Nat} (h : rt_ok ds) (hc : c < 32768) (hb : rt_fit k1 k2 k3 c ds = some ds') : rt_ok ds' := by
  unfold rt_fit at hb
  obtain ⟨d1, h1, hb⟩ := Option.bind_eq_some_iff.mp hb
  obtain ⟨d2, h2, hb⟩ := Option.bind_eq_some_iff.mp hb
  exact rt_bind_ok (rt_bind_ok (rt_bind_ok h (by omega) h1) (by omega) h2) (by omega) hb
theorem rt_l_ne {ds : List Nat} (h : rt_ok ds) : ¬ lN (rt_pk ds) = -1 := by
  intro e
  have h1 := rt_ok_lt h
  have h2 := pk_lT (n := rt_pk ds) (by omega)
  rw [e] at h2
  have h3 : (-1 : Int64).toInt = -1 := by decide
  rw [h3] at h2
  omega
/-- the digit behind a letter, as termOf has it -/
theorem rt_termE {k : Nat} {ds : List Nat} (h : rt_ok ds) (hk : 32 ≤ k) : nI (rt_pk ds / 64 ^ (k - 32) % 64) - 1 = rt_i (rt_term k ds) := by
  rw [rt_pk_dig _ _ h.2]
  unfold rt_term
  rw [if_neg (by omega)]
  cases ds.getD (k - 32) 0 with
  | zero => decide
  | succ t => exact nI_pred t
theorem rt_p64 (j : Nat) : 2 ^ (6 * j) = 64 ^ j := by rw [Nat.pow_mul]
theorem rt_shr {ds : List Nat} (h : rt_ok ds) {j : Nat} (hj : j < 10) : ((lN (rt_pk ds)).toUInt64 >>> ((nI (6 * j)).toInt64.toUInt64 &&& Int64.toUInt64 63)).toInt64 = lN (rt_pk ds / 64 ^ j) := by
  have := rt_ok_lt h
  rw [wb_shr (by omega) (by omega), rt_p64]
theorem rt_mask {n : Nat} (h : n < 2 ^ 64) : lN n &&& lN 63 = lN (n % 64) := wb_mask (k := 6) h (by decide)
theorem rt_mask2 {ds : List Nat} (h : rt_ok ds) (j : Nat) : lN (rt_pk ds / 64 ^ j) &&& lN 63 = lN (rt_pk ds / 64 ^ j % 64) := by
  have h1 := rt_ok_lt h
  have h2 : rt_pk ds / 64 ^ j ≤ rt_pk ds := Nat.div_le_self _ _
  exact rt_mask (by omega)
theorem rt_shl {t j : Nat} (hj : j < 10) : lN (t + 1) <<< ((nI (6 * j)).toInt64 &&& 63) = lN ((t + 1) * 64 ^ j) := by
  rw [wb_shl _ (by omega), rt_p64]
theorem rt_lor {ds : List Nat} (h : rt_ok ds) {j t : Nat} (hj : j < 10) (ht : t < 32) (h0 : ds.getD j 0 = 0) : lN (rt_pk ds) ||| lN ((t + 1) * 64 ^ j) = lN (rt_pk (ds.set j (t + 1))) := by
  have h1 := rt_ok_lt h
  have h2 : 64 ^ j ≤ 64 ^ 9 := Nat.pow_le_pow_right (by omega) (by omega)
  have h3 : (t + 1) * 64 ^ j ≤ 32 * 64 ^ 9 := Nat.mul_le_mul (by omega) h2
  have h4 : (32 : Nat) * 64 ^ 9 < 2 ^ 64 := by decide
  rw [wb_or (by omega) (by omega), rt_pk_or j (t + 1) ds h.2 (by omega) (by rw [h.1]; exact hj) h0]
theorem rt_none {k : Nat} {ds : List Nat} (h : rt_term k ds = none) : 32 ≤ k ∧ ds.getD (k - 32) 0 = 0 := by
  unfold rt_term at h
  split at h
  · cases h
  · rename_i hk
    split at h
    · rename_i hd
      exact ⟨by omega, hd⟩
    · cases h
theorem rt_term_lt {k u : Nat} {ds : List Nat} (hd : rt_ok ds) (h : rt_term k ds = some u) : u < 32 := by
  unfold rt_term at h
  split at h
  · cases h; assumption
  · split at h
    · cases h
    · rename_i hu
      cases h
      by_cases hl : k - 32 < ds.length
      · have : ds.getD (k - 32) 0 ∈ ds := by
          rw [List.getD_eq_getElem?_getD, List.getElem?_eq_getElem hl]
          exact List.getElem_mem hl
        have := hd.2 _ this
        omega
      · rw [List.getD_eq_getElem?_getD, List.getElem?_eq_none (by omega)] at hu
        cases hu
theorem rt_nm1 {u : Nat} (h : u < 2 ^ 31) : ¬ nI u = -1 := by
  intro e
  have h1 := nI_toInt h
  rw [e] at h1
  have h2 : (-1 : Int32).toInt = -1 := by decide
  rw [h2] at h1
  omega
theorem rt_cmp0 (x : Int64) : lg_cmp x x = nI 0 := by simp [lg_cmp, nI_0]
theorem rt_cmp_ne {ds : List Nat} (h : rt_ok ds) : ¬ lg_cmp (lN (rt_pk ds)) (-1) = 0 := by
  intro e
  have hne := rt_l_ne h
  unfold lg_cmp at e
  split at e
  · exact absurd e (by decide)
  · exact absurd e (by decide)
