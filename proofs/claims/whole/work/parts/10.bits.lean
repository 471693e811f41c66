/-! bits of an Int32 as a set of numbers below 32; the count by folding (the code of Integer.bitCount), the least one, the set without its least -/
def rb_pc : Nat → Nat → Nat
  | 0, _ => 0
  | k + 1, n => n % 2 + rb_pc k (n / 2)
theorem rb_pc_add (j k n : Nat) : rb_pc (j + k) n = rb_pc j n + rb_pc k (n / 2 ^ j) := by
  induction j generalizing n with
  | zero => simp [rb_pc]
  | succ j ih =>
    rw [Nat.succ_add]
    show n % 2 + rb_pc (j + k) (n / 2) = n % 2 + rb_pc j (n / 2) + rb_pc k (n / 2 ^ (j + 1))
    rw [ih, Nat.div_div_eq_div_mul, Nat.pow_succ, Nat.mul_comm 2 (2 ^ j), Nat.add_assoc]
theorem rb_pc8 (a b : Nat) : rb_pc 8 (256 * b + a) = rb_pc 8 a := by
  simp only [rb_pc]
  omega
theorem rb_pc_dig {a b k : Nat} (ha : a < 256) : rb_pc (8 + k) (256 * b + a) = rb_pc 8 a + rb_pc k b := by
  rw [rb_pc_add, rb_pc8, show (256 * b + a) / 2 ^ 8 = b by omega]
/-- a mask works digit by digit -/
theorem rb_dig {a b ma mb : Nat} (ha : a < 256) (hm : ma < 256) : (256 * b + a) &&& (256 * mb + ma) = 256 * (b &&& mb) + (a &&& ma) := by
  apply Nat.eq_of_testBit_eq
  intro i
  have h8 : a &&& ma < 2 ^ 8 := Nat.and_lt_two_pow _ (by omega)
  have e1 := Nat.testBit_two_pow_mul_add b (show a < 2 ^ 8 by omega) i
  have e2 := Nat.testBit_two_pow_mul_add mb (show ma < 2 ^ 8 by omega) i
  have e3 := Nat.testBit_two_pow_mul_add (b &&& mb) h8 i
  rw [show (2 : Nat) ^ 8 = 256 from rfl] at e1 e2 e3
  rw [Nat.testBit_and, e1, e2, e3]
  split <;> simp [Nat.testBit_and]
theorem rb_t1 : ∀ a, a < 256 → ∀ c, c < 2 → (128 * c + a / 2) &&& 85 = (a / 2) &&& 85 ∧ (a / 2) &&& 85 ≤ a := by decide +kernel
theorem rb_t2 : ∀ a, a < 256 → ∀ c, c < 4 → (64 * c + a / 4) &&& 51 = (a / 4) &&& 51 := by decide +kernel
def rb_g1 (a : Nat) : Nat := a - ((a / 2) &&& 85)
def rb_g2 (a : Nat) : Nat := (a &&& 51) + ((a / 4) &&& 51)
theorem rb_g : ∀ a, a < 256 → rb_g1 a < 256 ∧ rb_g2 (rb_g1 a) ≤ 68 ∧ rb_g2 (rb_g1 a) / 16 ≤ 4 ∧ (rb_g2 (rb_g1 a) + rb_g2 (rb_g1 a) / 16) % 16 = rb_pc 8 a ∧ rb_pc 8 a ≤ 8 := by decide +kernel
theorem rb_t3 : ∀ x, x < 256 → x &&& 15 = x % 16 := by decide +kernel
/-- one byte more: the first step -/
theorem rb_s1 {a b m : Nat} (ha : a < 256) (hb : (b / 2) &&& m ≤ b) : (256 * b + a) - (((256 * b + a) / 2) &&& (256 * m + 85)) = 256 * (b - ((b / 2) &&& m)) + rb_g1 a ∧ ((256 * b + a) / 2) &&& (256 * m + 85) ≤ 256 * b + a := by
  have hc : b % 2 < 2 := Nat.mod_lt _ (by omega)
  obtain ⟨h1, h2⟩ := rb_t1 a ha (b % 2) hc
  have e : (256 * b + a) / 2 = 256 * (b / 2) + (128 * (b % 2) + a / 2) := by omega
  rw [e, rb_dig (by omega) (by omega), h1]
  unfold rb_g1
  generalize (b / 2) &&& m = z at hb ⊢
  generalize (a / 2) &&& 85 = w at h2 ⊢
  omega
/-- one byte more: the second step -/
theorem rb_s2 {a b m : Nat} (ha : a < 256) : ((256 * b + a) &&& (256 * m + 51)) + (((256 * b + a) / 4) &&& (256 * m + 51)) = 256 * ((b &&& m) + ((b / 4) &&& m)) + rb_g2 a := by
  have hc : b % 4 < 4 := Nat.mod_lt _ (by omega)
  have h1 := rb_t2 a ha (b % 4) hc
  have e : (256 * b + a) / 4 = 256 * (b / 4) + (64 * (b % 4) + a / 4) := by omega
  rw [e, rb_dig ha (by omega), rb_dig (show 64 * (b % 4) + a / 4 < 256 by omega) (by omega), h1]
  unfold rb_g2
  generalize b &&& m = z
  generalize (b / 4) &&& m = w
  omega
/-- one byte more: the third step -/
theorem rb_s3 {a b m : Nat} (ha : a ≤ 68) (h16 : a / 16 ≤ 4) (hb : b % 16 ≤ 4) : ((256 * b + a) + (256 * b + a) / 16) &&& (256 * m + 15) = 256 * ((b + b / 16) &&& m) + (a + a / 16) % 16 := by
  have e : (256 * b + a) + (256 * b + a) / 16 = 256 * (b + b / 16) + (16 * (b % 16) + a + a / 16) := by omega
  rw [e, rb_dig (by omega) (by omega), rb_t3 _ (by omega)]
  omega
def rb_n1 (n : Nat) : Nat := n - ((n / 2) &&& 1431655765)
def rb_n2 (n : Nat) : Nat := (n &&& 858993459) + ((n / 4) &&& 858993459)
def rb_n3 (n : Nat) : Nat := (n + n / 16) &&& 252645135
theorem rb_m16 {x y : Nat} (h : y % 16 ≤ 4) : (256 * x + y) % 16 ≤ 4 := by omega
theorem rb_gm : ∀ a, a < 256 → rb_g2 (rb_g1 a) % 16 ≤ 4 := by decide +kernel
theorem rb_swar {n : Nat} (hn : n < 4294967296) : rb_n1 n < 4294967296 ∧ (n / 2) &&& 1431655765 ≤ n ∧ rb_n2 (rb_n1 n) ≤ 1145324612 ∧ ∃ p0 p1 p2 p3 : Nat, p0 ≤ 8 ∧ p1 ≤ 8 ∧ p2 ≤ 8 ∧ p3 ≤ 8 ∧ rb_n3 (rb_n2 (rb_n1 n)) = 256 * (256 * (256 * p3 + p2) + p1) + p0 ∧ p0 + p1 + p2 + p3 = rb_pc 32 n := by
  obtain ⟨a0, a1, a2, a3, h0, h1, h2, h3, rfl⟩ : ∃ a0 a1 a2 a3 : Nat, a0 < 256 ∧ a1 < 256 ∧ a2 < 256 ∧ a3 < 256 ∧ n = 256 * (256 * (256 * a3 + a2) + a1) + a0 := ⟨n % 256, n / 256 % 256, n / 65536 % 256, n / 16777216, by omega, by omega, by omega, by omega, by omega⟩
  obtain ⟨q00, q01, q02, q03, q04⟩ := rb_g a0 h0
  obtain ⟨q10, q11, q12, q13, q14⟩ := rb_g a1 h1
  obtain ⟨q20, q21, q22, q23, q24⟩ := rb_g a2 h2
  obtain ⟨q30, q31, q32, q33, q34⟩ := rb_g a3 h3
  have z3 : (a3 / 2) &&& 85 ≤ a3 := (rb_t1 a3 h3 0 (by omega)).2
  obtain ⟨x2, y2⟩ := rb_s1 (a := a2) (b := a3) (m := 85) h2 z3
  obtain ⟨x1, y1⟩ := rb_s1 (a := a1) (b := 256 * a3 + a2) (m := 256 * 85 + 85) h1 y2
  obtain ⟨x0, y0⟩ := rb_s1 (a := a0) (b := 256 * (256 * a3 + a2) + a1) (m := 256 * (256 * 85 + 85) + 85) h0 y1
  have e1 : rb_n1 (256 * (256 * (256 * a3 + a2) + a1) + a0) = 256 * (256 * (256 * rb_g1 a3 + rb_g1 a2) + rb_g1 a1) + rb_g1 a0 := by
    unfold rb_n1
    rw [show (1431655765 : Nat) = 256 * (256 * (256 * 85 + 85) + 85) + 85 from rfl, x0, x1, x2]
    rfl
  have w2 := rb_s2 (a := rb_g1 a2) (b := rb_g1 a3) (m := 51) q20
  have w1 := rb_s2 (a := rb_g1 a1) (b := 256 * rb_g1 a3 + rb_g1 a2) (m := 256 * 51 + 51) q10
  have w0 := rb_s2 (a := rb_g1 a0) (b := 256 * (256 * rb_g1 a3 + rb_g1 a2) + rb_g1 a1) (m := 256 * (256 * 51 + 51) + 51) q00
  have e2 : rb_n2 (256 * (256 * (256 * rb_g1 a3 + rb_g1 a2) + rb_g1 a1) + rb_g1 a0) = 256 * (256 * (256 * rb_g2 (rb_g1 a3) + rb_g2 (rb_g1 a2)) + rb_g2 (rb_g1 a1)) + rb_g2 (rb_g1 a0) := by
    unfold rb_n2
    rw [show (858993459 : Nat) = 256 * (256 * (256 * 51 + 51) + 51) + 51 from rfl, w0, w1, w2]
    rfl
  have m3 := rb_gm a3 h3
  have m2 := rb_gm a2 h2
  have m1 := rb_gm a1 h1
  have f3 : (rb_g2 (rb_g1 a3) + rb_g2 (rb_g1 a3) / 16) &&& 15 = (rb_g2 (rb_g1 a3) + rb_g2 (rb_g1 a3) / 16) % 16 := rb_t3 _ (by omega)
  have v2 := rb_s3 (a := rb_g2 (rb_g1 a2)) (b := rb_g2 (rb_g1 a3)) (m := 15) q21 q22 m3
  have v1 := rb_s3 (a := rb_g2 (rb_g1 a1)) (b := 256 * rb_g2 (rb_g1 a3) + rb_g2 (rb_g1 a2)) (m := 256 * 15 + 15) q11 q12 (rb_m16 m2)
  have v0 := rb_s3 (a := rb_g2 (rb_g1 a0)) (b := 256 * (256 * rb_g2 (rb_g1 a3) + rb_g2 (rb_g1 a2)) + rb_g2 (rb_g1 a1)) (m := 256 * (256 * 15 + 15) + 15) q01 q02 (rb_m16 m1)
  have e3 : rb_n3 (256 * (256 * (256 * rb_g2 (rb_g1 a3) + rb_g2 (rb_g1 a2)) + rb_g2 (rb_g1 a1)) + rb_g2 (rb_g1 a0)) = 256 * (256 * (256 * rb_pc 8 a3 + rb_pc 8 a2) + rb_pc 8 a1) + rb_pc 8 a0 := by
    unfold rb_n3
    rw [show (252645135 : Nat) = 256 * (256 * (256 * 15 + 15) + 15) + 15 from rfl, v0, v1, v2, f3, q03, q13, q23, q33]
  refine ⟨?_, ?_, ?_, rb_pc 8 a0, rb_pc 8 a1, rb_pc 8 a2, rb_pc 8 a3, q04, q14, q24, q34, ?_, ?_⟩
  · rw [e1]; omega
  · exact y0
  · rw [e1, e2]; omega
  · rw [e1, e2, e3]
  · have p0 := rb_pc_dig (a := a0) (b := 256 * (256 * a3 + a2) + a1) (k := 24) h0
    have p1 := rb_pc_dig (a := a1) (b := 256 * a3 + a2) (k := 16) h1
    have p2 := rb_pc_dig (a := a2) (b := a3) (k := 8) h2
    rw [show 8 + 24 = 32 from rfl] at p0
    rw [show 8 + 16 = 24 from rfl] at p1
    rw [show 8 + 8 = 16 from rfl] at p2
    rw [p0, p1, p2]
    omega
theorem rb_pc32 {n : Nat} : rb_pc 32 n ≤ 32 := by
  have h : ∀ k n, rb_pc k n ≤ k := by
    intro k
    induction k with
    | zero => intro n; exact Nat.le_refl 0
    | succ k ih => intro n; show n % 2 + rb_pc k (n / 2) ≤ k + 1; have := ih (n / 2); omega
  exact h 32 n
/-- the whole chain, as naturals -/
theorem rb_chain {n : Nat} (hn : n < 4294967296) {y z : Nat} (hy : y = rb_n3 (rb_n2 (rb_n1 n))) (hz : z = y + y / 256) : y < 4294967296 ∧ z < 4294967296 ∧ z + z / 65536 < 4294967296 ∧ (z + z / 65536) % 64 = rb_pc 32 n := by
  obtain ⟨-, -, -, p0, p1, p2, p3, h0, h1, h2, h3, e, hs⟩ := rb_swar hn
  rw [← hs]
  rw [e] at hy
  have e1 : y / 256 = 256 * (256 * p3 + p2) + p1 := by omega
  have e2 : z = 65536 * (256 * p3 + p2 + p3) + (256 * (p1 + p2) + p0 + p1) := by omega
  have e3 : z / 65536 = 256 * p3 + p2 + p3 := by omega
  refine ⟨by omega, by omega, by omega, ?_⟩
  rw [e3, e2]
  omega
theorem rb_pc_len (k n : Nat) : rb_pc k n = ((List.range k).filter (fun i => n.testBit i)).length := by
  induction k generalizing n with
  | zero => rfl
  | succ k ih =>
    have hc : (fun i => n.testBit i) ∘ Nat.succ = fun i => (n / 2).testBit i := funext fun i => Nat.testBit_succ n i
    rw [List.range_succ_eq_map, List.filter_cons, List.filter_map, hc]
    show n % 2 + rb_pc k (n / 2) = _
    rw [ih]
    rcases Nat.mod_two_eq_zero_or_one n with h | h
    · simp [Nat.testBit_zero, h]
    · simp [Nat.testBit_zero, h]
      omega
/-- the bit i of x -/
def rb_b (x : Int32) (i : Nat) : Bool := x.toBitVec.toNat.testBit i
/-- the numbers below 32 whose bits x has, going up -/
def rb_els (x : Int32) : List Nat := (List.range 32).filter (fun i => rb_b x i)
def rb_cnt (x : Int32) : Nat := (rb_els x).length
theorem rb_mem {x : Int32} {i : Nat} : i ∈ rb_els x ↔ i < 32 ∧ rb_b x i = true := by
  unfold rb_els
  rw [List.mem_filter, List.mem_range]
theorem rb_of (x : Int32) : x = nI x.toBitVec.toNat := by
  apply Int32.toBitVec_inj.1
  show x.toBitVec = BitVec.ofNat 32 x.toBitVec.toNat
  simp
theorem rb_lt (x : Int32) : x.toBitVec.toNat < 4294967296 := x.toBitVec.isLt
theorem rb_tn {n : Nat} (h : n < 4294967296) : (nI n).toBitVec.toNat = n := pk_tn h
theorem rb_bN {n i : Nat} (h : n < 4294967296) : rb_b (nI n) i = n.testBit i := by
  unfold rb_b
  rw [rb_tn h]
theorem rb_cnt_pc (x : Int32) : rb_cnt x = rb_pc 32 x.toBitVec.toNat := (rb_pc_len 32 _).symm
theorem rb_cnt_le (x : Int32) : rb_cnt x ≤ 32 := by
  rw [rb_cnt_pc]
  exact rb_pc32
theorem rb_and (a b : Nat) : nI a &&& nI b = nI (a &&& b) := by
  apply Int32.toBitVec_inj.1
  show BitVec.ofNat 32 a &&& BitVec.ofNat 32 b = BitVec.ofNat 32 (a &&& b)
  apply BitVec.eq_of_getLsbD_eq
  intro i hi
  simp [hi]
theorem rb_ext {x y : Int32} (h : ∀ i, i < 32 → rb_b x i = rb_b y i) : x = y := Int32.toBitVec_inj.mp (BitVec.eq_of_getLsbD_eq (fun i hi => h i hi))
/-- a number by its least bit -/
theorem rb_low {n i : Nat} (h1 : n.testBit i = true) (h0 : ∀ j, j < i → n.testBit j = false) : ∃ k, n = 2 ^ (i + 1) * k + 2 ^ i := by
  have hm : n % 2 ^ i = 0 := by
    apply Nat.eq_of_testBit_eq
    intro j
    rw [Nat.testBit_mod_two_pow, Nat.zero_testBit]
    by_cases h : j < i
    · rw [h0 j h]; simp
    · simp [h]
  have ho : n / 2 ^ i % 2 = 1 := by
    rw [Nat.testBit_eq_decide_div_mod_eq] at h1
    exact of_decide_eq_true h1
  have hd := Nat.div_add_mod n (2 ^ i)
  rw [hm] at hd
  refine ⟨n / 2 ^ i / 2, ?_⟩
  have hq : n / 2 ^ i = 2 * (n / 2 ^ i / 2) + 1 := by omega
  generalize n / 2 ^ i / 2 = k at hq ⊢
  rw [hq] at hd
  rw [← hd, Nat.pow_succ, Nat.mul_add, Nat.mul_one, Nat.add_zero, Nat.mul_assoc]
theorem rb_bit_n {i k j : Nat} : (2 ^ (i + 1) * k + 2 ^ i).testBit j = if j < i + 1 then decide (i = j) else k.testBit (j - (i + 1)) := by
  rw [Nat.testBit_two_pow_mul_add k (show 2 ^ i < 2 ^ (i + 1) from Nat.pow_lt_pow_right (by omega) (by omega)), Nat.testBit_two_pow]
theorem rb_bit_p {i k j : Nat} : (2 ^ (i + 1) * k + 2 ^ i - 1).testBit j = if j < i + 1 then decide (j < i) else k.testBit (j - (i + 1)) := by
  have h2 : 0 < 2 ^ i := Nat.two_pow_pos i
  have h3 : 2 ^ i < 2 ^ (i + 1) := Nat.pow_lt_pow_right (by omega) (by omega)
  rw [show 2 ^ (i + 1) * k + 2 ^ i - 1 = 2 ^ (i + 1) * k + (2 ^ i - 1) by omega, Nat.testBit_two_pow_mul_add k (show 2 ^ i - 1 < 2 ^ (i + 1) by omega), Nat.testBit_two_pow_sub_one]
/-- without its least bit -/
theorem rb_wl {n i : Nat} (h1 : n.testBit i = true) (h0 : ∀ j, j < i → n.testBit j = false) (j : Nat) : (n &&& (n - 1)).testBit j = (n.testBit j && decide (j ≠ i)) := by
  obtain ⟨k, rfl⟩ := rb_low h1 h0
  rw [Nat.testBit_and, rb_bit_n, rb_bit_p]
  by_cases h : j < i + 1
  · rw [if_pos h, if_pos h]
    by_cases e : i = j
    · subst e; simp
    · simp [e]
  · rw [if_neg h, if_neg h]
    have : j ≠ i := by omega
    simp [this]
/-- the least bit alone -/
theorem rb_iso {n i : Nat} (hn : n < 4294967296) (h1 : n.testBit i = true) (h0 : ∀ j, j < i → n.testBit j = false) (hi : i < 32) : n &&& (4294967296 - n) = 2 ^ i := by
  obtain ⟨k, rfl⟩ := rb_low h1 h0
  have hp : 2 ^ (i + 1) * 2 ^ (31 - i) = 4294967296 := by rw [← Nat.pow_add, show i + 1 + (31 - i) = 32 by omega]
  have hpi : 2 ^ (i + 1) = 2 ^ i + 2 ^ i := by rw [Nat.pow_succ]; omega
  have hk : k < 2 ^ (31 - i) := by
    rcases Nat.lt_or_ge k (2 ^ (31 - i)) with z | z
    · exact z
    · exfalso
      have h9 := Nat.mul_le_mul_left (2 ^ (i + 1)) z
      have h8 := Nat.two_pow_pos i
      rw [hp] at h9
      omega
  have e : 4294967296 - (2 ^ (i + 1) * k + 2 ^ i) = 2 ^ (i + 1) * (2 ^ (31 - i) - (k + 1)) + 2 ^ i := by
    rw [Nat.mul_sub, hp, Nat.mul_add, Nat.mul_one]
    have : 2 ^ (i + 1) * (k + 1) ≤ 2 ^ (i + 1) * 2 ^ (31 - i) := Nat.mul_le_mul_left _ hk
    rw [hp, Nat.mul_add, Nat.mul_one] at this
    omega
  rw [e]
  apply Nat.eq_of_testBit_eq
  intro j
  rw [Nat.testBit_and, rb_bit_n, rb_bit_n, Nat.testBit_two_pow]
  by_cases h : j < i + 1
  · rw [if_pos h, if_pos h]; simp
  · rw [if_neg h, if_neg h, Nat.testBit_two_pow_sub_succ hk]
    have : ¬ i = j := by omega
    rw [decide_eq_false this]
    cases k.testBit (j - (i + 1)) <;> simp
theorem rb_ones : ∀ i, i < 33 → rb_pc 32 (2 ^ i - 1) = i := by decide +kernel
theorem rb_nil {x : Int32} (h : rb_els x = []) : x = 0 := by
  apply rb_ext
  intro i hi
  have h0 : rb_b 0 i = false := by
    show (0 : Int32).toBitVec.toNat.testBit i = false
    rw [show (0 : Int32).toBitVec.toNat = 0 from rfl, Nat.zero_testBit]
  rw [h0]
  cases hb : rb_b x i
  · rfl
  · have : i ∈ rb_els x := rb_mem.mpr ⟨hi, hb⟩
    rw [h] at this
    cases this
theorem rb_head {x : Int32} {i : Nat} {r : List Nat} (h : rb_els x = i :: r) : i < 32 ∧ rb_b x i = true ∧ (∀ j, j < i → rb_b x j = false) ∧ i ∉ r := by
  have hm : i ∈ rb_els x := by rw [h]; exact List.mem_cons_self
  have hp : (rb_els x).Pairwise (· < ·) := List.Pairwise.filter _ (List.pairwise_lt_range)
  rw [h, List.pairwise_cons] at hp
  obtain ⟨h1, h2⟩ := rb_mem.mp hm
  refine ⟨h1, h2, fun j hj => ?_, fun hr => Nat.lt_irrefl i (hp.1 i hr)⟩
  cases hb : rb_b x j
  · rfl
  · have hj2 : j ∈ rb_els x := rb_mem.mpr ⟨by omega, hb⟩
    rw [h] at hj2
    rcases List.mem_cons.mp hj2 with rfl | hr
    · omega
    · have := hp.1 j hr
      omega
theorem rb_sub1 {n : Nat} (h : 0 < n) : nI n - 1 = nI (n - 1) := pk_sub (show 1 ≤ n from h)
/-- x & (x - 1) -/
theorem rb_rest {x : Int32} {i : Nat} {r : List Nat} (h : rb_els x = i :: r) : rb_els (x &&& (x - 1)) = r := by
  obtain ⟨h1, h2, h3, h4⟩ := rb_head h
  have hlt := rb_lt x
  have hpos : 0 < x.toBitVec.toNat := by
    rcases Nat.eq_zero_or_pos x.toBitVec.toNat with z | z
    · unfold rb_b at h2
      rw [z, Nat.zero_testBit] at h2
      cases h2
    · exact z
  have e : x &&& (x - 1) = nI (x.toBitVec.toNat &&& (x.toBitVec.toNat - 1)) := by
    conv => lhs; rw [rb_of x]
    rw [rb_sub1 hpos, rb_and]
  have hl2 : x.toBitVec.toNat &&& (x.toBitVec.toNat - 1) < 4294967296 := Nat.lt_of_le_of_lt Nat.and_le_left hlt
  have hb : ∀ j, rb_b (x &&& (x - 1)) j = (rb_b x j && decide (j ≠ i)) := fun j => by
    rw [e, rb_bN hl2, rb_wl h2 h3 j]
    rfl
  unfold rb_els
  rw [show (fun j => rb_b (x &&& (x - 1)) j) = fun j => decide (j ≠ i) && rb_b x j from funext fun j => by rw [hb j, Bool.and_comm], ← List.filter_filter]
  show (rb_els x).filter _ = r
  rw [h, List.filter_cons_of_neg (by simp), List.filter_eq_self]
  intro a ha
  have : a ≠ i := fun z => h4 (z ▸ ha)
  simp [this]
def rb_least (x : Int32) : Nat := match rb_els x with
  | [] => 32
  | i :: _ => i
theorem rb_neg {n : Nat} (h : 0 < n) (h2 : n < 4294967296) : -nI n = nI (4294967296 - n) := by
  apply Int32.toBitVec_inj.1
  apply BitVec.eq_of_toNat_eq
  rw [Int32.toBitVec_neg, BitVec.toNat_neg, rb_tn h2, rb_tn (by omega)]
  omega
/-- the count of (x & -x) - 1 -/
theorem rb_leastE (x : Int32) : rb_cnt ((x &&& -x) - 1) = rb_least x := by
  unfold rb_least
  cases h : rb_els x with
  | nil =>
    rw [rb_nil h]
    decide +kernel
  | cons i r =>
    obtain ⟨h1, h2, h3, h4⟩ := rb_head h
    have hlt := rb_lt x
    have hpos : 0 < x.toBitVec.toNat := by
      rcases Nat.eq_zero_or_pos x.toBitVec.toNat with z | z
      · unfold rb_b at h2
        rw [z, Nat.zero_testBit] at h2
        cases h2
      · exact z
    have e : x &&& -x = nI (2 ^ i) := by
      conv => lhs; rw [rb_of x]
      rw [rb_neg hpos hlt, rb_and, rb_iso hlt h2 h3 h1]
    have h2i : 2 ^ i < 4294967296 := by
      have : 2 ^ i < 2 ^ 32 := Nat.pow_lt_pow_right (by omega) h1
      omega
    have hp : 0 < 2 ^ i := Nat.two_pow_pos i
    rw [e, rb_sub1 hp, rb_cnt_pc, rb_tn (by omega)]
    exact rb_ones i (by omega)
/-- the whole of Integer.bitCount, as its code has it -/
theorem rb_bc {x i1 i2 i3 i4 i5 u1 u2 u3 u4 u5 : Int32}
    (hu1 : (x.toUInt32 >>> ((1 : Int32).toUInt32 &&& Int32.toUInt32 31)).toInt32 = u1) (h1 : i1 = x - (u1 &&& 1431655765))
    (hu2 : (i1.toUInt32 >>> ((2 : Int32).toUInt32 &&& Int32.toUInt32 31)).toInt32 = u2) (h2 : i2 = (i1 &&& 858993459) + (u2 &&& 858993459))
    (hu3 : (i2.toUInt32 >>> ((4 : Int32).toUInt32 &&& Int32.toUInt32 31)).toInt32 = u3) (h3 : i3 = (i2 + u3) &&& 252645135)
    (hu4 : (i3.toUInt32 >>> ((8 : Int32).toUInt32 &&& Int32.toUInt32 31)).toInt32 = u4) (h4 : i4 = i3 + u4)
    (hu5 : (i4.toUInt32 >>> ((16 : Int32).toUInt32 &&& Int32.toUInt32 31)).toInt32 = u5) (h5 : i5 = i4 + u5) : i5 &&& 63 = nI (rb_cnt x) := by
  have hn := rb_lt x
  rw [rb_cnt_pc]
  obtain ⟨s1, s2, s3, -⟩ := rb_swar hn
  obtain ⟨c1, c2, c3, c4⟩ := rb_chain hn rfl rfl
  generalize hN : x.toBitVec.toNat = n at hn s1 s2 s3 c1 c2 c3 c4 ⊢
  have ex : x = nI n := by rw [← hN]; exact rb_of x
  have e1 : i1 = nI (rb_n1 n) := by
    rw [h1, ← hu1, ex, pk_ushrN hn 1 1 (by decide), show (1431655765 : Int32) = nI 1431655765 from rfl, rb_and]
    exact pk_sub s2
  have e2 : i2 = nI (rb_n2 (rb_n1 n)) := by
    rw [h2, ← hu2, e1, pk_ushrN s1 2 2 (by decide), show (858993459 : Int32) = nI 858993459 from rfl, rb_and, rb_and, nI_add]
    rfl
  have e3 : i3 = nI (rb_n3 (rb_n2 (rb_n1 n))) := by
    rw [h3, ← hu3, e2, pk_ushrN (by omega) 4 4 (by decide), nI_add, show (252645135 : Int32) = nI 252645135 from rfl, rb_and]
    rfl
  have e4 : i4 = nI (rb_n3 (rb_n2 (rb_n1 n)) + rb_n3 (rb_n2 (rb_n1 n)) / 256) := by
    rw [h4, ← hu4, e3, pk_ushrN c1 8 8 (by decide), nI_add]
  rw [h5, ← hu5, e4, pk_ushrN c2 16 16 (by decide), nI_add, show (63 : Int32) = nI 63 from rfl, rb_and, show (63 : Nat) = 2 ^ 6 - 1 from rfl, Nat.and_two_pow_sub_one_eq_mod]
  rw [show (2 : Nat) ^ 6 = 64 from rfl]
  exact congrArg nI c4
