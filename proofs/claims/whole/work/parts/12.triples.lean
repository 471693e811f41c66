/-! triples as sets of bits: what each row of ints holds of a set X of codes; going through by codes -/
theorem ry_filter {α β : Type} (P : α → Bool) (G : α → List β) : ∀ (l : List α), (∀ a ∈ l, P a = false → G a = []) → (l.filter P).flatMap G = l.flatMap G
  | [], _ => rfl
  | a :: l, h => by
    have ih := ry_filter P G l (fun b hb => h b (List.mem_cons_of_mem _ hb))
    rw [List.filter_cons]
    cases hp : P a with
    | true => rw [if_pos rfl, List.flatMap_cons, List.flatMap_cons, ih]
    | false =>
      rw [if_neg (by simp), List.flatMap_cons, ih, h a List.mem_cons_self hp]
      rfl
theorem ry_congr {α β : Type} {F G : α → List β} : ∀ {l : List α}, (∀ a ∈ l, F a = G a) → l.flatMap F = l.flatMap G
  | [], _ => rfl
  | a :: l, h => by rw [List.flatMap_cons, List.flatMap_cons, h a List.mem_cons_self, ry_congr (fun b hb => h b (List.mem_cons_of_mem _ hb))]
theorem ry_range (b : Nat) : ∀ a : Nat, List.range (a * b) = (List.range a).flatMap (fun i => (List.range b).map (fun j => i * b + j))
  | 0 => by simp
  | a + 1 => by
    rw [List.range_succ, List.flatMap_append, ← ry_range b a, Nat.succ_mul, List.range_add]
    simp
theorem ry_one {i : Nat} (hi : i < 32) : ∀ j, j < 32 → rb_b ((1 : Int32) <<< (nI i &&& 31)) j = decide (j = i) := by
  have h : ∀ i, i < 32 → ∀ j, j < 32 → rb_b ((1 : Int32) <<< (nI i &&& 31)) j = decide (j = i) := by decide +kernel
  exact h i hi
theorem ry_big {x : Int32} {j : Nat} (h : 32 ≤ j) : rb_b x j = false := by
  unfold rb_b
  exact Nat.testBit_lt_two_pow (Nat.lt_of_lt_of_le x.toBitVec.isLt (Nat.pow_le_pow_right (by omega) h))
theorem ry_or (x y : Int32) (j : Nat) : rb_b (x ||| y) j = (rb_b x j || rb_b y j) := by
  unfold rb_b
  rw [Int32.toBitVec_or, BitVec.toNat_or, Nat.testBit_or]
theorem ry_and (x y : Int32) (j : Nat) : rb_b (x &&& y) j = (rb_b x j && rb_b y j) := by
  unfold rb_b
  rw [Int32.toBitVec_and, BitVec.toNat_and, Nat.testBit_and]
theorem ry_xor (x y : Int32) (j : Nat) : rb_b (x ^^^ y) j = (rb_b x j ^^ rb_b y j) := by
  unfold rb_b
  rw [Int32.toBitVec_xor, BitVec.toNat_xor, Nat.testBit_xor]
theorem ry_set (x : Int32) {i : Nat} (hi : i < 32) {j : Nat} (hj : j < 32) : rb_b (x ||| ((1 : Int32) <<< (nI i &&& 31))) j = (rb_b x j || decide (j = i)) := by
  rw [ry_or, ry_one hi j hj]
theorem ry_test (x : Int32) {i : Nat} (hi : i < 32) : (x &&& ((1 : Int32) <<< (nI i &&& 31))) = 0 ↔ rb_b x i = false := by
  constructor
  · intro h
    have h1 := ry_and x ((1 : Int32) <<< (nI i &&& 31)) i
    rw [h, ry_one hi i hi] at h1
    have h0 : rb_b 0 i = false := by
      show (0 : Int32).toBitVec.toNat.testBit i = false
      rw [show (0 : Int32).toBitVec.toNat = 0 from rfl, Nat.zero_testBit]
    rw [h0] at h1
    simpa using h1.symm
  · intro h
    apply rb_ext
    intro j hj
    have h0 : rb_b 0 j = false := by
      show (0 : Int32).toBitVec.toNat.testBit j = false
      rw [show (0 : Int32).toBitVec.toNat = 0 from rfl, Nat.zero_testBit]
    rw [ry_and, ry_one hi j hj, h0]
    by_cases e : j = i
    · rw [e, h]; rfl
    · simp [e]
/-- the code of three terms -/
def rx_code (s p o : Nat) : Nat := (s * 32 + p) * 32 + o
theorem rx_code_s {s p o : Nat} (hp : p < 32) (ho : o < 32) : rx_code s p o / 32 / 32 = s := by unfold rx_code; omega
theorem rx_code_p {s p o : Nat} (hp : p < 32) (ho : o < 32) : rx_code s p o / 32 % 32 = p := by unfold rx_code; omega
theorem rx_code_o {s p o : Nat} (ho : o < 32) : rx_code s p o % 32 = o := by unfold rx_code; omega
theorem rx_code_lt {s p o : Nat} (hs : s < 32) (hp : p < 32) (ho : o < 32) : rx_code s p o < 32768 := by unfold rx_code; omega
theorem rx_code_of (c : Nat) : rx_code (c / 32 / 32) (c / 32 % 32) (c % 32) = c := by unfold rx_code; omega
/-- what the rows hold of a set -/
def rx_TR (X : Nat → Bool) (f g h : Nat → Int32) (al : Int32) : Prop :=
  (∀ s p o, s < 32 → p < 32 → o < 32 → rb_b (f (s * 32 + p)) o = X (rx_code s p o)) ∧
  (∀ p s, p < 32 → s < 32 → (rb_b (g p) s = true ↔ ∃ o, o < 32 ∧ X (rx_code s p o) = true)) ∧
  (∀ s p, s < 32 → p < 32 → (rb_b (h s) p = true ↔ ∃ o, o < 32 ∧ X (rx_code s p o) = true)) ∧
  (∀ s, s < 32 → (rb_b al s = true ↔ ∃ p o, p < 32 ∧ o < 32 ∧ X (rx_code s p o) = true))
/-- the codes of a set, going up -/
def rx_codes (X : Nat → Bool) : List Nat := (List.range 32768).filter X
theorem rx_codes_mem {X : Nat → Bool} {c : Nat} : c ∈ rx_codes X ↔ c < 32768 ∧ X c = true := by
  unfold rx_codes
  rw [List.mem_filter, List.mem_range]
theorem rx_split : List.range 32768 = (List.range 32).flatMap (fun s => (List.range 32).flatMap (fun p => (List.range 32).map (fun o => rx_code s p o))) := by
  have h1 := ry_range 32 1024
  have h2 := ry_range 32 32
  rw [show 1024 * 32 = 32768 from rfl] at h1
  rw [show 32 * 32 = 1024 from rfl] at h2
  rw [h1, h2, List.flatMap_assoc]
  apply ry_congr
  intro s _
  rw [List.flatMap_map]
  rfl
def rx_ss (g : Nat → Int32) (al : Int32) (ks kp : Option Nat) : Int32 := match ks with
  | some s => (1 : Int32) <<< (nI s &&& 31)
  | none => match kp with
    | some p => g p
    | none => al
def rx_ps (h : Nat → Int32) (s : Nat) (kp : Option Nat) : Int32 := match kp with
  | some p => (1 : Int32) <<< (nI p &&& 31)
  | none => h s
def rx_os (f : Nat → Int32) (s p : Nat) (ko : Option Nat) : Int32 := match ko with
  | some o => f (s * 32 + p) &&& ((1 : Int32) <<< (nI o &&& 31))
  | none => f (s * 32 + p)
/-- the codes that three loops go through -/
def rx_trav (f g h : Nat → Int32) (al : Int32) (ks kp ko : Option Nat) : List Nat := (rb_els (rx_ss g al ks kp)).flatMap (fun s => (rb_els (rx_ps h s kp)).flatMap (fun p => (rb_els (rx_os f s p ko)).map (fun o => rx_code s p o)))
theorem rx_trav_all {β : Type} {X : Nat → Bool} {f g h : Nat → Int32} {al : Int32} (hT : rx_TR X f g h al) {ks kp ko : Option Nat} (hs : ∀ s, ks = some s → s < 32) (hp : ∀ p, kp = some p → p < 32) (ho : ∀ o, ko = some o → o < 32) (F : Nat → List β)
    (hF : ∀ s p o, s < 32 → p < 32 → o < 32 → (∃ z, ks = some z ∧ z ≠ s) ∨ (∃ z, kp = some z ∧ z ≠ p) ∨ (∃ z, ko = some z ∧ z ≠ o) → F (rx_code s p o) = []) :
    (rx_trav f g h al ks kp ko).flatMap F = (rx_codes X).flatMap F := by
  obtain ⟨h1, h2, h3, h4⟩ := hT
  have hR : (rx_codes X).flatMap F = (List.range 32).flatMap (fun s => (List.range 32).flatMap (fun p => (List.range 32).flatMap (fun o => if X (rx_code s p o) then F (rx_code s p o) else []))) := by
    unfold rx_codes
    rw [show ((List.range 32768).filter X).flatMap F = ((List.range 32768).filter X).flatMap (fun c => if X c then F c else []) from ry_congr (fun c hc => by rw [if_pos (List.mem_filter.mp hc).2])]
    rw [ry_filter X _ _ (fun c _ hx => by rw [hx]; rfl), rx_split, List.flatMap_assoc]
    apply ry_congr
    intro s _
    rw [List.flatMap_assoc]
    apply ry_congr
    intro p _
    rw [List.flatMap_map]
  rw [hR]
  unfold rx_trav
  rw [List.flatMap_assoc]
  have hO : ∀ s p, s < 32 → p < 32 → ((rb_els (rx_os f s p ko)).map (fun o => rx_code s p o)).flatMap F = (List.range 32).flatMap (fun o => if X (rx_code s p o) then F (rx_code s p o) else []) := by
    intro s p hs1 hp1
    rw [List.flatMap_map]
    unfold rb_els
    rw [← ry_filter (fun o => rb_b (rx_os f s p ko) o) (fun o => if X (rx_code s p o) then F (rx_code s p o) else [])]
    · apply ry_congr
      intro o hom
      obtain ⟨ho1, ho2⟩ := List.mem_filter.mp hom
      have ho3 := List.mem_range.mp ho1
      have hx : X (rx_code s p o) = true := by
        rw [← h1 s p o hs1 hp1 ho3]
        unfold rx_os at ho2
        cases ko with
        | none => exact ho2
        | some z =>
          have ho2 : rb_b (f (s * 32 + p) &&& ((1 : Int32) <<< (nI z &&& 31))) o = true := ho2
          rw [ry_and, Bool.and_eq_true] at ho2
          exact ho2.1
      rw [if_pos hx]
    · intro o ho1 hb
      have ho3 := List.mem_range.mp ho1
      unfold rx_os at hb
      cases ko with
      | none =>
        simp only at hb
        rw [h1 s p o hs1 hp1 ho3] at hb
        rw [hb]; rfl
      | some z =>
        simp only at hb
        rw [ry_and, h1 s p o hs1 hp1 ho3, ry_one (ho z rfl) o ho3] at hb
        by_cases e : o = z
        · subst e
          have : X (rx_code s p o) = false := by simpa using hb
          rw [this]; rfl
        · rw [hF s p o hs1 hp1 ho3 (Or.inr (Or.inr ⟨z, rfl, fun q => e q.symm⟩))]
          simp
  have hPp : ∀ s, s < 32 → ((rb_els (rx_ps h s kp)).flatMap (fun p => (rb_els (rx_os f s p ko)).map (fun o => rx_code s p o))).flatMap F = (List.range 32).flatMap (fun p => (List.range 32).flatMap (fun o => if X (rx_code s p o) then F (rx_code s p o) else [])) := by
    intro s hs1
    rw [List.flatMap_assoc]
    unfold rb_els
    rw [← ry_filter (fun p => rb_b (rx_ps h s kp) p) (fun p => (List.range 32).flatMap (fun o => if X (rx_code s p o) then F (rx_code s p o) else []))]
    · apply ry_congr
      intro p hpm
      exact hO s p hs1 (List.mem_range.mp (List.mem_filter.mp hpm).1)
    · intro p hp1 hb
      have hp3 := List.mem_range.mp hp1
      apply List.flatMap_eq_nil_iff.mpr
      intro o ho1
      have ho3 := List.mem_range.mp ho1
      unfold rx_ps at hb
      cases kp with
      | none =>
        simp only at hb
        have hn : ¬ X (rx_code s p o) = true := fun q => by
          have := (h3 s p hs1 hp3).mpr ⟨o, ho3, q⟩
          rw [hb] at this
          cases this
        rw [if_neg hn]
      | some z =>
        simp only at hb
        rw [ry_one (hp z rfl) p hp3] at hb
        have e : p ≠ z := by simpa using hb
        rw [hF s p o hs1 hp3 ho3 (Or.inr (Or.inl ⟨z, rfl, fun q => e q.symm⟩))]
        simp
  unfold rb_els
  rw [← ry_filter (fun s => rb_b (rx_ss g al ks kp) s) (fun s => (List.range 32).flatMap (fun p => (List.range 32).flatMap (fun o => if X (rx_code s p o) then F (rx_code s p o) else [])))]
  · apply ry_congr
    intro s hsm
    exact hPp s (List.mem_range.mp (List.mem_filter.mp hsm).1)
  · intro s hs1 hb
    have hs3 := List.mem_range.mp hs1
    apply List.flatMap_eq_nil_iff.mpr
    intro p hp1
    have hp3 := List.mem_range.mp hp1
    apply List.flatMap_eq_nil_iff.mpr
    intro o ho1
    have ho3 := List.mem_range.mp ho1
    unfold rx_ss at hb
    cases ks with
    | some z =>
      simp only at hb
      rw [ry_one (hs z rfl) s hs3] at hb
      have e : s ≠ z := by simpa using hb
      rw [hF s p o hs3 hp3 ho3 (Or.inl ⟨z, rfl, fun q => e q.symm⟩)]
      simp
    | none =>
      cases kp with
      | none =>
        simp only at hb
        have hn : ¬ X (rx_code s p o) = true := fun q => by
          have := (h4 s hs3).mpr ⟨p, o, hp3, ho3, q⟩
          rw [hb] at this
          cases this
        rw [if_neg hn]
      | some z =>
        simp only at hb
        by_cases e : p = z
        · subst e
          have hn : ¬ X (rx_code s p o) = true := fun q => by
            have := (h2 p s hp3 hs3).mpr ⟨o, ho3, q⟩
            rw [hb] at this
            cases this
          rw [if_neg hn]
        · rw [hF s p o hs3 hp3 ho3 (Or.inr (Or.inl ⟨z, rfl, fun q => e q.symm⟩))]
          simp
