/-! words by threes and fours; static tables that nobody writes, over calls -/
theorem rg3 {a b c : Cond} (ha : a ∈ rg_tbl) (hb : b ∈ rg_tbl) (hc : c ∈ rg_tbl) : ∀ w ∈ ([a, b, c] : List Cond), w ∈ rg_tbl := List.forall_mem_cons.mpr ⟨ha, List.forall_mem_cons.mpr ⟨hb, List.forall_mem_cons.mpr ⟨hc, List.forall_mem_nil _⟩⟩⟩
theorem rg4 {a b c d : Cond} (ha : a ∈ rg_tbl) (hb : b ∈ rg_tbl) (hc : c ∈ rg_tbl) (hd : d ∈ rg_tbl) : ∀ w ∈ ([a, b, c, d] : List Cond), w ∈ rg_tbl := List.forall_mem_cons.mpr ⟨ha, rg3 hb hc hd⟩
theorem rg5 {a b c d e : Cond} (ha : a ∈ rg_tbl) (hb : b ∈ rg_tbl) (hc : c ∈ rg_tbl) (hd : d ∈ rg_tbl) (he : e ∈ rg_tbl) : ∀ w ∈ ([a, b, c, d, e] : List Cond), w ∈ rg_tbl := List.forall_mem_cons.mpr ⟨ha, rg4 hb hc hd he⟩
theorem rv_T {ty : FieldType} {t N : Nat} {f : Nat → Value} {A B : Nat → Prop} {s U : State} {H : Heap} {locs : List Loc} (hT : va_T ty t N f A s s.heap) (hS : va_S A s.heap H locs) (hU : U.heap = H) (hW : s.WarmedH U.vm) (hB : ∀ q, B q → A q) : va_T ty t N f B U U.heap := by
  rw [hU]
  exact ((hT.kept (fun a h1 h2 => hS.2.1 a h1 h2)).narrow hB).moved hW.alike
theorem rv_Z {C n d : String} {v : Value} {A B : Nat → Prop} {s U : State} {H : Heap} {locs : List Loc} (hZ : va_Z C n d v A s s.heap) (hS : va_S A s.heap H locs) (hU : U.heap = H) (hW : s.WarmedH U.vm) (hB : ∀ q, B q → A q) : va_Z C n d v B U U.heap := by
  rw [hU]
  exact ((hZ.kept (fun a h1 h2 => hS.2.1 a h1 h2)).narrow hB).moved hW.alike
def rq_f (L : List Nat) : Nat → Value := fun j => .int (nI (L.getD j 0))
def rq_prem : List Nat := [32, 6, 33, 0, 0, 0, 0, 0, 0, 0, 0, 0, 32, 6, 33, 33, 6, 34, 0, 0, 0, 0, 0, 0, 32, 6, 33, 32, 36, 34, 0, 0, 0, 0, 0, 0, 32, 6, 33, 34, 36, 32, 0, 0, 0, 0, 0, 0, 36, 3, 39, 32, 36, 33, 0, 0, 0, 0, 0, 0, 36, 4, 39, 32, 36, 33, 0, 0, 0, 0, 0, 0, 36, 0, 16, 32, 36, 33, 0, 0, 0, 0, 0, 0, 36, 0, 15, 32, 36, 33, 33, 36, 34, 0, 0, 0, 36, 5, 37, 32, 36, 33, 0, 0, 0, 0, 0, 0, 36, 5, 37, 32, 37, 33, 0, 0, 0, 0, 0, 0, 36, 2, 37, 32, 36, 33, 0, 0, 0, 0, 0, 0, 36, 2, 37, 37, 2, 38, 0, 0, 0, 0, 0, 0, 39, 1, 40, 32, 0, 39, 0, 0, 0, 0, 0, 0, 39, 1, 40, 40, 1, 41, 0, 0, 0, 0, 0, 0, 36, 0, 17, 32, 36, 33, 32, 36, 34, 0, 0, 0, 36, 0, 18, 32, 36, 34, 33, 36, 34, 0, 0, 0, 39, 10, 40, 39, 9, 36, 32, 36, 33, 33, 0, 40, 39, 11, 40, 39, 9, 36, 32, 0, 39, 32, 36, 33, 39, 12, 35, 39, 9, 36, 32, 0, 39, 0, 0, 0, 39, 12, 35, 39, 9, 36, 32, 36, 35, 0, 0, 0, 36, 13, 37, 36, 14, 38, 32, 37, 33, 33, 38, 34, 32, 6, 33, 32, 7, 33, 0, 0, 0, 0, 0, 0, 39, 8, 40, 32, 0, 39, 32, 0, 40, 0, 0, 0, 36, 19, 37, 32, 36, 33, 32, 37, 33, 0, 0, 0]
def rq_given : List Nat := [33, 6, 32, 32, 6, 34, 33, 36, 34, 34, 36, 33, 32, 0, 39, 33, 0, 39, 33, 36, 32, 32, 36, 34, 33, 37, 32, 33, 36, 32, 32, 37, 33, 36, 2, 38, 32, 0, 40, 39, 1, 41, 33, 6, 34, 32, 6, 33, 32, 0, 39, 33, 0, 40, 32, 36, 35, 32, 0, 39, 32, 36, 34]
def rq_cnts : List Nat := [1, 2, 2, 2, 2, 2, 2, 3, 2, 2, 2, 2, 2, 2, 3, 3, 4, 4, 3, 3, 4, 2, 3, 3]
/-- the three tables, where they stand -/
def rz_ (tP tG tC : Nat) (A : Nat → Prop) (U : State) : Prop :=
  (va_Z "RlRounds$Table" "PREMISES" "[I" (.ref tP) A U U.heap ∧ va_T .int tP 288 (rq_f rq_prem) A U U.heap) ∧
  (va_Z "RlRounds$Table" "GIVEN" "[I" (.ref tG) A U U.heap ∧ va_T .int tG 63 (rq_f rq_given) A U U.heap) ∧
  (va_Z "RlRounds$Table" "COUNTS" "[I" (.ref tC) A U U.heap ∧ va_T .int tC 24 (rq_f rq_cnts) A U U.heap)
theorem rz_at {tP tG tC : Nat} {A B : Nat → Prop} {s U : State} {H : Heap} {locs : List Loc} (h : rz_ tP tG tC A s) (hS : va_S A s.heap H locs) (hU : U.heap = H) (hW : s.WarmedH U.vm) (hB : ∀ q, B q → A q) : rz_ tP tG tC B U :=
  ⟨⟨rv_Z h.1.1 hS hU hW hB, rv_T h.1.2 hS hU hW hB⟩, ⟨rv_Z h.2.1.1 hS hU hW hB, rv_T h.2.1.2 hS hU hW hB⟩, rv_Z h.2.2.1 hS hU hW hB, rv_T h.2.2.2 hS hU hW hB⟩
theorem rz_same {tP tG tC : Nat} {A : Nat → Prop} {U : State} {g : JFrame} {mk : MethodId} {a : Array Value} (h : rz_ tP tG tC A U) : rz_ tP tG tC A (U.calling g mk a) :=
  ⟨⟨h.1.1.moved (Vm.Alike.refl U.vm), h.1.2.moved (Vm.Alike.refl U.vm)⟩, ⟨h.2.1.1.moved (Vm.Alike.refl U.vm), h.2.1.2.moved (Vm.Alike.refl U.vm)⟩, h.2.2.1.moved (Vm.Alike.refl U.vm), h.2.2.2.moved (Vm.Alike.refl U.vm)⟩
theorem rq_prem_lt : ∀ j, rq_prem.getD j 0 < 42 := by
  intro j
  rcases Nat.lt_or_ge j 288 with h | h
  · exact (by decide +kernel : ∀ j, j < 288 → rq_prem.getD j 0 < 42) j h
  · rw [List.getD_eq_getElem?_getD, List.getElem?_eq_none (Nat.le_trans (by decide +kernel) h)]; decide
theorem rq_given_lt : ∀ j, rq_given.getD j 0 < 42 := by
  intro j
  rcases Nat.lt_or_ge j 63 with h | h
  · exact (by decide +kernel : ∀ j, j < 63 → rq_given.getD j 0 < 42) j h
  · rw [List.getD_eq_getElem?_getD, List.getElem?_eq_none (Nat.le_trans (by decide +kernel) h)]; decide
theorem rq_cnts_le : ∀ j, j < 24 → 1 ≤ rq_cnts.getD j 0 ∧ rq_cnts.getD j 0 ≤ 4 := by decide +kernel
/-- a bit that is shifted down -/
theorem rb_sh (x : Int32) {i : Nat} (hi : i < 32) : ((x.toUInt32 >>> ((nI i).toUInt32 &&& Int32.toUInt32 31)).toInt32 &&& nI 1) = 0 ↔ rb_b x i = false := by
  have hn := rb_lt x
  conv => lhs; rw [rb_of x]
  rw [pk_ushrN hn (nI i) i ((by decide +kernel : ∀ i, i < 32 → (((nI i).toUInt32 &&& Int32.toUInt32 31).toBitVec % 32).toNat = i) i hi), rb_and, Nat.and_one_is_mod]
  unfold rb_b
  rw [Nat.testBit_eq_decide_div_mod_eq, decide_eq_false_iff_not, ← nI_0, nI_eq (by omega) (by omega)]
  omega
