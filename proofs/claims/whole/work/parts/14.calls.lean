/-! words by threes and fours; static tables that nobody writes, over calls -/
theorem rg3 {a b c : Cond} (ha : a ∈ rg_tbl) (hb : b ∈ rg_tbl) (hc : c ∈ rg_tbl) : ∀ w ∈ ([a, b, c] : List Cond), w ∈ rg_tbl := List.forall_mem_cons.mpr ⟨ha, List.forall_mem_cons.mpr ⟨hb, List.forall_mem_cons.mpr ⟨hc, List.forall_mem_nil _⟩⟩⟩
theorem rg4 {a b c d : Cond} (ha : a ∈ rg_tbl) (hb : b ∈ rg_tbl) (hc : c ∈ rg_tbl) (hd : d ∈ rg_tbl) : ∀ w ∈ ([a, b, c, d] : List Cond), w ∈ rg_tbl := List.forall_mem_cons.mpr ⟨ha, rg3 hb hc hd⟩
theorem rg5 {a b c d e : Cond} (ha : a ∈ rg_tbl) (hb : b ∈ rg_tbl) (hc : c ∈ rg_tbl) (hd : d ∈ rg_tbl) (he : e ∈ rg_tbl) : ∀ w ∈ ([a, b, c, d, e] : List Cond), w ∈ rg_tbl := List.forall_mem_cons.mpr ⟨ha, rg4 hb hc hd he⟩
theorem rv_T {ty : FieldType} {t N : Nat} {f : Nat → Value} {A B : Nat → Prop} {s U : State} {H : Heap} {locs : List Loc} (hT : va_T ty t N f A s s.heap) (hS : va_S A s.heap H locs) (hU : U.heap = H) (hW : s.WarmedH U.vm) (hB : ∀ q, B q → A q) : va_T ty t N f B U U.heap := by
  rw [hU]
  exact ((hT.kept (fun a h1 h2 => hS.2.1 a h1 h2)).narrow hB).moved hW.alike
theorem rv_Z {C n d : String} {v : Value} {A B : Nat → Prop} {s U : State} {H : Heap} {locs : List Loc} (hZ : va_Z C n d v A s s.heap) (hS : va_S A s.heap H locs) (hU : U.heap = H) (hW : s.WarmedH U.vm) (hB : ∀ q, B q → A q) : va_Z C n d v B U U.heap := by
  rw [hU]
  exact ((hZ.kept (fun a h1 h2 => hS.2.1 a h1 h2)).narrow hB).moved hW.alike
def rq_f (L : List Nat) : Nat → Value := fun j => .int (nI (L.getD j 0))
def rq_prem : List Nat := [32, 6, 33, 0, 0, 0, 0, 0, 0, 0, 0, 0, 32, 6, 33, 33, 6, 34, 0, 0, 0, 0, 0, 0, 32, 6, 33, 32, 36, 34, 0, 0, 0, 0, 0, 0, 32, 6, 33, 34, 36, 32, 0, 0, 0, 0, 0, 0, 36, 3, 39, 32, 36, 33, 0, 0, 0, 0, 0, 0, 36, 4, 39, 32, 36, 33, 0, 0, 0, 0, 0, 0, 36, 0, 16, 32, 36, 33, 0, 0, 0, 0, 0, 0, 36, 0, 15, 32, 36, 33, 33, 36, 34, 0, 0, 0, 36, 5, 37, 32, 36, 33, 0, 0, 0, 0, 0, 0, 36, 5, 37, 32, 37, 33, 0, 0, 0, 0, 0, 0, 36, 2, 37, 32, 36, 33, 0, 0, 0, 0, 0, 0, 36, 2, 37, 37, 2, 38, 0, 0, 0, 0, 0, 0, 39, 1, 40, 32, 0, 39, 0, 0, 0, 0, 0, 0, 39, 1, 40, 40, 1, 41, 0, 0, 0, 0, 0, 0, 36, 0, 17, 32, 36, 33, 32, 36, 34, 0, 0, 0, 36, 0, 18, 32, 36, 34, 33, 36, 34, 0, 0, 0, 39, 10, 40, 39, 9, 36, 32, 36, 33, 33, 0, 40, 39, 11, 40, 39, 9, 36, 32, 0, 39, 32, 36, 33, 39, 12, 35, 39, 9, 36, 32, 0, 39, 0, 0, 0, 39, 12, 35, 39, 9, 36, 32, 36, 35, 0, 0, 0, 36, 13, 37, 36, 14, 38, 32, 37, 33, 33, 38, 34, 32, 6, 33, 32, 7, 33, 0, 0, 0, 0, 0, 0, 39, 8, 40, 32, 0, 39, 32, 0, 40, 0, 0, 0, 36, 19, 37, 32, 36, 33, 32, 37, 33, 0, 0, 0]
def rq_given : List Nat := [33, 6, 32, 32, 6, 34, 33, 36, 34, 34, 36, 33, 32, 0, 39, 33, 0, 39, 33, 36, 32, 32, 36, 34, 33, 37, 32, 33, 36, 32, 32, 37, 33, 36, 2, 38, 32, 0, 40, 39, 1, 41, 33, 6, 34, 32, 6, 33, 32, 0, 39, 33, 0, 40, 32, 36, 35, 32, 0, 39, 32, 36, 34]
def rq_cnts : List Nat := [1, 2, 2, 2, 2, 2, 2, 3, 2, 2, 2, 2, 2, 2, 3, 3, 4, 4, 3, 3, 4, 2, 3, 3]
/-- the three tables, where they stand -/
def rz_ (tP tG tC : Nat) (A : Nat → Prop) (U : State) : Prop :=
  (va_Z "RlRounds$Table" "PREMISES" "[I" (.ref tP) A U U.heap ∧ va_T .int tP 288 (rq_f rq_prem) A U U.heap) ∧
  (va_Z "RlRounds$Table" "GIVEN" "[I" (.ref tG) A U U.heap ∧ va_T .int tG 63 (rq_f rq_given) A U U.heap) ∧
  (va_Z "RlRounds$Table" "COUNTS" "[I" (.ref tC) A U U.heap ∧ va_T .int tC 24 (rq_f rq_cnts) A U U.heap)
theorem rz_at {tP tG tC : Nat} {A B : Nat → Prop} {s U : State} {H : Heap} {locs : List Loc} (h : rz_ tP tG tC A s) (hS : va_S A s.heap H locs) (hU : U.heap = H) (hW : s.WarmedH U.vm) (hB : ∀ q, B q → A q) : rz_ tP tG tC B U :=
  ⟨⟨rv_Z h.1.1 hS hU hW hB, rv_T h.1.2 hS hU hW hB⟩, ⟨rv_Z h.2.1.1 hS hU hW hB, rv_T h.2.1.2 hS hU hW hB⟩, rv_Z h.2.2.1 hS hU hW hB, rv_T h.2.2.2 hS hU hW hB⟩
theorem rz_same {tP tG tC : Nat} {A : Nat → Prop} {U : State} {g : JFrame} {mk : MethodId} {a : Array Value} (h : rz_ tP tG tC A U) : rz_ tP tG tC A (U.calling g mk a) :=
  ⟨⟨h.1.1.moved (Vm.Alike.refl U.vm), h.1.2.moved (Vm.Alike.refl U.vm)⟩, ⟨h.2.1.1.moved (Vm.Alike.refl U.vm), h.2.1.2.moved (Vm.Alike.refl U.vm)⟩, h.2.2.1.moved (Vm.Alike.refl U.vm), h.2.2.2.moved (Vm.Alike.refl U.vm)⟩
theorem rq_prem_lt : ∀ j, rq_prem.getD j 0 < 42 := by
  intro j
  rcases Nat.lt_or_ge j 288 with h | h
  · exact (by decide +kernel : ∀ j, j < 288 → rq_prem.getD j 0 < 42) j h
  · rw [List.getD_eq_getElem?_getD, List.getElem?_eq_none (Nat.le_trans (by decide +kernel) h)]; decide
theorem rq_given_lt : ∀ j, rq_given.getD j 0 < 42 := by
  intro j
  rcases Nat.lt_or_ge j 63 with h | h
  · exact (by decide +kernel : ∀ j, j < 63 → rq_given.getD j 0 < 42) j h
  · rw [List.getD_eq_getElem?_getD, List.getElem?_eq_none (Nat.le_trans (by decide +kernel) h)]; decide
theorem rq_cnts_le : ∀ j, j < 24 → 1 ≤ rq_cnts.getD j 0 ∧ rq_cnts.getD j 0 ≤ 4 := by decide +kernel
/-- a bit that is shifted down -/
theorem rb_sh (x : Int32) {i : Nat} (hi : i < 32) : ((x.toUInt32 >>> ((nI i).toUInt32 &&& Int32.toUInt32 31)).toInt32 &&& nI 1) = 0 ↔ rb_b x i = false := by
  have hn := rb_lt x
  conv => lhs; rw [rb_of x]
  rw [pk_ushrN hn (nI i) i ((by decide +kernel : ∀ i, i < 32 → (((nI i).toUInt32 &&& Int32.toUInt32 31).toBitVec % 32).toNat = i) i hi), rb_and, Nat.and_one_is_mod]
  unfold rb_b
  rw [Nat.testBit_eq_decide_div_mod_eq, decide_eq_false_iff_not, ← nI_0, nI_eq (by omega) (by omega)]
  omega
theorem rv_Q {p : Program} {l : Launch} {e : Env} {R : Room} {s : State} {m : MethodId} {args : Array Value} {below : List Frame} {meth : Method} {c : Code} {H : Heap} {locs : List Loc} {cells slots : Nat} {Q : State → Prop} {g : JFrame} (k : ∀ Q', Q' = Q → W p l e R s m args below meth c H locs cells slots Q' g) : W p l e R s m args below meth c H locs cells slots Q g := k Q rfl
/-- an array said by another function that agrees on its places -/
theorem rv_fn {D : va_G} {cl : List vw_C} {ws : va_W} {H : Heap} (hP : va_P D cl ws H) (q0 : Nat) {a : Nat} {cA : ClassId} {n : Nat} {f f' : Nat → Int32} (ha : ws[q0]? = some (a, .inl (cA, n, .inl f))) (h : ∀ j, j < n → f j = f' j) : va_P D cl (ws.set q0 (a, .inl (cA, n, .inl f'))) H := by
  have hl := (List.getElem?_eq_some_iff.mp ha).1
  have hc : vp_cell cA (n, .inl f) = vp_cell cA (n, .inl f') := by
    show arrV cA n (fun j => .int (f j)) = arrV cA n (fun j => .int (f' j))
    unfold arrV
    have : (fun j : Fin n => Value.int (f j.val)) = fun j : Fin n => Value.int (f' j.val) := funext fun j => by rw [h j.val j.isLt]
    rw [this]
  intro k q hk
  by_cases hkp : k = q0
  · subst hkp
    rw [List.getElem?_set_self hl] at hk
    cases hk
    show H[a]? = some (vp_cell cA (n, .inl f'))
    rw [← hc]
    exact hP k _ ha
  · rw [List.getElem?_set_ne (Ne.symm hkp)] at hk
    exact hP k q hk
theorem rf_step {f : Nat → Int32} {v : Int32} {i : Nat} : upd (fun j => if j < i then v else f j) i v = fun j => if j < i + 1 then v else f j := by
  funext j
  unfold upd
  by_cases h : j = i
  · rw [if_pos h, if_pos (by omega)]
  · rw [if_neg h]
    show (if j < i then v else f j) = _
    by_cases h2 : j < i
    · rw [if_pos h2, if_pos (by omega)]
    · rw [if_neg h2, if_neg (by omega)]
theorem rf_zero {f : Nat → Int32} {v : Int32} : (fun j => if j < 0 then v else f j) = f := by
  funext j
  rw [if_neg (by omega)]
/-- the i-th of a set -/
def rb_at (x : Int32) (i : Nat) : Nat := (rb_els x).getD i 32
/-- the set without its i least -/
def rb_drop : Nat → Int32 → Int32
  | 0, x => x
  | i + 1, x => rb_drop i (x &&& (x - 1))
theorem rb_drop_succ : ∀ (i : Nat) (x : Int32), rb_drop (i + 1) x = (rb_drop i x) &&& ((rb_drop i x) - 1)
  | 0, _ => rfl
  | i + 1, x => by
    show rb_drop (i + 1) (x &&& (x - 1)) = _
    rw [rb_drop_succ i]
    rfl
theorem rb_drop_els : ∀ (i : Nat) (x : Int32), i ≤ rb_cnt x → rb_els (rb_drop i x) = (rb_els x).drop i
  | 0, _, _ => rfl
  | i + 1, x, h => by
    cases hx : rb_els x with
    | nil =>
      unfold rb_cnt at h
      rw [hx] at h
      exact absurd h (by simp)
    | cons a r =>
      have hr := rb_rest hx
      show rb_els (rb_drop i (x &&& (x - 1))) = _
      rw [rb_drop_els i _ (by unfold rb_cnt at h ⊢; rw [hr]; rw [hx] at h; simpa using h), hr]
      rfl
theorem rb_drop_least {x : Int32} {i : Nat} (h : i < rb_cnt x) : rb_least (rb_drop i x) = rb_at x i := by
  unfold rb_least rb_at
  rw [rb_drop_els i x (by omega)]
  unfold rb_cnt at h
  rw [List.drop_eq_getElem_cons h, List.getD_eq_getElem?_getD, List.getElem?_eq_getElem h]
  rfl
/-- codes from a place on -/
def rc_fr (f : Nat → Int32) : Nat → Nat → List Nat
  | 0, _ => []
  | k + 1, at0 => (rb_els (f at0)).map (fun o => at0 * 32 + o) ++ rc_fr f k (at0 + 1)
def rc_no : Option Nat → Int32
  | some c => nI c
  | none => -2
