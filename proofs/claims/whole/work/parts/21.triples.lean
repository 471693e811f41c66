theorem rc_tm_m1 : rc_tm (-1) = nI 0 := by decide
theorem rc_tm_nI {k : Nat} (h : k < 32) : rc_tm (nI k) = nI 1 := by
  unfold rc_tm
  rw [if_neg (nI_pos (by omega)), if_pos (nI_lt h (by decide))]

set_option maxHeartbeats 4000000 in
set_option maxRecDepth 100000 in
theorem c_Ar_fill (l : Launch) (dC : Nat → ClassId) (dI : Nat → Nat → Nat) (dA : ClassId) (a0 n0 : Nat) (f : Nat → Int32) (v : Int32) (sz : Nat) (hn0 : n0 < 2 ^ 31) : Met l y_Ar_fill (w_ y_Ar_fill b_Ar_fill 4 none) (rm_ 0) (va_Pc [.ref a0, .int v] (fun U => U.heap.size = sz ∧ va_P (dC, dI) classes [(a0, .inl (dA, n0, .inl f))] U.heap ∧ va_K (dC, dI) classes [(dA, .int)] U ∧ va_D (fun _ => True) [(a0, .inl (dA, n0, .inl f))])) (va_Qv (fun (_ : Unit) => True) (fun (_ : Unit) t => va_P (dC, dI) classes [(a0, .inl (dA, n0, .inl (fun _ => v)))] t.heap ∧ va_D (va_A [(a0, .inl (dA, n0, .inl f))] sz) [(a0, .inl (dA, n0, .inl (fun _ => v)))]) (va_A [(a0, .inl (dA, n0, .inl f))] sz)) 0 0 (va_A [(a0, .inl (dA, n0, .inl f))] sz) := by
  refine Met.ofW (cc := b_Ar_fill) (maxL := 4) (ret := none) (by decide) rfl ?_
  intro p e s m args below meth c s₁ B hml hv
  obtain ⟨rfl, hsz, hP, hK, hD0⟩ := hv
  have hx := B.exec
  have hb := B.bytes
  have hr := B.returns
  have hts := atoms_spec (ws := (w_ y_Ar_fill b_Ar_fill 4 none)) B.pre
  have hown : s.vm.findClass R_Ar = some m.cls := findClass_of_methodNamed B.named
  have hlocks := B.notSynchronized
  subst hsz
  have hD := hD0.self (sz := s.heap.size)
  generalize hAe : va_A [(a0, .inl (dA, n0, .inl f))] s.heap.size = A at hD ⊢
  have hA : ∀ q : Nat, s.heap.size ≤ q → A q := fun q h => by rw [← hAe]; exact Or.inr h
  have hS : va_S A s.heap s.heap [] := va_S.rf
  have hl := lv_entry ([.ref a0, .int v]) (n := 4) (Nat.le_of_ble_eq_true rfl)
  rw [lg_entry_eq]
  generalize (lg_sl ([.ref a0, .int v]) ++ List.replicate (4 - (lg_sl ([.ref a0, .int v])).length) Slot.unset).toArray = ls at hl ⊢
  have hl : lv_has ls 4 [(0, .ref a0), (1, .int v)] := hl
  refine lv_iconst (v := nI 0) hx hb d_Ar_fill_0 (by decide) ?_
  refine lv_istore_n (lv' := [(2, .int (nI 0)), (0, .ref a0), (1, .int v)]) hx hb d_Ar_fill_1 rfl hl (by decide) rfl (fun ls hl => ?_)
  refine lv_aload_n hx hb d_Ar_fill_2 rfl (lv_at hl 1 rfl) ?_
  refine va_alen (v := nI n0) hx hb hK hP 0 0 rfl rfl rfl d_Ar_fill_3 ?_
  refine lv_istore_n (lv' := [(3, .int (nI n0)), (2, .int (nI 0)), (0, .ref a0), (1, .int v)]) hx hb d_Ar_fill_4 rfl hl (by decide) rfl (fun ls hl => ?_)
  have hP : va_P (dC, dI) classes [(a0, .inl (dA, n0, .inl (fun j => if j < 0 then v else f j)))] s.heap := by rw [rf_zero]; exact hP
  have hD : va_D A [(a0, .inl (dA, n0, .inl (fun j => if j < 0 then v else f j)))] := by rw [rf_zero]; exact hD
  refine rv_Q (fun Q hQ => ?_)
  have lp : ∀ (n : Nat) (i : Nat) (H : Heap) (locs : List Loc) (ls : Array Slot), i + n = n0 → va_P (dC, dI) classes [(a0, .inl (dA, n0, .inl (fun j => if j < i then v else f j)))] H → va_D A [(a0, .inl (dA, n0, .inl (fun j => if j < i then v else f j)))] → va_S A s.heap H locs → lv_has ls 4 [(2, .int (nI i)), (3, .int (nI n0)), (0, .ref a0), (1, .int v)] → W p l e (headSpec (w_ y_Ar_fill b_Ar_fill 4 none) (rm_ 0)).room s m ([.ref a0, .int v] : List Value).toArray below meth c H locs 0 0 Q (F0 m 5 ls []) := by
    intro n
    induction n with
    | zero =>
      intro i H locs ls hi hP hD hS hl
      refine lv_iload_n hx hb d_Ar_fill_5 rfl (lv_at hl 0 rfl) ?_
      refine lv_iload_n hx hb d_Ar_fill_6 rfl (lv_at hl 1 rfl) ?_
      refine rv_icmp_ge (tgt := 20) hx hb d_Ar_fill_7 (by decide) (by omega) (by omega) (fun c_7 => ?_) (fun c_7 => absurd c_7 (by omega))
      subst hQ
      exact W.vret hx hb hr (fun t ht hW => ⟨⟨(), rfl, trivial, by rw [ht]; exact rv_fn hP 0 rfl (fun j hj => by rw [if_pos (by omega)]), hD.set (p := 0) rfl⟩, hS.F ht⟩) hS.2.2 d_Ar_fill_20
    | succ n ih =>
      intro i H locs ls hi hP hD hS hl
      refine lv_iload_n hx hb d_Ar_fill_5 rfl (lv_at hl 0 rfl) ?_
      refine lv_iload_n hx hb d_Ar_fill_6 rfl (lv_at hl 1 rfl) ?_
      refine rv_icmp_ge (tgt := 20) hx hb d_Ar_fill_7 (by decide) (by omega) (by omega) (fun c_7 => absurd c_7 (by omega)) (fun c_7 => ?_)
      refine lv_aload_n hx hb d_Ar_fill_10 rfl (lv_at hl 2 rfl) ?_
      refine lv_iload_n hx hb d_Ar_fill_11 rfl (lv_at hl 0 rfl) ?_
      refine lv_iload_n hx hb d_Ar_fill_12 rfl (lv_at hl 3 rfl) ?_
      refine rv_ast (k := i) (x := v) hx hb hK hP hD hS 0 0 rfl rfl (by omega) hn0 d_Ar_fill_13 (fun H locs hP hD hS => ?_)
      have hP : va_P (dC, dI) classes [(a0, .inl (dA, n0, .inl (upd (fun j => if j < i then v else f j) i v)))] H := hP
      have hD : va_D A [(a0, .inl (dA, n0, .inl (upd (fun j => if j < i then v else f j) i v)))] := hD
      refine rv_inc (k := 0) (lv' := [(2, .int (nI (i + 1))), (3, .int (nI n0)), (0, .ref a0), (1, .int v)]) hx hb d_Ar_fill_14 hl rfl (by decide) rfl (fun ls hl => ?_)
      refine lv_goto (tgt := 5) hx hb d_Ar_fill_17 (by decide) ?_
      rw [rf_step] at hP hD
      exact ih (i + 1) _ _ _ (by omega) hP hD hS (lv_sub hl [0, 1, 2, 3] rfl)
  exact lp n0 0 _ _ _ (by omega) hP hD hS (lv_sub hl [1, 0, 2, 3] rfl)

set_option maxHeartbeats 4000000 in
set_option maxRecDepth 100000 in
theorem c_Tr_has (l : Launch) (dC : Nat → ClassId) (dI : Nat → Nat → Nat) (dA : ClassId) (h0 q1 q2 q3 : Nat) (f g hh : Nat → Int32) (al : Int32) (c0 : Nat) (hc : c0 < 32768) : Met l y_Tr_has (w_ y_Tr_has b_Tr_has 2 (some .boolean)) (rm_ 0) (va_Pc [.ref h0, .int (nI c0)] (fun U => va_K (dC, dI) classes [(dA, .int)] U ∧ va_P (dC, dI) classes [(h0, .inr (1, [.ref q1, .ref q2, .ref q3, .int al])), (q1, .inl (dA, 1024, .inl f)), (q2, .inl (dA, 32, .inl g)), (q3, .inl (dA, 32, .inl hh))] U.heap)) (va_Qi (fun (z9 : Int32) (_ : Unit) => z9 = (if rb_b (f (c0 / 32)) (c0 % 32) then nI 1 else nI 0)) (fun _ _ => True) (fun _ => False)) 0 0 (fun _ => False) := by
  refine Met.ofW (cc := b_Tr_has) (maxL := 2) (ret := (some .boolean)) (by decide) rfl ?_
  intro p e s m args below meth c s₁ B hml hv
  obtain ⟨rfl, hK, hP⟩ := hv
  have hx := B.exec
  have hb := B.bytes
  have hr := B.returns
  have hts := atoms_spec (ws := (w_ y_Tr_has b_Tr_has 2 (some .boolean))) B.pre
  have hown : s.vm.findClass R_Tr = some m.cls := findClass_of_methodNamed B.named
  have hlocks := B.notSynchronized
  have hS : va_S (fun _ => False) s.heap s.heap [] := va_S.rf
  have hl := lv_entry ([.ref h0, .int (nI c0)]) (n := 2) (Nat.le_of_ble_eq_true rfl)
  rw [lg_entry_eq]
  generalize (lg_sl ([.ref h0, .int (nI c0)]) ++ List.replicate (2 - (lg_sl ([.ref h0, .int (nI c0)])).length) Slot.unset).toArray = ls at hl ⊢
  have hl : lv_has ls 2 [(0, .ref h0), (1, .int (nI c0))] := hl
  refine lv_iload_n hx hb d_Tr_has_0 rfl (lv_at hl 1 rfl) ?_
  refine rv_if_lt (tgt := 33) hx hb d_Tr_has_1 (by decide) (by omega) ?_
  refine lv_iload_n hx hb d_Tr_has_4 rfl (lv_at hl 1 rfl) ?_
  refine lv_ldc (v := nI 32768) hx hb hown (hts _ (List.mem_cons_of_mem _ m_179)) d_Tr_has_5 ?_
  refine rv_icmp_ge (tgt := 33) hx hb d_Tr_has_7 (by decide) (by omega) (by omega) (fun c_7 => absurd c_7 (by omega)) (fun c_7 => ?_)
  refine lv_aload_n hx hb d_Tr_has_10 rfl (lv_at hl 0 rfl) ?_
  refine va_get (D := (dC, dI)) (ci := 1) (v := .ref q1) (C := R_Tr) (T := F_Tr) (N := 4) hx hb hts (rg_c i_Tr) hown hK hP 0 rfl rfl 0 (by decide) (hts _ (List.mem_cons_of_mem _ m_27)) (fun _ h9 => h9) rfl d_Tr_has_11 ?_
  refine lv_iload_n hx hb d_Tr_has_14 rfl (lv_at hl 1 rfl) ?_
  refine lv_bipush (v := nI 32) hx hb d_Tr_has_15 (by decide) ?_
  refine rv_idiv hx hb d_Tr_has_17 (by omega) (by omega) (by omega) ?_
  refine rv_ald (k := (c0 / 32)) hx hb hK hP 1 0 rfl rfl (by omega) (by decide) d_Tr_has_18 ?_
  refine lv_iconst (v := nI 1) hx hb d_Tr_has_19 (by decide) ?_
  refine lv_iload_n hx hb d_Tr_has_20 rfl (lv_at hl 1 rfl) ?_
  refine lv_bipush (v := nI 32) hx hb d_Tr_has_21 (by decide) ?_
  refine rv_irem hx hb d_Tr_has_23 (by omega) (by omega) (by omega) ?_
  refine lv_ishl hx hb d_Tr_has_24 ?_
  refine lv_iand hx hb d_Tr_has_25 ?_
  refine lv_if_eq (tgt := 33) hx hb d_Tr_has_26 (by decide) (fun c_26 => ?_) (fun c_26 => ?_)
  · refine lv_iconst (v := nI 0) hx hb d_Tr_has_33 (by decide) ?_
    exact W.zret (v := nI 0) hx hb hr (by rfl) (fun t ht hW => ⟨⟨nI 0, (), rfl, by rw [if_neg (by rw [(ry_test _ (by omega)).mp (by assumption)]; simp)], trivial⟩, hS.F ht⟩) hS.2.2 d_Tr_has_34
  · refine lv_iconst (v := nI 1) hx hb d_Tr_has_29 (by decide) ?_
    refine lv_goto (tgt := 34) hx hb d_Tr_has_30 (by decide) ?_
    exact W.zret (v := nI 1) hx hb hr (by rfl) (fun t ht hW => ⟨⟨nI 1, (), rfl, by rw [if_pos (by rcases hq : rb_b (f (c0 / 32)) (c0 % 32) with _ | _; exact absurd ((ry_test _ (by omega)).mpr hq) (by assumption); rfl)], trivial⟩, hS.F ht⟩) hS.2.2 d_Tr_has_34

set_option maxHeartbeats 4000000 in
set_option maxRecDepth 100000 in
theorem c_Tr_put (l : Launch) (dC : Nat → ClassId) (dI : Nat → Nat → Nat) (dA : ClassId) (h0 q1 q2 q3 : Nat) (f g hh : Nat → Int32) (al : Int32) (c0 : Nat) (sz : Nat) (hc : c0 < 32768) : Met l y_Tr_put (w_ y_Tr_put b_Tr_put 4 none) (rm_ 0) (va_Pc [.ref h0, .int (nI c0)] (fun U => U.heap.size = sz ∧ va_P (dC, dI) classes [(h0, .inr (1, [.ref q1, .ref q2, .ref q3, .int al])), (q1, .inl (dA, 1024, .inl f)), (q2, .inl (dA, 32, .inl g)), (q3, .inl (dA, 32, .inl hh))] U.heap ∧ va_K (dC, dI) classes [(dA, .int)] U ∧ va_D (fun _ => True) [(h0, .inr (1, [.ref q1, .ref q2, .ref q3, .int al])), (q1, .inl (dA, 1024, .inl f)), (q2, .inl (dA, 32, .inl g)), (q3, .inl (dA, 32, .inl hh))])) (va_Qv (fun (_ : Unit) => True) (fun (_ : Unit) t => va_P (dC, dI) classes [(h0, .inr (1, [.ref q1, .ref q2, .ref q3, .int (al ||| (nI 1) <<< (nI (c0 / 32 / 32) &&& 31))])), (q1, .inl (dA, 1024, .inl (upd f (c0 / 32) (f (c0 / 32) ||| (nI 1) <<< (nI (c0 % 32) &&& 31))))), (q2, .inl (dA, 32, .inl (upd g (c0 / 32 % 32) (g (c0 / 32 % 32) ||| (nI 1) <<< (nI (c0 / 32 / 32) &&& 31))))), (q3, .inl (dA, 32, .inl (upd hh (c0 / 32 / 32) (hh (c0 / 32 / 32) ||| (nI 1) <<< (nI (c0 / 32 % 32) &&& 31)))))] t.heap ∧ va_D (va_A [(h0, .inr (1, [.ref q1, .ref q2, .ref q3, .int al])), (q1, .inl (dA, 1024, .inl f)), (q2, .inl (dA, 32, .inl g)), (q3, .inl (dA, 32, .inl hh))] sz) [(h0, .inr (1, [.ref q1, .ref q2, .ref q3, .int (al ||| (nI 1) <<< (nI (c0 / 32 / 32) &&& 31))])), (q1, .inl (dA, 1024, .inl (upd f (c0 / 32) (f (c0 / 32) ||| (nI 1) <<< (nI (c0 % 32) &&& 31))))), (q2, .inl (dA, 32, .inl (upd g (c0 / 32 % 32) (g (c0 / 32 % 32) ||| (nI 1) <<< (nI (c0 / 32 / 32) &&& 31))))), (q3, .inl (dA, 32, .inl (upd hh (c0 / 32 / 32) (hh (c0 / 32 / 32) ||| (nI 1) <<< (nI (c0 / 32 % 32) &&& 31)))))]) (va_A [(h0, .inr (1, [.ref q1, .ref q2, .ref q3, .int al])), (q1, .inl (dA, 1024, .inl f)), (q2, .inl (dA, 32, .inl g)), (q3, .inl (dA, 32, .inl hh))] sz)) 0 0 (va_A [(h0, .inr (1, [.ref q1, .ref q2, .ref q3, .int al])), (q1, .inl (dA, 1024, .inl f)), (q2, .inl (dA, 32, .inl g)), (q3, .inl (dA, 32, .inl hh))] sz) := by
  refine Met.ofW (cc := b_Tr_put) (maxL := 4) (ret := none) (by decide) rfl ?_
  intro p e s m args below meth c s₁ B hml hv
  obtain ⟨rfl, hsz, hP, hK, hD0⟩ := hv
  have hx := B.exec
  have hb := B.bytes
  have hr := B.returns
  have hts := atoms_spec (ws := (w_ y_Tr_put b_Tr_put 4 none)) B.pre
  have hown : s.vm.findClass R_Tr = some m.cls := findClass_of_methodNamed B.named
  have hlocks := B.notSynchronized
  subst hsz
  have hD := hD0.self (sz := s.heap.size)
  generalize hAe : va_A [(h0, .inr (1, [.ref q1, .ref q2, .ref q3, .int al])), (q1, .inl (dA, 1024, .inl f)), (q2, .inl (dA, 32, .inl g)), (q3, .inl (dA, 32, .inl hh))] s.heap.size = A at hD ⊢
  have hA : ∀ q : Nat, s.heap.size ≤ q → A q := fun q h => by rw [← hAe]; exact Or.inr h
  have hS : va_S A s.heap s.heap [] := va_S.rf
  have hl := lv_entry ([.ref h0, .int (nI c0)]) (n := 4) (Nat.le_of_ble_eq_true rfl)
  rw [lg_entry_eq]
  generalize (lg_sl ([.ref h0, .int (nI c0)]) ++ List.replicate (4 - (lg_sl ([.ref h0, .int (nI c0)])).length) Slot.unset).toArray = ls at hl ⊢
  have hl : lv_has ls 4 [(0, .ref h0), (1, .int (nI c0))] := hl
  refine lv_iload_n hx hb d_Tr_put_0 rfl (lv_at hl 1 rfl) ?_
  refine rv_if_lt (tgt := 10) hx hb d_Tr_put_1 (by decide) (by omega) ?_
  refine lv_iload_n hx hb d_Tr_put_4 rfl (lv_at hl 1 rfl) ?_
  refine lv_ldc (v := nI 32768) hx hb hown (hts _ (List.mem_cons_of_mem _ m_179)) d_Tr_put_5 ?_
  refine rv_icmp_lt (tgt := 11) hx hb d_Tr_put_7 (by decide) (by omega) (by omega) (fun c_7 => ?_) (fun c_7 => absurd c_7 (by omega))
  refine lv_iload_n hx hb d_Tr_put_11 rfl (lv_at hl 1 rfl) ?_
  refine lv_bipush (v := nI 32) hx hb d_Tr_put_12 (by decide) ?_
  refine rv_idiv hx hb d_Tr_put_14 (by omega) (by omega) (by omega) ?_
  refine lv_bipush (v := nI 32) hx hb d_Tr_put_15 (by decide) ?_
  refine rv_idiv hx hb d_Tr_put_17 (by omega) (by omega) (by omega) ?_
  refine lv_istore_n (lv' := [(2, .int (nI ((c0 / 32) / 32))), (0, .ref h0), (1, .int (nI c0))]) hx hb d_Tr_put_18 rfl hl (by decide) rfl (fun ls hl => ?_)
  refine lv_iload_n hx hb d_Tr_put_19 rfl (lv_at hl 2 rfl) ?_
  refine lv_bipush (v := nI 32) hx hb d_Tr_put_20 (by decide) ?_
  refine rv_idiv hx hb d_Tr_put_22 (by omega) (by omega) (by omega) ?_
  refine lv_bipush (v := nI 32) hx hb d_Tr_put_23 (by decide) ?_
  refine rv_irem hx hb d_Tr_put_25 (by omega) (by omega) (by omega) ?_
  refine lv_istore_n (lv' := [(3, .int (nI ((c0 / 32) % 32))), (2, .int (nI ((c0 / 32) / 32))), (0, .ref h0), (1, .int (nI c0))]) hx hb d_Tr_put_26 rfl hl (by decide) rfl (fun ls hl => ?_)
  refine lv_aload_n hx hb d_Tr_put_27 rfl (lv_at hl 2 rfl) ?_
  refine va_get (D := (dC, dI)) (ci := 1) (v := .ref q1) (C := R_Tr) (T := F_Tr) (N := 4) hx hb hts (rg_c i_Tr) hown hK hP 0 rfl rfl 0 (by decide) (hts _ (List.mem_cons_of_mem _ m_27)) (fun _ h9 => h9) rfl d_Tr_put_28 ?_
  refine lv_iload_n hx hb d_Tr_put_31 rfl (lv_at hl 3 rfl) ?_
  refine lv_bipush (v := nI 32) hx hb d_Tr_put_32 (by decide) ?_
  refine rv_idiv hx hb d_Tr_put_34 (by omega) (by omega) (by omega) ?_
  refine lv_dup2_11 hx hb d_Tr_put_35 rfl rfl ?_
  refine rv_ald (k := (c0 / 32)) hx hb hK hP 1 0 rfl rfl (by omega) (by decide) d_Tr_put_36 ?_
  refine lv_iconst (v := nI 1) hx hb d_Tr_put_37 (by decide) ?_
  refine lv_iload_n hx hb d_Tr_put_38 rfl (lv_at hl 3 rfl) ?_
  refine lv_bipush (v := nI 32) hx hb d_Tr_put_39 (by decide) ?_
  refine rv_irem hx hb d_Tr_put_41 (by omega) (by omega) (by omega) ?_
  refine lv_ishl hx hb d_Tr_put_42 ?_
  refine lv_ior hx hb d_Tr_put_43 ?_
  refine rv_ast (k := (c0 / 32)) (x := (f (c0 / 32)) ||| ((nI 1) <<< ((nI (c0 % 32)) &&& 31))) hx hb hK hP hD hS 1 0 rfl rfl (by omega) (by decide) d_Tr_put_44 (fun H locs hP hD hS => ?_)
  have hP : va_P (dC, dI) classes [(h0, .inr (1, [.ref q1, .ref q2, .ref q3, .int al])), (q1, .inl (dA, 1024, .inl (upd f (c0 / 32) ((f (c0 / 32)) ||| ((nI 1) <<< ((nI (c0 % 32)) &&& 31)))))), (q2, .inl (dA, 32, .inl g)), (q3, .inl (dA, 32, .inl hh))] H := hP
  have hD : va_D A [(h0, .inr (1, [.ref q1, .ref q2, .ref q3, .int al])), (q1, .inl (dA, 1024, .inl (upd f (c0 / 32) ((f (c0 / 32)) ||| ((nI 1) <<< ((nI (c0 % 32)) &&& 31)))))), (q2, .inl (dA, 32, .inl g)), (q3, .inl (dA, 32, .inl hh))] := hD
  refine lv_aload_n hx hb d_Tr_put_45 rfl (lv_at hl 2 rfl) ?_
  refine va_get (D := (dC, dI)) (ci := 1) (v := .ref q2) (C := R_Tr) (T := F_Tr) (N := 4) hx hb hts (rg_c i_Tr) hown hK hP 0 rfl rfl 1 (by decide) (hts _ (List.mem_cons_of_mem _ m_28)) (fun _ h9 => h9) rfl d_Tr_put_46 ?_
  refine lv_iload_n hx hb d_Tr_put_49 rfl (lv_at hl 0 rfl) ?_
  refine lv_dup2_11 hx hb d_Tr_put_50 rfl rfl ?_
  refine rv_ald (k := ((c0 / 32) % 32)) hx hb hK hP 2 0 rfl rfl (by omega) (by decide) d_Tr_put_51 ?_
  refine lv_iconst (v := nI 1) hx hb d_Tr_put_52 (by decide) ?_
  refine lv_iload_n hx hb d_Tr_put_53 rfl (lv_at hl 1 rfl) ?_
  refine lv_ishl hx hb d_Tr_put_54 ?_
  refine lv_ior hx hb d_Tr_put_55 ?_
  refine rv_ast (k := ((c0 / 32) % 32)) (x := (g ((c0 / 32) % 32)) ||| ((nI 1) <<< ((nI ((c0 / 32) / 32)) &&& 31))) hx hb hK hP hD hS 2 0 rfl rfl (by omega) (by decide) d_Tr_put_56 (fun H locs hP hD hS => ?_)
  have hP : va_P (dC, dI) classes [(h0, .inr (1, [.ref q1, .ref q2, .ref q3, .int al])), (q1, .inl (dA, 1024, .inl (upd f (c0 / 32) ((f (c0 / 32)) ||| ((nI 1) <<< ((nI (c0 % 32)) &&& 31)))))), (q2, .inl (dA, 32, .inl (upd g ((c0 / 32) % 32) ((g ((c0 / 32) % 32)) ||| ((nI 1) <<< ((nI ((c0 / 32) / 32)) &&& 31)))))), (q3, .inl (dA, 32, .inl hh))] H := hP
  have hD : va_D A [(h0, .inr (1, [.ref q1, .ref q2, .ref q3, .int al])), (q1, .inl (dA, 1024, .inl (upd f (c0 / 32) ((f (c0 / 32)) ||| ((nI 1) <<< ((nI (c0 % 32)) &&& 31)))))), (q2, .inl (dA, 32, .inl (upd g ((c0 / 32) % 32) ((g ((c0 / 32) % 32)) ||| ((nI 1) <<< ((nI ((c0 / 32) / 32)) &&& 31)))))), (q3, .inl (dA, 32, .inl hh))] := hD
  refine lv_aload_n hx hb d_Tr_put_57 rfl (lv_at hl 2 rfl) ?_
  refine va_get (D := (dC, dI)) (ci := 1) (v := .ref q3) (C := R_Tr) (T := F_Tr) (N := 4) hx hb hts (rg_c i_Tr) hown hK hP 0 rfl rfl 2 (by decide) (hts _ (List.mem_cons_of_mem _ m_29)) (fun _ h9 => h9) rfl d_Tr_put_58 ?_
  refine lv_iload_n hx hb d_Tr_put_61 rfl (lv_at hl 1 rfl) ?_
  refine lv_dup2_11 hx hb d_Tr_put_62 rfl rfl ?_
  refine rv_ald (k := ((c0 / 32) / 32)) hx hb hK hP 3 0 rfl rfl (by omega) (by decide) d_Tr_put_63 ?_
  refine lv_iconst (v := nI 1) hx hb d_Tr_put_64 (by decide) ?_
  refine lv_iload_n hx hb d_Tr_put_65 rfl (lv_at hl 0 rfl) ?_
  refine lv_ishl hx hb d_Tr_put_66 ?_
  refine lv_ior hx hb d_Tr_put_67 ?_
  refine rv_ast (k := ((c0 / 32) / 32)) (x := (hh ((c0 / 32) / 32)) ||| ((nI 1) <<< ((nI ((c0 / 32) % 32)) &&& 31))) hx hb hK hP hD hS 3 0 rfl rfl (by omega) (by decide) d_Tr_put_68 (fun H locs hP hD hS => ?_)
  have hP : va_P (dC, dI) classes [(h0, .inr (1, [.ref q1, .ref q2, .ref q3, .int al])), (q1, .inl (dA, 1024, .inl (upd f (c0 / 32) ((f (c0 / 32)) ||| ((nI 1) <<< ((nI (c0 % 32)) &&& 31)))))), (q2, .inl (dA, 32, .inl (upd g ((c0 / 32) % 32) ((g ((c0 / 32) % 32)) ||| ((nI 1) <<< ((nI ((c0 / 32) / 32)) &&& 31)))))), (q3, .inl (dA, 32, .inl (upd hh ((c0 / 32) / 32) ((hh ((c0 / 32) / 32)) ||| ((nI 1) <<< ((nI ((c0 / 32) % 32)) &&& 31))))))] H := hP
  have hD : va_D A [(h0, .inr (1, [.ref q1, .ref q2, .ref q3, .int al])), (q1, .inl (dA, 1024, .inl (upd f (c0 / 32) ((f (c0 / 32)) ||| ((nI 1) <<< ((nI (c0 % 32)) &&& 31)))))), (q2, .inl (dA, 32, .inl (upd g ((c0 / 32) % 32) ((g ((c0 / 32) % 32)) ||| ((nI 1) <<< ((nI ((c0 / 32) / 32)) &&& 31)))))), (q3, .inl (dA, 32, .inl (upd hh ((c0 / 32) / 32) ((hh ((c0 / 32) / 32)) ||| ((nI 1) <<< ((nI ((c0 / 32) % 32)) &&& 31))))))] := hD
  refine lv_aload_n hx hb d_Tr_put_69 rfl (lv_at hl 2 rfl) ?_
  refine lv_dup hx hb d_Tr_put_70 rfl ?_
  refine va_get (D := (dC, dI)) (ci := 1) (v := .int al) (C := R_Tr) (T := F_Tr) (N := 4) hx hb hts (rg_c i_Tr) hown hK hP 0 rfl rfl 3 (by decide) (hts _ (List.mem_cons_of_mem _ m_30)) (fun _ h9 => h9) rfl d_Tr_put_71 ?_
  refine lv_iconst (v := nI 1) hx hb d_Tr_put_74 (by decide) ?_
  refine lv_iload_n hx hb d_Tr_put_75 rfl (lv_at hl 1 rfl) ?_
  refine lv_ishl hx hb d_Tr_put_76 ?_
  refine lv_ior hx hb d_Tr_put_77 ?_
  refine va_put (D := (dC, dI)) (ci := 1) (v := .int (al ||| ((nI 1) <<< ((nI ((c0 / 32) / 32)) &&& 31)))) (ty := .int) (C := R_Tr) (T := F_Tr) (N := 4) hx hb hts (rg_c i_Tr) t_Tr t_Tr_ok n_Tr hown hK hP hD hS 0 rfl rfl 3 (by decide) (hts _ (List.mem_cons_of_mem _ m_30)) (fun _ h9 => h9) rfl (by decide +kernel) (by rfl) (by rfl) (Nat.le_of_ble_eq_true rfl) d_Tr_put_78 (fun H locs hP hD hS => ?_)
  have hP : va_P (dC, dI) classes [(h0, .inr (1, [.ref q1, .ref q2, .ref q3, .int (al ||| ((nI 1) <<< ((nI ((c0 / 32) / 32)) &&& 31)))])), (q1, .inl (dA, 1024, .inl (upd f (c0 / 32) ((f (c0 / 32)) ||| ((nI 1) <<< ((nI (c0 % 32)) &&& 31)))))), (q2, .inl (dA, 32, .inl (upd g ((c0 / 32) % 32) ((g ((c0 / 32) % 32)) ||| ((nI 1) <<< ((nI ((c0 / 32) / 32)) &&& 31)))))), (q3, .inl (dA, 32, .inl (upd hh ((c0 / 32) / 32) ((hh ((c0 / 32) / 32)) ||| ((nI 1) <<< ((nI ((c0 / 32) % 32)) &&& 31))))))] H := hP
  have hD : va_D A [(h0, .inr (1, [.ref q1, .ref q2, .ref q3, .int (al ||| ((nI 1) <<< ((nI ((c0 / 32) / 32)) &&& 31)))])), (q1, .inl (dA, 1024, .inl (upd f (c0 / 32) ((f (c0 / 32)) ||| ((nI 1) <<< ((nI (c0 % 32)) &&& 31)))))), (q2, .inl (dA, 32, .inl (upd g ((c0 / 32) % 32) ((g ((c0 / 32) % 32)) ||| ((nI 1) <<< ((nI ((c0 / 32) / 32)) &&& 31)))))), (q3, .inl (dA, 32, .inl (upd hh ((c0 / 32) / 32) ((hh ((c0 / 32) / 32)) ||| ((nI 1) <<< ((nI ((c0 / 32) % 32)) &&& 31))))))] := hD
  exact W.vret hx hb hr (fun t ht hW => ⟨⟨(), rfl, trivial, by rw [ht]; exact hP, hD⟩, hS.F ht⟩) hS.2.2 d_Tr_put_81

set_option maxHeartbeats 4000000 in
set_option maxRecDepth 100000 in
theorem c_Tr_clear (l : Launch) (dC : Nat → ClassId) (dI : Nat → Nat → Nat) (dA : ClassId) (h0 q1 q2 q3 : Nat) (f g hh : Nat → Int32) (al : Int32) (sz : Nat) : Met l y_Tr_clear (w_ y_Tr_clear b_Tr_clear 1 none) (rm_ 1) (va_Pc [.ref h0] (fun U => U.heap.size = sz ∧ va_P (dC, dI) classes [(h0, .inr (1, [.ref q1, .ref q2, .ref q3, .int al])), (q1, .inl (dA, 1024, .inl f)), (q2, .inl (dA, 32, .inl g)), (q3, .inl (dA, 32, .inl hh))] U.heap ∧ va_K (dC, dI) classes [(dA, .int)] U ∧ va_D (fun _ => True) [(h0, .inr (1, [.ref q1, .ref q2, .ref q3, .int al])), (q1, .inl (dA, 1024, .inl f)), (q2, .inl (dA, 32, .inl g)), (q3, .inl (dA, 32, .inl hh))])) (va_Qv (fun (_ : Unit) => True) (fun (_ : Unit) t => va_P (dC, dI) classes [(h0, .inr (1, [.ref q1, .ref q2, .ref q3, .int (nI 0)])), (q1, .inl (dA, 1024, .inl (fun _ => nI 0))), (q2, .inl (dA, 32, .inl (fun _ => nI 0))), (q3, .inl (dA, 32, .inl (fun _ => nI 0)))] t.heap ∧ va_D (va_A [(h0, .inr (1, [.ref q1, .ref q2, .ref q3, .int al])), (q1, .inl (dA, 1024, .inl f)), (q2, .inl (dA, 32, .inl g)), (q3, .inl (dA, 32, .inl hh))] sz) [(h0, .inr (1, [.ref q1, .ref q2, .ref q3, .int (nI 0)])), (q1, .inl (dA, 1024, .inl (fun _ => nI 0))), (q2, .inl (dA, 32, .inl (fun _ => nI 0))), (q3, .inl (dA, 32, .inl (fun _ => nI 0)))]) (va_A [(h0, .inr (1, [.ref q1, .ref q2, .ref q3, .int al])), (q1, .inl (dA, 1024, .inl f)), (q2, .inl (dA, 32, .inl g)), (q3, .inl (dA, 32, .inl hh))] sz)) 0 0 (va_A [(h0, .inr (1, [.ref q1, .ref q2, .ref q3, .int al])), (q1, .inl (dA, 1024, .inl f)), (q2, .inl (dA, 32, .inl g)), (q3, .inl (dA, 32, .inl hh))] sz) := by
  refine Met.ofW (cc := b_Tr_clear) (maxL := 1) (ret := none) (by decide) rfl ?_
  intro p e s m args below meth c s₁ B hml hv
  obtain ⟨rfl, hsz, hP, hK, hD0⟩ := hv
  have hx := B.exec
  have hb := B.bytes
  have hr := B.returns
  have hts := atoms_spec (ws := (w_ y_Tr_clear b_Tr_clear 1 none)) B.pre
  have hown : s.vm.findClass R_Tr = some m.cls := findClass_of_methodNamed B.named
  have hlocks := B.notSynchronized
  subst hsz
  have hD := hD0.self (sz := s.heap.size)
  generalize hAe : va_A [(h0, .inr (1, [.ref q1, .ref q2, .ref q3, .int al])), (q1, .inl (dA, 1024, .inl f)), (q2, .inl (dA, 32, .inl g)), (q3, .inl (dA, 32, .inl hh))] s.heap.size = A at hD ⊢
  have hA : ∀ q : Nat, s.heap.size ≤ q → A q := fun q h => by rw [← hAe]; exact Or.inr h
  have hS : va_S A s.heap s.heap [] := va_S.rf
  have hl := lv_entry ([.ref h0]) (n := 1) (Nat.le_of_ble_eq_true rfl)
  rw [lg_entry_eq]
  generalize (lg_sl ([.ref h0]) ++ List.replicate (1 - (lg_sl ([.ref h0])).length) Slot.unset).toArray = ls at hl ⊢
  have hl : lv_has ls 1 [(0, .ref h0)] := hl
  refine lv_aload_n hx hb d_Tr_clear_0 rfl (lv_at hl 0 rfl) ?_
  refine va_get (D := (dC, dI)) (ci := 1) (v := .ref q1) (C := R_Tr) (T := F_Tr) (N := 4) hx hb hts (rg_c i_Tr) hown hK hP 0 rfl rfl 0 (by decide) (hts _ (List.mem_cons_of_mem _ m_27)) (fun _ h9 => h9) rfl d_Tr_clear_1 ?_
  refine lv_iconst (v := nI 0) hx hb d_Tr_clear_4 (by decide) ?_
  have hPc := hP.sub (ws' := [(q1, .inl (dA, 1024, .inl f))]) [1] rfl
  have hDc := hD.sub (ws' := [(q1, .inl (dA, 1024, .inl f))]) [1] (by decide) rfl
  have hFc := va_free (wc := [(q1, .inl (dA, 1024, .inl f))]) hD hS hA [1] rfl
  refine va_callv (va_runS (As := [.ref q1, .int (nI 0)]) (rest := []) ⟨hx, hb, hml, hown, hts⟩ (c_Ar_fill l dC dI dA q1 1024 f (nI 0) s.heap.size (by decide)) (va_cwS 2 hts (rg_S (rg3 m_168 m_169 m_7) k_Ar_fill) rfl rfl rfl (by decide +kernel) ⟨Nat.le_of_ble_eq_true rfl, Nat.le_of_ble_eq_true rfl⟩) ⟨fun a U g mk q => ⟨q.1, q.2.1, q.2.2.1, va_K.moved (u := U) (U := U.calling g mk a) (Vm.Alike.refl U.vm) q.2.2.2.1, q.2.2.2.2⟩, fun U hU hW => ⟨rfl, by rw [hU], by rw [hU]; exact hPc, va_K.moved hW.alike hK, hDc.weaken (fun _ _ _ _ => trivial)⟩⟩ rfl rfl hl.1 rfl (lv_room (Nat.le_of_ble_eq_true rfl)) d_Tr_clear_5 ⟨Nat.zero_le _, Nat.zero_le _⟩) hS (fun q _ h => hFc q h) hFc (fun u t H1 locs ht hvm hw hB hz1 hk1 hS => ?_)
  obtain ⟨hP1, hD1⟩ := hB
  rw [ht] at hP1
  obtain ⟨hP, hD⟩ := va_join (wr := [(h0, .inr (1, [.ref q1, .ref q2, .ref q3, .int al])), (q2, .inl (dA, 32, .inl g)), (q3, .inl (dA, 32, .inl hh))]) (w1 := [(q1, .inl (dA, 1024, .inl (fun _ => nI 0)))]) hP hD [1] [0, 2, 3] rfl rfl (by decide) (by decide) hk1 hFc hP1 hD1
  clear hk1 hFc hPc hDc hP1 hD1
  generalize H1 = H at hP hS ⊢
  have hP : va_P (dC, dI) classes [(h0, .inr (1, [.ref q1, .ref q2, .ref q3, .int al])), (q1, .inl (dA, 1024, .inl (fun _ => nI 0))), (q2, .inl (dA, 32, .inl g)), (q3, .inl (dA, 32, .inl hh))] H := hP.sub [0, 3, 1, 2] rfl
  have hD : va_D A [(h0, .inr (1, [.ref q1, .ref q2, .ref q3, .int al])), (q1, .inl (dA, 1024, .inl (fun _ => nI 0))), (q2, .inl (dA, 32, .inl g)), (q3, .inl (dA, 32, .inl hh))] := hD.sub [0, 3, 1, 2] (by decide) rfl
  refine lv_aload_n hx hb d_Tr_clear_8 rfl (lv_at hl 0 rfl) ?_
  refine va_get (D := (dC, dI)) (ci := 1) (v := .ref q2) (C := R_Tr) (T := F_Tr) (N := 4) hx hb hts (rg_c i_Tr) hown hK hP 0 rfl rfl 1 (by decide) (hts _ (List.mem_cons_of_mem _ m_28)) (fun _ h9 => h9) rfl d_Tr_clear_9 ?_
  refine lv_iconst (v := nI 0) hx hb d_Tr_clear_12 (by decide) ?_
  have hPc := hP.sub (ws' := [(q2, .inl (dA, 32, .inl g))]) [2] rfl
  have hDc := hD.sub (ws' := [(q2, .inl (dA, 32, .inl g))]) [2] (by decide) rfl
  have hFc := va_free (wc := [(q2, .inl (dA, 32, .inl g))]) hD hS hA [2] rfl
  refine va_callv (va_runS (As := [.ref q2, .int (nI 0)]) (rest := []) ⟨hx, hb, hml, hown, hts⟩ (c_Ar_fill l dC dI dA q2 32 g (nI 0) H.size (by decide)) (va_cwS 2 hts (rg_S (rg3 m_168 m_169 m_7) k_Ar_fill) rfl rfl rfl (by decide +kernel) ⟨Nat.le_of_ble_eq_true rfl, Nat.le_of_ble_eq_true rfl⟩) ⟨fun a U g mk q => ⟨q.1, q.2.1, q.2.2.1, va_K.moved (u := U) (U := U.calling g mk a) (Vm.Alike.refl U.vm) q.2.2.2.1, q.2.2.2.2⟩, fun U hU hW => ⟨rfl, by rw [hU], by rw [hU]; exact hPc, va_K.moved hW.alike hK, hDc.weaken (fun _ _ _ _ => trivial)⟩⟩ rfl rfl hl.1 rfl (lv_room (Nat.le_of_ble_eq_true rfl)) d_Tr_clear_13 ⟨Nat.zero_le _, Nat.zero_le _⟩) hS (fun q _ h => hFc q h) hFc (fun u t H1 locs ht hvm hw hB hz1 hk1 hS => ?_)
  obtain ⟨hP1, hD1⟩ := hB
  rw [ht] at hP1
  obtain ⟨hP, hD⟩ := va_join (wr := [(h0, .inr (1, [.ref q1, .ref q2, .ref q3, .int al])), (q1, .inl (dA, 1024, .inl (fun _ => nI 0))), (q3, .inl (dA, 32, .inl hh))]) (w1 := [(q2, .inl (dA, 32, .inl (fun _ => nI 0)))]) hP hD [2] [0, 1, 3] rfl rfl (by decide) (by decide) hk1 hFc hP1 hD1
  clear hk1 hFc hPc hDc hP1 hD1
  generalize H1 = H at hP hS ⊢
  have hP : va_P (dC, dI) classes [(h0, .inr (1, [.ref q1, .ref q2, .ref q3, .int al])), (q1, .inl (dA, 1024, .inl (fun _ => nI 0))), (q2, .inl (dA, 32, .inl (fun _ => nI 0))), (q3, .inl (dA, 32, .inl hh))] H := hP.sub [0, 1, 3, 2] rfl
  have hD : va_D A [(h0, .inr (1, [.ref q1, .ref q2, .ref q3, .int al])), (q1, .inl (dA, 1024, .inl (fun _ => nI 0))), (q2, .inl (dA, 32, .inl (fun _ => nI 0))), (q3, .inl (dA, 32, .inl hh))] := hD.sub [0, 1, 3, 2] (by decide) rfl
  refine lv_aload_n hx hb d_Tr_clear_16 rfl (lv_at hl 0 rfl) ?_
  refine va_get (D := (dC, dI)) (ci := 1) (v := .ref q3) (C := R_Tr) (T := F_Tr) (N := 4) hx hb hts (rg_c i_Tr) hown hK hP 0 rfl rfl 2 (by decide) (hts _ (List.mem_cons_of_mem _ m_29)) (fun _ h9 => h9) rfl d_Tr_clear_17 ?_
  refine lv_iconst (v := nI 0) hx hb d_Tr_clear_20 (by decide) ?_
  have hPc := hP.sub (ws' := [(q3, .inl (dA, 32, .inl hh))]) [3] rfl
  have hDc := hD.sub (ws' := [(q3, .inl (dA, 32, .inl hh))]) [3] (by decide) rfl
  have hFc := va_free (wc := [(q3, .inl (dA, 32, .inl hh))]) hD hS hA [3] rfl
  refine va_callv (va_runS (As := [.ref q3, .int (nI 0)]) (rest := []) ⟨hx, hb, hml, hown, hts⟩ (c_Ar_fill l dC dI dA q3 32 hh (nI 0) H.size (by decide)) (va_cwS 2 hts (rg_S (rg3 m_168 m_169 m_7) k_Ar_fill) rfl rfl rfl (by decide +kernel) ⟨Nat.le_of_ble_eq_true rfl, Nat.le_of_ble_eq_true rfl⟩) ⟨fun a U g mk q => ⟨q.1, q.2.1, q.2.2.1, va_K.moved (u := U) (U := U.calling g mk a) (Vm.Alike.refl U.vm) q.2.2.2.1, q.2.2.2.2⟩, fun U hU hW => ⟨rfl, by rw [hU], by rw [hU]; exact hPc, va_K.moved hW.alike hK, hDc.weaken (fun _ _ _ _ => trivial)⟩⟩ rfl rfl hl.1 rfl (lv_room (Nat.le_of_ble_eq_true rfl)) d_Tr_clear_21 ⟨Nat.zero_le _, Nat.zero_le _⟩) hS (fun q _ h => hFc q h) hFc (fun u t H1 locs ht hvm hw hB hz1 hk1 hS => ?_)
  obtain ⟨hP1, hD1⟩ := hB
  rw [ht] at hP1
  obtain ⟨hP, hD⟩ := va_join (wr := [(h0, .inr (1, [.ref q1, .ref q2, .ref q3, .int al])), (q1, .inl (dA, 1024, .inl (fun _ => nI 0))), (q2, .inl (dA, 32, .inl (fun _ => nI 0)))]) (w1 := [(q3, .inl (dA, 32, .inl (fun _ => nI 0)))]) hP hD [3] [0, 1, 2] rfl rfl (by decide) (by decide) hk1 hFc hP1 hD1
  clear hk1 hFc hPc hDc hP1 hD1
  generalize H1 = H at hP hS ⊢
  have hP : va_P (dC, dI) classes [(h0, .inr (1, [.ref q1, .ref q2, .ref q3, .int al])), (q1, .inl (dA, 1024, .inl (fun _ => nI 0))), (q2, .inl (dA, 32, .inl (fun _ => nI 0))), (q3, .inl (dA, 32, .inl (fun _ => nI 0)))] H := hP.sub [0, 1, 2, 3] rfl
  have hD : va_D A [(h0, .inr (1, [.ref q1, .ref q2, .ref q3, .int al])), (q1, .inl (dA, 1024, .inl (fun _ => nI 0))), (q2, .inl (dA, 32, .inl (fun _ => nI 0))), (q3, .inl (dA, 32, .inl (fun _ => nI 0)))] := hD.sub [0, 1, 2, 3] (by decide) rfl
  refine lv_aload_n hx hb d_Tr_clear_24 rfl (lv_at hl 0 rfl) ?_
  refine lv_iconst (v := nI 0) hx hb d_Tr_clear_25 (by decide) ?_
  refine va_put (D := (dC, dI)) (ci := 1) (v := .int (nI 0)) (ty := .int) (C := R_Tr) (T := F_Tr) (N := 4) hx hb hts (rg_c i_Tr) t_Tr t_Tr_ok n_Tr hown hK hP hD hS 0 rfl rfl 3 (by decide) (hts _ (List.mem_cons_of_mem _ m_30)) (fun _ h9 => h9) rfl (by decide +kernel) (by rfl) (by rfl) (Nat.le_of_ble_eq_true rfl) d_Tr_clear_26 (fun H locs hP hD hS => ?_)
  have hP : va_P (dC, dI) classes [(h0, .inr (1, [.ref q1, .ref q2, .ref q3, .int (nI 0)])), (q1, .inl (dA, 1024, .inl (fun _ => nI 0))), (q2, .inl (dA, 32, .inl (fun _ => nI 0))), (q3, .inl (dA, 32, .inl (fun _ => nI 0)))] H := hP
  have hD : va_D A [(h0, .inr (1, [.ref q1, .ref q2, .ref q3, .int (nI 0)])), (q1, .inl (dA, 1024, .inl (fun _ => nI 0))), (q2, .inl (dA, 32, .inl (fun _ => nI 0))), (q3, .inl (dA, 32, .inl (fun _ => nI 0)))] := hD
  exact W.vret hx hb hr (fun t ht hW => ⟨⟨(), rfl, trivial, by rw [ht]; exact hP, hD⟩, hS.F ht⟩) hS.2.2 d_Tr_clear_29

set_option maxHeartbeats 4000000 in
set_option maxRecDepth 100000 in
theorem c_Tr_subjectsFor (l : Launch) (dC : Nat → ClassId) (dI : Nat → Nat → Nat) (dA : ClassId) (h0 q1 q2 q3 : Nat) (f g hh : Nat → Int32) (al : Int32) (ks kp : Option Nat) (hks : ∀ x, ks = some x → x < 32) (hkp : ∀ x, kp = some x → x < 32) : Met l y_Tr_subjectsFor (w_ y_Tr_subjectsFor b_Tr_subjectsFor 3 (some .int)) (rm_ 1) (va_Pc [.ref h0, .int (rt_i ks), .int (rt_i kp)] (fun U => va_K (dC, dI) classes [(dA, .int)] U ∧ va_P (dC, dI) classes [(h0, .inr (1, [.ref q1, .ref q2, .ref q3, .int al])), (q1, .inl (dA, 1024, .inl f)), (q2, .inl (dA, 32, .inl g)), (q3, .inl (dA, 32, .inl hh))] U.heap ∧ rn_ U)) (va_Qi (fun (z9 : Int32) (_ : Unit) => z9 = rx_ss g al ks kp) (fun _ _ => True) (fun _ => False)) 0 0 (fun _ => False) := by
  refine Met.ofW (cc := b_Tr_subjectsFor) (maxL := 3) (ret := (some .int)) (by decide) rfl ?_
  intro p e s m args below meth c s₁ B hml hv
  obtain ⟨rfl, hK, hP, hN⟩ := hv
  have hx := B.exec
  have hb := B.bytes
  have hr := B.returns
  have hts := atoms_spec (ws := (w_ y_Tr_subjectsFor b_Tr_subjectsFor 3 (some .int))) B.pre
  have hown : s.vm.findClass R_Tr = some m.cls := findClass_of_methodNamed B.named
  have hlocks := B.notSynchronized
  have hS : va_S (fun _ => False) s.heap s.heap [] := va_S.rf
  have hl := lv_entry ([.ref h0, .int (rt_i ks), .int (rt_i kp)]) (n := 3) (Nat.le_of_ble_eq_true rfl)
  rw [lg_entry_eq]
  generalize (lg_sl ([.ref h0, .int (rt_i ks), .int (rt_i kp)]) ++ List.replicate (3 - (lg_sl ([.ref h0, .int (rt_i ks), .int (rt_i kp)])).length) Slot.unset).toArray = ls at hl ⊢
  have hl : lv_has ls 3 [(0, .ref h0), (1, .int (rt_i ks)), (2, .int (rt_i kp))] := hl
  rcases ks with _ | s0
  · have hl : lv_has ls 3 [(0, .ref h0), (1, .int (-1)), (2, .int (rt_i kp))] := hl
    rcases kp with _ | p0
    · have hl : lv_has ls 3 [(0, .ref h0), (1, .int (-1)), (2, .int (-1))] := hl
      refine lv_iload_n hx hb d_Tr_subjectsFor_0 rfl (lv_at hl 1 rfl) ?_
      refine rv_calli (r := rc_tm (-1)) (va_runSN (As := [.int (-1)]) (rest := []) ⟨hx, hb, hml, hown, hts⟩ (c_Rl_isTerm l (-1)) ⟨va_cnB 1 hts (rg_G k_Rl_isTerm) rfl rfl rfl (hN _ rn_3) (hts _ (List.mem_cons_of_mem _ m_1)) (by decide +kernel) ⟨Nat.le_of_ble_eq_true rfl, Nat.le_of_ble_eq_true rfl⟩, hts _ (List.mem_cons_of_mem _ m_132), trivial⟩ ⟨fun _ _ _ _ q => q, fun U hU hW => ⟨rfl, trivial⟩⟩ rfl rfl hl.1 rfl (lv_room (Nat.le_of_ble_eq_true rfl)) d_Tr_subjectsFor_1 ⟨Nat.zero_le _, Nat.zero_le _⟩) hS (fun _ h => h.elim) (fun H locs hk hS => ?_)
      have hP := rv_kept hP hk
      refine rv_eq (y := nI 0) (rc_tm_m1) ?_
      refine rv_if_eq (tgt := 11) hx hb d_Tr_subjectsFor_4 (by decide) (by omega) (fun c_4 => ?_) (fun c_4 => absurd c_4 (by omega))
      refine lv_iload_n hx hb d_Tr_subjectsFor_11 rfl (lv_at hl 2 rfl) ?_
      refine rv_calli (r := rc_tm (-1)) (va_runSN (As := [.int (-1)]) (rest := []) ⟨hx, hb, hml, hown, hts⟩ (c_Rl_isTerm l (-1)) ⟨va_cnB 1 hts (rg_G k_Rl_isTerm) rfl rfl rfl (hN _ rn_3) (hts _ (List.mem_cons_of_mem _ m_1)) (by decide +kernel) ⟨Nat.le_of_ble_eq_true rfl, Nat.le_of_ble_eq_true rfl⟩, hts _ (List.mem_cons_of_mem _ m_132), trivial⟩ ⟨fun _ _ _ _ q => q, fun U hU hW => ⟨rfl, trivial⟩⟩ rfl rfl hl.1 rfl (lv_room (Nat.le_of_ble_eq_true rfl)) d_Tr_subjectsFor_12 ⟨Nat.zero_le _, Nat.zero_le _⟩) hS (fun _ h => h.elim) (fun H locs hk hS => ?_)
      have hP := rv_kept hP hk
      refine rv_eq (y := nI 0) (rc_tm_m1) ?_
      refine rv_if_eq (tgt := 27) hx hb d_Tr_subjectsFor_15 (by decide) (by omega) (fun c_15 => ?_) (fun c_15 => absurd c_15 (by omega))
      refine lv_aload_n hx hb d_Tr_subjectsFor_27 rfl (lv_at hl 0 rfl) ?_
      refine va_get (D := (dC, dI)) (ci := 1) (v := .int al) (C := R_Tr) (T := F_Tr) (N := 4) hx hb hts (rg_c i_Tr) hown hK hP 0 rfl rfl 3 (by decide) (hts _ (List.mem_cons_of_mem _ m_30)) (fun _ h9 => h9) rfl d_Tr_subjectsFor_28 ?_
      exact W.iret (v := al) hx hb hr (fun t ht hW => ⟨⟨al, (), rfl, rfl, trivial⟩, hS.F ht⟩) hS.2.2 d_Tr_subjectsFor_31
    · have hkpx := hkp p0 rfl
      have hl : lv_has ls 3 [(0, .ref h0), (1, .int (-1)), (2, .int (nI p0))] := hl
      refine lv_iload_n hx hb d_Tr_subjectsFor_0 rfl (lv_at hl 1 rfl) ?_
      refine rv_calli (r := rc_tm (-1)) (va_runSN (As := [.int (-1)]) (rest := []) ⟨hx, hb, hml, hown, hts⟩ (c_Rl_isTerm l (-1)) ⟨va_cnB 1 hts (rg_G k_Rl_isTerm) rfl rfl rfl (hN _ rn_3) (hts _ (List.mem_cons_of_mem _ m_1)) (by decide +kernel) ⟨Nat.le_of_ble_eq_true rfl, Nat.le_of_ble_eq_true rfl⟩, hts _ (List.mem_cons_of_mem _ m_132), trivial⟩ ⟨fun _ _ _ _ q => q, fun U hU hW => ⟨rfl, trivial⟩⟩ rfl rfl hl.1 rfl (lv_room (Nat.le_of_ble_eq_true rfl)) d_Tr_subjectsFor_1 ⟨Nat.zero_le _, Nat.zero_le _⟩) hS (fun _ h => h.elim) (fun H locs hk hS => ?_)
      have hP := rv_kept hP hk
      refine rv_eq (y := nI 0) (rc_tm_m1) ?_
      refine rv_if_eq (tgt := 11) hx hb d_Tr_subjectsFor_4 (by decide) (by omega) (fun c_4 => ?_) (fun c_4 => absurd c_4 (by omega))
      refine lv_iload_n hx hb d_Tr_subjectsFor_11 rfl (lv_at hl 2 rfl) ?_
      refine rv_calli (r := rc_tm (nI p0)) (va_runSN (As := [.int (nI p0)]) (rest := []) ⟨hx, hb, hml, hown, hts⟩ (c_Rl_isTerm l (nI p0)) ⟨va_cnB 1 hts (rg_G k_Rl_isTerm) rfl rfl rfl (hN _ rn_3) (hts _ (List.mem_cons_of_mem _ m_1)) (by decide +kernel) ⟨Nat.le_of_ble_eq_true rfl, Nat.le_of_ble_eq_true rfl⟩, hts _ (List.mem_cons_of_mem _ m_132), trivial⟩ ⟨fun _ _ _ _ q => q, fun U hU hW => ⟨rfl, trivial⟩⟩ rfl rfl hl.1 rfl (lv_room (Nat.le_of_ble_eq_true rfl)) d_Tr_subjectsFor_12 ⟨Nat.zero_le _, Nat.zero_le _⟩) hS (fun _ h => h.elim) (fun H locs hk hS => ?_)
      have hP := rv_kept hP hk
      refine rv_eq (y := nI 1) (rc_tm_nI (by omega)) ?_
      refine rv_if_eq (tgt := 27) hx hb d_Tr_subjectsFor_15 (by decide) (by omega) (fun c_15 => absurd c_15 (by omega)) (fun c_15 => ?_)
      refine lv_aload_n hx hb d_Tr_subjectsFor_18 rfl (lv_at hl 0 rfl) ?_
      refine va_get (D := (dC, dI)) (ci := 1) (v := .ref q2) (C := R_Tr) (T := F_Tr) (N := 4) hx hb hts (rg_c i_Tr) hown hK hP 0 rfl rfl 1 (by decide) (hts _ (List.mem_cons_of_mem _ m_28)) (fun _ h9 => h9) rfl d_Tr_subjectsFor_19 ?_
      refine lv_iload_n hx hb d_Tr_subjectsFor_22 rfl (lv_at hl 2 rfl) ?_
      refine rv_ald (k := p0) hx hb hK hP 2 0 rfl rfl (by omega) (by decide) d_Tr_subjectsFor_23 ?_
      refine lv_goto (tgt := 31) hx hb d_Tr_subjectsFor_24 (by decide) ?_
      exact W.iret (v := g p0) hx hb hr (fun t ht hW => ⟨⟨g p0, (), rfl, rfl, trivial⟩, hS.F ht⟩) hS.2.2 d_Tr_subjectsFor_31
  · have hksx := hks s0 rfl
    have hl : lv_has ls 3 [(0, .ref h0), (1, .int (nI s0)), (2, .int (rt_i kp))] := hl
    rcases kp with _ | p0
    · have hl : lv_has ls 3 [(0, .ref h0), (1, .int (nI s0)), (2, .int (-1))] := hl
      refine lv_iload_n hx hb d_Tr_subjectsFor_0 rfl (lv_at hl 1 rfl) ?_
      refine rv_calli (r := rc_tm (nI s0)) (va_runSN (As := [.int (nI s0)]) (rest := []) ⟨hx, hb, hml, hown, hts⟩ (c_Rl_isTerm l (nI s0)) ⟨va_cnB 1 hts (rg_G k_Rl_isTerm) rfl rfl rfl (hN _ rn_3) (hts _ (List.mem_cons_of_mem _ m_1)) (by decide +kernel) ⟨Nat.le_of_ble_eq_true rfl, Nat.le_of_ble_eq_true rfl⟩, hts _ (List.mem_cons_of_mem _ m_132), trivial⟩ ⟨fun _ _ _ _ q => q, fun U hU hW => ⟨rfl, trivial⟩⟩ rfl rfl hl.1 rfl (lv_room (Nat.le_of_ble_eq_true rfl)) d_Tr_subjectsFor_1 ⟨Nat.zero_le _, Nat.zero_le _⟩) hS (fun _ h => h.elim) (fun H locs hk hS => ?_)
      have hP := rv_kept hP hk
      refine rv_eq (y := nI 1) (rc_tm_nI (by omega)) ?_
      refine rv_if_eq (tgt := 11) hx hb d_Tr_subjectsFor_4 (by decide) (by omega) (fun c_4 => absurd c_4 (by omega)) (fun c_4 => ?_)
      refine lv_iconst (v := nI 1) hx hb d_Tr_subjectsFor_7 (by decide) ?_
      refine lv_iload_n hx hb d_Tr_subjectsFor_8 rfl (lv_at hl 1 rfl) ?_
      refine lv_ishl hx hb d_Tr_subjectsFor_9 ?_
      exact W.iret (v := (nI 1) <<< ((nI s0) &&& 31)) hx hb hr (fun t ht hW => ⟨⟨(nI 1) <<< ((nI s0) &&& 31), (), rfl, rfl, trivial⟩, hS.F ht⟩) hS.2.2 d_Tr_subjectsFor_10
    · have hkpx := hkp p0 rfl
      have hl : lv_has ls 3 [(0, .ref h0), (1, .int (nI s0)), (2, .int (nI p0))] := hl
      refine lv_iload_n hx hb d_Tr_subjectsFor_0 rfl (lv_at hl 1 rfl) ?_
      refine rv_calli (r := rc_tm (nI s0)) (va_runSN (As := [.int (nI s0)]) (rest := []) ⟨hx, hb, hml, hown, hts⟩ (c_Rl_isTerm l (nI s0)) ⟨va_cnB 1 hts (rg_G k_Rl_isTerm) rfl rfl rfl (hN _ rn_3) (hts _ (List.mem_cons_of_mem _ m_1)) (by decide +kernel) ⟨Nat.le_of_ble_eq_true rfl, Nat.le_of_ble_eq_true rfl⟩, hts _ (List.mem_cons_of_mem _ m_132), trivial⟩ ⟨fun _ _ _ _ q => q, fun U hU hW => ⟨rfl, trivial⟩⟩ rfl rfl hl.1 rfl (lv_room (Nat.le_of_ble_eq_true rfl)) d_Tr_subjectsFor_1 ⟨Nat.zero_le _, Nat.zero_le _⟩) hS (fun _ h => h.elim) (fun H locs hk hS => ?_)
      have hP := rv_kept hP hk
      refine rv_eq (y := nI 1) (rc_tm_nI (by omega)) ?_
      refine rv_if_eq (tgt := 11) hx hb d_Tr_subjectsFor_4 (by decide) (by omega) (fun c_4 => absurd c_4 (by omega)) (fun c_4 => ?_)
      refine lv_iconst (v := nI 1) hx hb d_Tr_subjectsFor_7 (by decide) ?_
      refine lv_iload_n hx hb d_Tr_subjectsFor_8 rfl (lv_at hl 1 rfl) ?_
      refine lv_ishl hx hb d_Tr_subjectsFor_9 ?_
      exact W.iret (v := (nI 1) <<< ((nI s0) &&& 31)) hx hb hr (fun t ht hW => ⟨⟨(nI 1) <<< ((nI s0) &&& 31), (), rfl, rfl, trivial⟩, hS.F ht⟩) hS.2.2 d_Tr_subjectsFor_10

set_option maxHeartbeats 4000000 in
set_option maxRecDepth 100000 in
theorem c_Tr_predicatesFor (l : Launch) (dC : Nat → ClassId) (dI : Nat → Nat → Nat) (dA : ClassId) (h0 q1 q2 q3 : Nat) (f g hh : Nat → Int32) (al : Int32) (s0 : Nat) (kp : Option Nat) (hs0 : s0 < 32) (hkp : ∀ x, kp = some x → x < 32) : Met l y_Tr_predicatesFor (w_ y_Tr_predicatesFor b_Tr_predicatesFor 3 (some .int)) (rm_ 1) (va_Pc [.ref h0, .int (nI s0), .int (rt_i kp)] (fun U => va_K (dC, dI) classes [(dA, .int)] U ∧ va_P (dC, dI) classes [(h0, .inr (1, [.ref q1, .ref q2, .ref q3, .int al])), (q1, .inl (dA, 1024, .inl f)), (q2, .inl (dA, 32, .inl g)), (q3, .inl (dA, 32, .inl hh))] U.heap ∧ rn_ U)) (va_Qi (fun (z9 : Int32) (_ : Unit) => z9 = rx_ps hh s0 kp) (fun _ _ => True) (fun _ => False)) 0 0 (fun _ => False) := by
  refine Met.ofW (cc := b_Tr_predicatesFor) (maxL := 3) (ret := (some .int)) (by decide) rfl ?_
  intro p e s m args below meth c s₁ B hml hv
  obtain ⟨rfl, hK, hP, hN⟩ := hv
  have hx := B.exec
  have hb := B.bytes
  have hr := B.returns
  have hts := atoms_spec (ws := (w_ y_Tr_predicatesFor b_Tr_predicatesFor 3 (some .int))) B.pre
  have hown : s.vm.findClass R_Tr = some m.cls := findClass_of_methodNamed B.named
  have hlocks := B.notSynchronized
  have hS : va_S (fun _ => False) s.heap s.heap [] := va_S.rf
  have hl := lv_entry ([.ref h0, .int (nI s0), .int (rt_i kp)]) (n := 3) (Nat.le_of_ble_eq_true rfl)
  rw [lg_entry_eq]
  generalize (lg_sl ([.ref h0, .int (nI s0), .int (rt_i kp)]) ++ List.replicate (3 - (lg_sl ([.ref h0, .int (nI s0), .int (rt_i kp)])).length) Slot.unset).toArray = ls at hl ⊢
  have hl : lv_has ls 3 [(0, .ref h0), (1, .int (nI s0)), (2, .int (rt_i kp))] := hl
  rcases kp with _ | p0
  · have hl : lv_has ls 3 [(0, .ref h0), (1, .int (nI s0)), (2, .int (-1))] := hl
    refine lv_iload_n hx hb d_Tr_predicatesFor_0 rfl (lv_at hl 2 rfl) ?_
    refine rv_calli (r := rc_tm (-1)) (va_runSN (As := [.int (-1)]) (rest := []) ⟨hx, hb, hml, hown, hts⟩ (c_Rl_isTerm l (-1)) ⟨va_cnB 1 hts (rg_G k_Rl_isTerm) rfl rfl rfl (hN _ rn_3) (hts _ (List.mem_cons_of_mem _ m_1)) (by decide +kernel) ⟨Nat.le_of_ble_eq_true rfl, Nat.le_of_ble_eq_true rfl⟩, hts _ (List.mem_cons_of_mem _ m_132), trivial⟩ ⟨fun _ _ _ _ q => q, fun U hU hW => ⟨rfl, trivial⟩⟩ rfl rfl hl.1 rfl (lv_room (Nat.le_of_ble_eq_true rfl)) d_Tr_predicatesFor_1 ⟨Nat.zero_le _, Nat.zero_le _⟩) hS (fun _ h => h.elim) (fun H locs hk hS => ?_)
    have hP := rv_kept hP hk
    refine rv_eq (y := nI 0) (rc_tm_m1) ?_
    refine rv_if_eq (tgt := 11) hx hb d_Tr_predicatesFor_4 (by decide) (by omega) (fun c_4 => ?_) (fun c_4 => absurd c_4 (by omega))
    refine lv_iload_n hx hb d_Tr_predicatesFor_11 rfl (lv_at hl 1 rfl) ?_
    refine rv_calli (r := rc_tm (nI s0)) (va_runSN (As := [.int (nI s0)]) (rest := []) ⟨hx, hb, hml, hown, hts⟩ (c_Rl_isTerm l (nI s0)) ⟨va_cnB 1 hts (rg_G k_Rl_isTerm) rfl rfl rfl (hN _ rn_3) (hts _ (List.mem_cons_of_mem _ m_1)) (by decide +kernel) ⟨Nat.le_of_ble_eq_true rfl, Nat.le_of_ble_eq_true rfl⟩, hts _ (List.mem_cons_of_mem _ m_132), trivial⟩ ⟨fun _ _ _ _ q => q, fun U hU hW => ⟨rfl, trivial⟩⟩ rfl rfl hl.1 rfl (lv_room (Nat.le_of_ble_eq_true rfl)) d_Tr_predicatesFor_12 ⟨Nat.zero_le _, Nat.zero_le _⟩) hS (fun _ h => h.elim) (fun H locs hk hS => ?_)
    have hP := rv_kept hP hk
    refine rv_eq (y := nI 1) (rc_tm_nI (by omega)) ?_
    refine rv_if_eq (tgt := 27) hx hb d_Tr_predicatesFor_15 (by decide) (by omega) (fun c_15 => absurd c_15 (by omega)) (fun c_15 => ?_)
    refine lv_aload_n hx hb d_Tr_predicatesFor_18 rfl (lv_at hl 0 rfl) ?_
    refine va_get (D := (dC, dI)) (ci := 1) (v := .ref q3) (C := R_Tr) (T := F_Tr) (N := 4) hx hb hts (rg_c i_Tr) hown hK hP 0 rfl rfl 2 (by decide) (hts _ (List.mem_cons_of_mem _ m_29)) (fun _ h9 => h9) rfl d_Tr_predicatesFor_19 ?_
    refine lv_iload_n hx hb d_Tr_predicatesFor_22 rfl (lv_at hl 1 rfl) ?_
    refine rv_ald (k := s0) hx hb hK hP 3 0 rfl rfl (by omega) (by decide) d_Tr_predicatesFor_23 ?_
    refine lv_goto (tgt := 28) hx hb d_Tr_predicatesFor_24 (by decide) ?_
    exact W.iret (v := hh s0) hx hb hr (fun t ht hW => ⟨⟨hh s0, (), rfl, rfl, trivial⟩, hS.F ht⟩) hS.2.2 d_Tr_predicatesFor_28
  · have hkpx := hkp p0 rfl
    have hl : lv_has ls 3 [(0, .ref h0), (1, .int (nI s0)), (2, .int (nI p0))] := hl
    refine lv_iload_n hx hb d_Tr_predicatesFor_0 rfl (lv_at hl 2 rfl) ?_
    refine rv_calli (r := rc_tm (nI p0)) (va_runSN (As := [.int (nI p0)]) (rest := []) ⟨hx, hb, hml, hown, hts⟩ (c_Rl_isTerm l (nI p0)) ⟨va_cnB 1 hts (rg_G k_Rl_isTerm) rfl rfl rfl (hN _ rn_3) (hts _ (List.mem_cons_of_mem _ m_1)) (by decide +kernel) ⟨Nat.le_of_ble_eq_true rfl, Nat.le_of_ble_eq_true rfl⟩, hts _ (List.mem_cons_of_mem _ m_132), trivial⟩ ⟨fun _ _ _ _ q => q, fun U hU hW => ⟨rfl, trivial⟩⟩ rfl rfl hl.1 rfl (lv_room (Nat.le_of_ble_eq_true rfl)) d_Tr_predicatesFor_1 ⟨Nat.zero_le _, Nat.zero_le _⟩) hS (fun _ h => h.elim) (fun H locs hk hS => ?_)
    have hP := rv_kept hP hk
    refine rv_eq (y := nI 1) (rc_tm_nI (by omega)) ?_
    refine rv_if_eq (tgt := 11) hx hb d_Tr_predicatesFor_4 (by decide) (by omega) (fun c_4 => absurd c_4 (by omega)) (fun c_4 => ?_)
    refine lv_iconst (v := nI 1) hx hb d_Tr_predicatesFor_7 (by decide) ?_
    refine lv_iload_n hx hb d_Tr_predicatesFor_8 rfl (lv_at hl 2 rfl) ?_
    refine lv_ishl hx hb d_Tr_predicatesFor_9 ?_
    exact W.iret (v := (nI 1) <<< ((nI p0) &&& 31)) hx hb hr (fun t ht hW => ⟨⟨(nI 1) <<< ((nI p0) &&& 31), (), rfl, rfl, trivial⟩, hS.F ht⟩) hS.2.2 d_Tr_predicatesFor_10

set_option maxHeartbeats 4000000 in
set_option maxRecDepth 100000 in
theorem c_Tr_objectsFor (l : Launch) (dC : Nat → ClassId) (dI : Nat → Nat → Nat) (dA : ClassId) (h0 q1 q2 q3 : Nat) (f g hh : Nat → Int32) (al : Int32) (s0 p0 : Nat) (ko : Option Nat) (hs0 : s0 < 32) (hp0 : p0 < 32) (hko : ∀ x, ko = some x → x < 32) : Met l y_Tr_objectsFor (w_ y_Tr_objectsFor b_Tr_objectsFor 5 (some .int)) (rm_ 1) (va_Pc [.ref h0, .int (nI s0), .int (nI p0), .int (rt_i ko)] (fun U => va_K (dC, dI) classes [(dA, .int)] U ∧ va_P (dC, dI) classes [(h0, .inr (1, [.ref q1, .ref q2, .ref q3, .int al])), (q1, .inl (dA, 1024, .inl f)), (q2, .inl (dA, 32, .inl g)), (q3, .inl (dA, 32, .inl hh))] U.heap ∧ rn_ U)) (va_Qi (fun (z9 : Int32) (_ : Unit) => z9 = rx_os f s0 p0 ko) (fun _ _ => True) (fun _ => False)) 0 0 (fun _ => False) := by
  refine Met.ofW (cc := b_Tr_objectsFor) (maxL := 5) (ret := (some .int)) (by decide) rfl ?_
  intro p e s m args below meth c s₁ B hml hv
  obtain ⟨rfl, hK, hP, hN⟩ := hv
  have hx := B.exec
  have hb := B.bytes
  have hr := B.returns
  have hts := atoms_spec (ws := (w_ y_Tr_objectsFor b_Tr_objectsFor 5 (some .int))) B.pre
  have hown : s.vm.findClass R_Tr = some m.cls := findClass_of_methodNamed B.named
  have hlocks := B.notSynchronized
  have hS : va_S (fun _ => False) s.heap s.heap [] := va_S.rf
  have hl := lv_entry ([.ref h0, .int (nI s0), .int (nI p0), .int (rt_i ko)]) (n := 5) (Nat.le_of_ble_eq_true rfl)
  rw [lg_entry_eq]
  generalize (lg_sl ([.ref h0, .int (nI s0), .int (nI p0), .int (rt_i ko)]) ++ List.replicate (5 - (lg_sl ([.ref h0, .int (nI s0), .int (nI p0), .int (rt_i ko)])).length) Slot.unset).toArray = ls at hl ⊢
  have hl : lv_has ls 5 [(0, .ref h0), (1, .int (nI s0)), (2, .int (nI p0)), (3, .int (rt_i ko))] := hl
  rcases ko with _ | o0
  · have hl : lv_has ls 5 [(0, .ref h0), (1, .int (nI s0)), (2, .int (nI p0)), (3, .int (-1))] := hl
    refine lv_iload_n hx hb d_Tr_objectsFor_0 rfl (lv_at hl 1 rfl) ?_
    refine rv_calli (r := rc_tm (nI s0)) (va_runSN (As := [.int (nI s0)]) (rest := []) ⟨hx, hb, hml, hown, hts⟩ (c_Rl_isTerm l (nI s0)) ⟨va_cnB 1 hts (rg_G k_Rl_isTerm) rfl rfl rfl (hN _ rn_3) (hts _ (List.mem_cons_of_mem _ m_1)) (by decide +kernel) ⟨Nat.le_of_ble_eq_true rfl, Nat.le_of_ble_eq_true rfl⟩, hts _ (List.mem_cons_of_mem _ m_132), trivial⟩ ⟨fun _ _ _ _ q => q, fun U hU hW => ⟨rfl, trivial⟩⟩ rfl rfl hl.1 rfl (lv_room (Nat.le_of_ble_eq_true rfl)) d_Tr_objectsFor_1 ⟨Nat.zero_le _, Nat.zero_le _⟩) hS (fun _ h => h.elim) (fun H locs hk hS => ?_)
    have hP := rv_kept hP hk
    refine rv_eq (y := nI 1) (rc_tm_nI (by omega)) ?_
    refine rv_if_eq (tgt := 14) hx hb d_Tr_objectsFor_4 (by decide) (by omega) (fun c_4 => absurd c_4 (by omega)) (fun c_4 => ?_)
    refine lv_iload_n hx hb d_Tr_objectsFor_7 rfl (lv_at hl 2 rfl) ?_
    refine rv_calli (r := rc_tm (nI p0)) (va_runSN (As := [.int (nI p0)]) (rest := []) ⟨hx, hb, hml, hown, hts⟩ (c_Rl_isTerm l (nI p0)) ⟨va_cnB 1 hts (rg_G k_Rl_isTerm) rfl rfl rfl (hN _ rn_3) (hts _ (List.mem_cons_of_mem _ m_1)) (by decide +kernel) ⟨Nat.le_of_ble_eq_true rfl, Nat.le_of_ble_eq_true rfl⟩, hts _ (List.mem_cons_of_mem _ m_132), trivial⟩ ⟨fun _ _ _ _ q => q, fun U hU hW => ⟨rfl, trivial⟩⟩ rfl rfl hl.1 rfl (lv_room (Nat.le_of_ble_eq_true rfl)) d_Tr_objectsFor_8 ⟨Nat.zero_le _, Nat.zero_le _⟩) hS (fun _ h => h.elim) (fun H locs hk hS => ?_)
    have hP := rv_kept hP hk
    refine rv_eq (y := nI 1) (rc_tm_nI (by omega)) ?_
    refine rv_if_ne (tgt := 16) hx hb d_Tr_objectsFor_11 (by decide) (by omega) (fun c_11 => ?_) (fun c_11 => absurd c_11 (by omega))
    refine lv_aload_n hx hb d_Tr_objectsFor_16 rfl (lv_at hl 0 rfl) ?_
    refine va_get (D := (dC, dI)) (ci := 1) (v := .ref q1) (C := R_Tr) (T := F_Tr) (N := 4) hx hb hts (rg_c i_Tr) hown hK hP 0 rfl rfl 0 (by decide) (hts _ (List.mem_cons_of_mem _ m_27)) (fun _ h9 => h9) rfl d_Tr_objectsFor_17 ?_
    refine lv_iload_n hx hb d_Tr_objectsFor_20 rfl (lv_at hl 1 rfl) ?_
    refine lv_bipush (v := nI 32) hx hb d_Tr_objectsFor_21 (by decide) ?_
    refine rv_imul hx hb d_Tr_objectsFor_23 ?_
    refine lv_iload_n hx hb d_Tr_objectsFor_24 rfl (lv_at hl 2 rfl) ?_
    refine rv_iadd hx hb d_Tr_objectsFor_25 ?_
    refine rv_ald (k := ((s0 * 32) + p0)) hx hb hK hP 1 0 rfl rfl (by omega) (by decide) d_Tr_objectsFor_26 ?_
    refine lv_istore (lv' := [(4, .int (f ((s0 * 32) + p0))), (0, .ref h0), (1, .int (nI s0)), (2, .int (nI p0)), (3, .int (-1))]) hx hb d_Tr_objectsFor_27 hl (by decide) rfl (fun ls hl => ?_)
    refine lv_iload_n hx hb d_Tr_objectsFor_29 rfl (lv_at hl 4 rfl) ?_
    refine rv_calli (r := rc_tm (-1)) (va_runSN (As := [.int (-1)]) (rest := []) ⟨hx, hb, hml, hown, hts⟩ (c_Rl_isTerm l (-1)) ⟨va_cnB 1 hts (rg_G k_Rl_isTerm) rfl rfl rfl (hN _ rn_3) (hts _ (List.mem_cons_of_mem _ m_1)) (by decide +kernel) ⟨Nat.le_of_ble_eq_true rfl, Nat.le_of_ble_eq_true rfl⟩, hts _ (List.mem_cons_of_mem _ m_132), trivial⟩ ⟨fun _ _ _ _ q => q, fun U hU hW => ⟨rfl, trivial⟩⟩ rfl rfl hl.1 rfl (lv_room (Nat.le_of_ble_eq_true rfl)) d_Tr_objectsFor_30 ⟨Nat.zero_le _, Nat.zero_le _⟩) hS (fun _ h => h.elim) (fun H locs hk hS => ?_)
    have hP := rv_kept hP hk
    refine rv_eq (y := nI 0) (rc_tm_m1) ?_
    refine rv_if_eq (tgt := 45) hx hb d_Tr_objectsFor_33 (by decide) (by omega) (fun c_33 => ?_) (fun c_33 => absurd c_33 (by omega))
    refine lv_iload hx hb d_Tr_objectsFor_45 (lv_at hl 0 rfl) ?_
    exact W.iret (v := f ((s0 * 32) + p0)) hx hb hr (fun t ht hW => ⟨⟨f ((s0 * 32) + p0), (), rfl, rfl, trivial⟩, hS.F ht⟩) hS.2.2 d_Tr_objectsFor_47
  · have hkox := hko o0 rfl
    have hl : lv_has ls 5 [(0, .ref h0), (1, .int (nI s0)), (2, .int (nI p0)), (3, .int (nI o0))] := hl
    refine lv_iload_n hx hb d_Tr_objectsFor_0 rfl (lv_at hl 1 rfl) ?_
    refine rv_calli (r := rc_tm (nI s0)) (va_runSN (As := [.int (nI s0)]) (rest := []) ⟨hx, hb, hml, hown, hts⟩ (c_Rl_isTerm l (nI s0)) ⟨va_cnB 1 hts (rg_G k_Rl_isTerm) rfl rfl rfl (hN _ rn_3) (hts _ (List.mem_cons_of_mem _ m_1)) (by decide +kernel) ⟨Nat.le_of_ble_eq_true rfl, Nat.le_of_ble_eq_true rfl⟩, hts _ (List.mem_cons_of_mem _ m_132), trivial⟩ ⟨fun _ _ _ _ q => q, fun U hU hW => ⟨rfl, trivial⟩⟩ rfl rfl hl.1 rfl (lv_room (Nat.le_of_ble_eq_true rfl)) d_Tr_objectsFor_1 ⟨Nat.zero_le _, Nat.zero_le _⟩) hS (fun _ h => h.elim) (fun H locs hk hS => ?_)
    have hP := rv_kept hP hk
    refine rv_eq (y := nI 1) (rc_tm_nI (by omega)) ?_
    refine rv_if_eq (tgt := 14) hx hb d_Tr_objectsFor_4 (by decide) (by omega) (fun c_4 => absurd c_4 (by omega)) (fun c_4 => ?_)
    refine lv_iload_n hx hb d_Tr_objectsFor_7 rfl (lv_at hl 2 rfl) ?_
    refine rv_calli (r := rc_tm (nI p0)) (va_runSN (As := [.int (nI p0)]) (rest := []) ⟨hx, hb, hml, hown, hts⟩ (c_Rl_isTerm l (nI p0)) ⟨va_cnB 1 hts (rg_G k_Rl_isTerm) rfl rfl rfl (hN _ rn_3) (hts _ (List.mem_cons_of_mem _ m_1)) (by decide +kernel) ⟨Nat.le_of_ble_eq_true rfl, Nat.le_of_ble_eq_true rfl⟩, hts _ (List.mem_cons_of_mem _ m_132), trivial⟩ ⟨fun _ _ _ _ q => q, fun U hU hW => ⟨rfl, trivial⟩⟩ rfl rfl hl.1 rfl (lv_room (Nat.le_of_ble_eq_true rfl)) d_Tr_objectsFor_8 ⟨Nat.zero_le _, Nat.zero_le _⟩) hS (fun _ h => h.elim) (fun H locs hk hS => ?_)
    have hP := rv_kept hP hk
    refine rv_eq (y := nI 1) (rc_tm_nI (by omega)) ?_
    refine rv_if_ne (tgt := 16) hx hb d_Tr_objectsFor_11 (by decide) (by omega) (fun c_11 => ?_) (fun c_11 => absurd c_11 (by omega))
    refine lv_aload_n hx hb d_Tr_objectsFor_16 rfl (lv_at hl 0 rfl) ?_
    refine va_get (D := (dC, dI)) (ci := 1) (v := .ref q1) (C := R_Tr) (T := F_Tr) (N := 4) hx hb hts (rg_c i_Tr) hown hK hP 0 rfl rfl 0 (by decide) (hts _ (List.mem_cons_of_mem _ m_27)) (fun _ h9 => h9) rfl d_Tr_objectsFor_17 ?_
    refine lv_iload_n hx hb d_Tr_objectsFor_20 rfl (lv_at hl 1 rfl) ?_
    refine lv_bipush (v := nI 32) hx hb d_Tr_objectsFor_21 (by decide) ?_
    refine rv_imul hx hb d_Tr_objectsFor_23 ?_
    refine lv_iload_n hx hb d_Tr_objectsFor_24 rfl (lv_at hl 2 rfl) ?_
    refine rv_iadd hx hb d_Tr_objectsFor_25 ?_
    refine rv_ald (k := ((s0 * 32) + p0)) hx hb hK hP 1 0 rfl rfl (by omega) (by decide) d_Tr_objectsFor_26 ?_
    refine lv_istore (lv' := [(4, .int (f ((s0 * 32) + p0))), (0, .ref h0), (1, .int (nI s0)), (2, .int (nI p0)), (3, .int (nI o0))]) hx hb d_Tr_objectsFor_27 hl (by decide) rfl (fun ls hl => ?_)
    refine lv_iload_n hx hb d_Tr_objectsFor_29 rfl (lv_at hl 4 rfl) ?_
    refine rv_calli (r := rc_tm (nI o0)) (va_runSN (As := [.int (nI o0)]) (rest := []) ⟨hx, hb, hml, hown, hts⟩ (c_Rl_isTerm l (nI o0)) ⟨va_cnB 1 hts (rg_G k_Rl_isTerm) rfl rfl rfl (hN _ rn_3) (hts _ (List.mem_cons_of_mem _ m_1)) (by decide +kernel) ⟨Nat.le_of_ble_eq_true rfl, Nat.le_of_ble_eq_true rfl⟩, hts _ (List.mem_cons_of_mem _ m_132), trivial⟩ ⟨fun _ _ _ _ q => q, fun U hU hW => ⟨rfl, trivial⟩⟩ rfl rfl hl.1 rfl (lv_room (Nat.le_of_ble_eq_true rfl)) d_Tr_objectsFor_30 ⟨Nat.zero_le _, Nat.zero_le _⟩) hS (fun _ h => h.elim) (fun H locs hk hS => ?_)
    have hP := rv_kept hP hk
    refine rv_eq (y := nI 1) (rc_tm_nI (by omega)) ?_
    refine rv_if_eq (tgt := 45) hx hb d_Tr_objectsFor_33 (by decide) (by omega) (fun c_33 => absurd c_33 (by omega)) (fun c_33 => ?_)
    refine lv_iload hx hb d_Tr_objectsFor_36 (lv_at hl 0 rfl) ?_
    refine lv_iconst (v := nI 1) hx hb d_Tr_objectsFor_38 (by decide) ?_
    refine lv_iload_n hx hb d_Tr_objectsFor_39 rfl (lv_at hl 4 rfl) ?_
    refine lv_ishl hx hb d_Tr_objectsFor_40 ?_
    refine lv_iand hx hb d_Tr_objectsFor_41 ?_
    refine lv_goto (tgt := 47) hx hb d_Tr_objectsFor_42 (by decide) ?_
    exact W.iret (v := (f ((s0 * 32) + p0)) &&& ((nI 1) <<< ((nI o0) &&& 31))) hx hb hr (fun t ht hW => ⟨⟨(f ((s0 * 32) + p0)) &&& ((nI 1) <<< ((nI o0) &&& 31)), (), rfl, rfl, trivial⟩, hS.F ht⟩) hS.2.2 d_Tr_objectsFor_47
