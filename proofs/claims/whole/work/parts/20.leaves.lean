set_option maxHeartbeats 4000000 in
set_option maxRecDepth 100000 in
theorem c_Ig_bitCount (l : Launch) (x : Int32) : Met l y_Ig_bitCount (w_ y_Ig_bitCount b_Ig_bitCount 1 (some .int)) (rm_ 0) (va_Pc [.int x] (fun U => True)) (va_Qi (fun (z9 : Int32) (_ : Unit) => z9 = nI (rb_cnt x)) (fun _ _ => True) (fun _ => False)) 0 0 (fun _ => False) := by
  refine Met.ofW (cc := b_Ig_bitCount) (maxL := 1) (ret := (some .int)) (by decide) rfl ?_
  intro p e s m args below meth c s₁ B hml hv
  obtain ⟨rfl, -⟩ := hv
  have hx := B.exec
  have hb := B.bytes
  have hr := B.returns
  have hts := atoms_spec (ws := (w_ y_Ig_bitCount b_Ig_bitCount 1 (some .int))) B.pre
  have hown : s.vm.findClass R_Ig = some m.cls := findClass_of_methodNamed B.named
  have hlocks := B.notSynchronized
  have hS : va_S (fun _ => False) s.heap s.heap [] := va_S.rf
  have hl := lv_entry ([.int x]) (n := 1) (Nat.le_of_ble_eq_true rfl)
  rw [lg_entry_eq]
  generalize (lg_sl ([.int x]) ++ List.replicate (1 - (lg_sl ([.int x])).length) Slot.unset).toArray = ls at hl ⊢
  have hl : lv_has ls 1 [(0, .int x)] := hl
  refine lv_iload_n hx hb d_Ig_bitCount_0 rfl (lv_at hl 0 rfl) ?_
  refine lv_iload_n hx hb d_Ig_bitCount_1 rfl (lv_at hl 0 rfl) ?_
  refine lv_iconst (v := nI 1) hx hb d_Ig_bitCount_2 (by decide) ?_
  obtain ⟨u1, hu1⟩ : ∃ u : Int32, (x.toUInt32 >>> ((nI 1).toUInt32 &&& Int32.toUInt32 31)).toInt32 = u := ⟨_, rfl⟩
  refine lv_iushr (v := u1) hx hb d_Ig_bitCount_3 (hu1) ?_
  refine lv_ldcw (v := nI 1431655765) hx hb hown (hts _ (List.mem_cons_of_mem _ m_251)) d_Ig_bitCount_4 ?_
  refine lv_iand hx hb d_Ig_bitCount_7 ?_
  refine lv_isub hx hb d_Ig_bitCount_8 ?_
  refine lv_topi (fun i1 h1 => ?_)
  refine lv_istore_n (lv' := [(0, .int i1)]) hx hb d_Ig_bitCount_9 rfl hl (by decide) rfl (fun ls hl => ?_)
  refine lv_iload_n hx hb d_Ig_bitCount_10 rfl (lv_at hl 0 rfl) ?_
  refine lv_ldcw (v := nI 858993459) hx hb hown (hts _ (List.mem_cons_of_mem _ m_252)) d_Ig_bitCount_11 ?_
  refine lv_iand hx hb d_Ig_bitCount_14 ?_
  refine lv_iload_n hx hb d_Ig_bitCount_15 rfl (lv_at hl 0 rfl) ?_
  refine lv_iconst (v := nI 2) hx hb d_Ig_bitCount_16 (by decide) ?_
  obtain ⟨u2, hu2⟩ : ∃ u : Int32, (i1.toUInt32 >>> ((nI 2).toUInt32 &&& Int32.toUInt32 31)).toInt32 = u := ⟨_, rfl⟩
  refine lv_iushr (v := u2) hx hb d_Ig_bitCount_17 (hu2) ?_
  refine lv_ldcw (v := nI 858993459) hx hb hown (hts _ (List.mem_cons_of_mem _ m_252)) d_Ig_bitCount_18 ?_
  refine lv_iand hx hb d_Ig_bitCount_21 ?_
  refine lv_iadd hx hb d_Ig_bitCount_22 ?_
  refine lv_topi (fun i2 h2 => ?_)
  refine lv_istore_n (lv' := [(0, .int i2)]) hx hb d_Ig_bitCount_23 rfl hl (by decide) rfl (fun ls hl => ?_)
  refine lv_iload_n hx hb d_Ig_bitCount_24 rfl (lv_at hl 0 rfl) ?_
  refine lv_iload_n hx hb d_Ig_bitCount_25 rfl (lv_at hl 0 rfl) ?_
  refine lv_iconst (v := nI 4) hx hb d_Ig_bitCount_26 (by decide) ?_
  obtain ⟨u3, hu3⟩ : ∃ u : Int32, (i2.toUInt32 >>> ((nI 4).toUInt32 &&& Int32.toUInt32 31)).toInt32 = u := ⟨_, rfl⟩
  refine lv_iushr (v := u3) hx hb d_Ig_bitCount_27 (hu3) ?_
  refine lv_iadd hx hb d_Ig_bitCount_28 ?_
  refine lv_ldcw (v := nI 252645135) hx hb hown (hts _ (List.mem_cons_of_mem _ m_253)) d_Ig_bitCount_29 ?_
  refine lv_iand hx hb d_Ig_bitCount_32 ?_
  refine lv_topi (fun i3 h3 => ?_)
  refine lv_istore_n (lv' := [(0, .int i3)]) hx hb d_Ig_bitCount_33 rfl hl (by decide) rfl (fun ls hl => ?_)
  refine lv_iload_n hx hb d_Ig_bitCount_34 rfl (lv_at hl 0 rfl) ?_
  refine lv_iload_n hx hb d_Ig_bitCount_35 rfl (lv_at hl 0 rfl) ?_
  refine lv_bipush (v := nI 8) hx hb d_Ig_bitCount_36 (by decide) ?_
  obtain ⟨u4, hu4⟩ : ∃ u : Int32, (i3.toUInt32 >>> ((nI 8).toUInt32 &&& Int32.toUInt32 31)).toInt32 = u := ⟨_, rfl⟩
  refine lv_iushr (v := u4) hx hb d_Ig_bitCount_38 (hu4) ?_
  refine lv_iadd hx hb d_Ig_bitCount_39 ?_
  refine lv_topi (fun i4 h4 => ?_)
  refine lv_istore_n (lv' := [(0, .int i4)]) hx hb d_Ig_bitCount_40 rfl hl (by decide) rfl (fun ls hl => ?_)
  refine lv_iload_n hx hb d_Ig_bitCount_41 rfl (lv_at hl 0 rfl) ?_
  refine lv_iload_n hx hb d_Ig_bitCount_42 rfl (lv_at hl 0 rfl) ?_
  refine lv_bipush (v := nI 16) hx hb d_Ig_bitCount_43 (by decide) ?_
  obtain ⟨u5, hu5⟩ : ∃ u : Int32, (i4.toUInt32 >>> ((nI 16).toUInt32 &&& Int32.toUInt32 31)).toInt32 = u := ⟨_, rfl⟩
  refine lv_iushr (v := u5) hx hb d_Ig_bitCount_45 (hu5) ?_
  refine lv_iadd hx hb d_Ig_bitCount_46 ?_
  refine lv_topi (fun i5 h5 => ?_)
  refine lv_istore_n (lv' := [(0, .int i5)]) hx hb d_Ig_bitCount_47 rfl hl (by decide) rfl (fun ls hl => ?_)
  refine lv_iload_n hx hb d_Ig_bitCount_48 rfl (lv_at hl 0 rfl) ?_
  refine lv_bipush (v := nI 63) hx hb d_Ig_bitCount_49 (by decide) ?_
  refine lv_iand hx hb d_Ig_bitCount_51 ?_
  exact W.iret (v := i5 &&& (nI 63)) hx hb hr (fun t ht hW => ⟨⟨i5 &&& (nI 63), (), rfl, rb_bc hu1 h1 hu2 h2 hu3 h3 hu4 h4 hu5 h5, trivial⟩, hS.F ht⟩) hS.2.2 d_Ig_bitCount_52

set_option maxHeartbeats 4000000 in
set_option maxRecDepth 100000 in
theorem c_Rl_codeOf (l : Launch) (x y z : Nat) : Met l y_Rl_codeOf (w_ y_Rl_codeOf b_Rl_codeOf 3 (some .int)) (rm_ 0) (va_Pc [.int (nI x), .int (nI y), .int (nI z)] (fun U => True)) (va_Qi (fun (z9 : Int32) (_ : Unit) => z9 = nI (rx_code x y z)) (fun _ _ => True) (fun _ => False)) 0 0 (fun _ => False) := by
  refine Met.ofW (cc := b_Rl_codeOf) (maxL := 3) (ret := (some .int)) (by decide) rfl ?_
  intro p e s m args below meth c s₁ B hml hv
  obtain ⟨rfl, -⟩ := hv
  have hx := B.exec
  have hb := B.bytes
  have hr := B.returns
  have hts := atoms_spec (ws := (w_ y_Rl_codeOf b_Rl_codeOf 3 (some .int))) B.pre
  have hown : s.vm.findClass R_Rl = some m.cls := findClass_of_methodNamed B.named
  have hlocks := B.notSynchronized
  have hS : va_S (fun _ => False) s.heap s.heap [] := va_S.rf
  have hl := lv_entry ([.int (nI x), .int (nI y), .int (nI z)]) (n := 3) (Nat.le_of_ble_eq_true rfl)
  rw [lg_entry_eq]
  generalize (lg_sl ([.int (nI x), .int (nI y), .int (nI z)]) ++ List.replicate (3 - (lg_sl ([.int (nI x), .int (nI y), .int (nI z)])).length) Slot.unset).toArray = ls at hl ⊢
  have hl : lv_has ls 3 [(0, .int (nI x)), (1, .int (nI y)), (2, .int (nI z))] := hl
  refine lv_iload_n hx hb d_Rl_codeOf_0 rfl (lv_at hl 0 rfl) ?_
  refine lv_bipush (v := nI 32) hx hb d_Rl_codeOf_1 (by decide) ?_
  refine rv_imul hx hb d_Rl_codeOf_3 ?_
  refine lv_iload_n hx hb d_Rl_codeOf_4 rfl (lv_at hl 1 rfl) ?_
  refine rv_iadd hx hb d_Rl_codeOf_5 ?_
  refine lv_bipush (v := nI 32) hx hb d_Rl_codeOf_6 (by decide) ?_
  refine rv_imul hx hb d_Rl_codeOf_8 ?_
  refine lv_iload_n hx hb d_Rl_codeOf_9 rfl (lv_at hl 2 rfl) ?_
  refine rv_iadd hx hb d_Rl_codeOf_10 ?_
  exact W.iret (v := nI ((((x * 32) + y) * 32) + z)) hx hb hr (fun t ht hW => ⟨⟨nI ((((x * 32) + y) * 32) + z), (), rfl, rfl, trivial⟩, hS.F ht⟩) hS.2.2 d_Rl_codeOf_11

def rc_tm (t : Int32) : Int32 := if t < 0 then nI 0 else if t < nI 32 then nI 1 else nI 0

set_option maxHeartbeats 4000000 in
set_option maxRecDepth 100000 in
theorem c_Rl_isTerm (l : Launch) (x : Int32) : Met l y_Rl_isTerm (w_ y_Rl_isTerm b_Rl_isTerm 1 (some .boolean)) (rm_ 0) (va_Pc [.int x] (fun U => True)) (va_Qi (fun (z9 : Int32) (_ : Unit) => z9 = rc_tm x) (fun _ _ => True) (fun _ => False)) 0 0 (fun _ => False) := by
  refine Met.ofW (cc := b_Rl_isTerm) (maxL := 1) (ret := (some .boolean)) (by decide) rfl ?_
  intro p e s m args below meth c s₁ B hml hv
  obtain ⟨rfl, -⟩ := hv
  have hx := B.exec
  have hb := B.bytes
  have hr := B.returns
  have hts := atoms_spec (ws := (w_ y_Rl_isTerm b_Rl_isTerm 1 (some .boolean))) B.pre
  have hown : s.vm.findClass R_Rl = some m.cls := findClass_of_methodNamed B.named
  have hlocks := B.notSynchronized
  have hS : va_S (fun _ => False) s.heap s.heap [] := va_S.rf
  have hl := lv_entry ([.int x]) (n := 1) (Nat.le_of_ble_eq_true rfl)
  rw [lg_entry_eq]
  generalize (lg_sl ([.int x]) ++ List.replicate (1 - (lg_sl ([.int x])).length) Slot.unset).toArray = ls at hl ⊢
  have hl : lv_has ls 1 [(0, .int x)] := hl
  refine lv_iload_n hx hb d_Rl_isTerm_0 rfl (lv_at hl 0 rfl) ?_
  refine lv_if_lt (tgt := 14) hx hb d_Rl_isTerm_1 (by decide) (fun c_1 => ?_) (fun c_1 => ?_)
  · refine lv_iconst (v := nI 0) hx hb d_Rl_isTerm_14 (by decide) ?_
    exact W.zret (v := nI 0) hx hb hr (by rfl) (fun t ht hW => ⟨⟨nI 0, (), rfl, by unfold rc_tm; first | rw [if_pos (by assumption)] | rw [if_neg (by assumption), if_pos (by first | assumption | exact Int32.not_le.mp (by assumption))] | rw [if_neg (by assumption), if_neg (by first | assumption | exact Int32.not_lt.mpr (by assumption))], trivial⟩, hS.F ht⟩) hS.2.2 d_Rl_isTerm_15
  · refine lv_iload_n hx hb d_Rl_isTerm_4 rfl (lv_at hl 0 rfl) ?_
    refine lv_bipush (v := nI 32) hx hb d_Rl_isTerm_5 (by decide) ?_
    refine lv_icmp_ge (tgt := 14) hx hb d_Rl_isTerm_7 (by decide) (fun c_7 => ?_) (fun c_7 => ?_)
    · refine lv_iconst (v := nI 0) hx hb d_Rl_isTerm_14 (by decide) ?_
      exact W.zret (v := nI 0) hx hb hr (by rfl) (fun t ht hW => ⟨⟨nI 0, (), rfl, by unfold rc_tm; first | rw [if_pos (by assumption)] | rw [if_neg (by assumption), if_pos (by first | assumption | exact Int32.not_le.mp (by assumption))] | rw [if_neg (by assumption), if_neg (by first | assumption | exact Int32.not_lt.mpr (by assumption))], trivial⟩, hS.F ht⟩) hS.2.2 d_Rl_isTerm_15
    · refine lv_iconst (v := nI 1) hx hb d_Rl_isTerm_10 (by decide) ?_
      refine lv_goto (tgt := 15) hx hb d_Rl_isTerm_11 (by decide) ?_
      exact W.zret (v := nI 1) hx hb hr (by rfl) (fun t ht hW => ⟨⟨nI 1, (), rfl, by unfold rc_tm; first | rw [if_pos (by assumption)] | rw [if_neg (by assumption), if_pos (by first | assumption | exact Int32.not_le.mp (by assumption))] | rw [if_neg (by assumption), if_neg (by first | assumption | exact Int32.not_lt.mpr (by assumption))], trivial⟩, hS.F ht⟩) hS.2.2 d_Rl_isTerm_15

def rc_tm3 (x y z : Int32) : Int32 := if rc_tm x = 0 then nI 0 else if rc_tm y = 0 then nI 0 else if rc_tm z = 0 then nI 0 else nI 1

set_option maxHeartbeats 4000000 in
set_option maxRecDepth 100000 in
theorem c_Rl_areTerms (l : Launch) (x y z : Int32) : Met l y_Rl_areTerms (w_ y_Rl_areTerms b_Rl_areTerms 3 (some .boolean)) (rm_ 1) (va_Pc [.int x, .int y, .int z] (fun U => True)) (va_Qi (fun (z9 : Int32) (_ : Unit) => z9 = rc_tm3 x y z) (fun _ _ => True) (fun _ => False)) 0 0 (fun _ => False) := by
  refine Met.ofW (cc := b_Rl_areTerms) (maxL := 3) (ret := (some .boolean)) (by decide) rfl ?_
  intro p e s m args below meth c s₁ B hml hv
  obtain ⟨rfl, -⟩ := hv
  have hx := B.exec
  have hb := B.bytes
  have hr := B.returns
  have hts := atoms_spec (ws := (w_ y_Rl_areTerms b_Rl_areTerms 3 (some .boolean))) B.pre
  have hown : s.vm.findClass R_Rl = some m.cls := findClass_of_methodNamed B.named
  have hlocks := B.notSynchronized
  have hS : va_S (fun _ => False) s.heap s.heap [] := va_S.rf
  have hl := lv_entry ([.int x, .int y, .int z]) (n := 3) (Nat.le_of_ble_eq_true rfl)
  rw [lg_entry_eq]
  generalize (lg_sl ([.int x, .int y, .int z]) ++ List.replicate (3 - (lg_sl ([.int x, .int y, .int z])).length) Slot.unset).toArray = ls at hl ⊢
  have hl : lv_has ls 3 [(0, .int x), (1, .int y), (2, .int z)] := hl
  refine lv_iload_n hx hb d_Rl_areTerms_0 rfl (lv_at hl 0 rfl) ?_
  refine rv_calli (r := rc_tm x) (va_runS (As := [.int x]) (rest := []) ⟨hx, hb, hml, hown, hts⟩ (c_Rl_isTerm l x) (va_cwS 1 hts (rg_S (rg3 m_131 m_132 m_1) k_Rl_isTerm) rfl rfl rfl (by decide +kernel) ⟨Nat.le_of_ble_eq_true rfl, Nat.le_of_ble_eq_true rfl⟩) ⟨fun _ _ _ _ q => q, fun U hU hW => ⟨rfl, trivial⟩⟩ rfl rfl hl.1 rfl (lv_room (Nat.le_of_ble_eq_true rfl)) d_Rl_areTerms_1 ⟨Nat.zero_le _, Nat.zero_le _⟩) hS (fun _ h => h.elim) (fun H locs hk hS => ?_)
  refine lv_if_eq (tgt := 25) hx hb d_Rl_areTerms_4 (by decide) (fun c_4 => ?_) (fun c_4 => ?_)
  · refine lv_iconst (v := nI 0) hx hb d_Rl_areTerms_25 (by decide) ?_
    exact W.zret (v := nI 0) hx hb hr (by rfl) (fun t ht hW => ⟨⟨nI 0, (), rfl, by unfold rc_tm3; first | rw [if_pos (by assumption)] | rw [if_neg (by assumption), if_pos (by assumption)] | rw [if_neg (by assumption), if_neg (by assumption), if_pos (by assumption)] | rw [if_neg (by assumption), if_neg (by assumption), if_neg (by assumption)], trivial⟩, hS.F ht⟩) hS.2.2 d_Rl_areTerms_26
  · refine lv_iload_n hx hb d_Rl_areTerms_7 rfl (lv_at hl 1 rfl) ?_
    refine rv_calli (r := rc_tm y) (va_runS (As := [.int y]) (rest := []) ⟨hx, hb, hml, hown, hts⟩ (c_Rl_isTerm l y) (va_cwS 1 hts (rg_S (rg3 m_131 m_132 m_1) k_Rl_isTerm) rfl rfl rfl (by decide +kernel) ⟨Nat.le_of_ble_eq_true rfl, Nat.le_of_ble_eq_true rfl⟩) ⟨fun _ _ _ _ q => q, fun U hU hW => ⟨rfl, trivial⟩⟩ rfl rfl hl.1 rfl (lv_room (Nat.le_of_ble_eq_true rfl)) d_Rl_areTerms_8 ⟨Nat.zero_le _, Nat.zero_le _⟩) hS (fun _ h => h.elim) (fun H locs hk hS => ?_)
    refine lv_if_eq (tgt := 25) hx hb d_Rl_areTerms_11 (by decide) (fun c_11 => ?_) (fun c_11 => ?_)
    · refine lv_iconst (v := nI 0) hx hb d_Rl_areTerms_25 (by decide) ?_
      exact W.zret (v := nI 0) hx hb hr (by rfl) (fun t ht hW => ⟨⟨nI 0, (), rfl, by unfold rc_tm3; first | rw [if_pos (by assumption)] | rw [if_neg (by assumption), if_pos (by assumption)] | rw [if_neg (by assumption), if_neg (by assumption), if_pos (by assumption)] | rw [if_neg (by assumption), if_neg (by assumption), if_neg (by assumption)], trivial⟩, hS.F ht⟩) hS.2.2 d_Rl_areTerms_26
    · refine lv_iload_n hx hb d_Rl_areTerms_14 rfl (lv_at hl 2 rfl) ?_
      refine rv_calli (r := rc_tm z) (va_runS (As := [.int z]) (rest := []) ⟨hx, hb, hml, hown, hts⟩ (c_Rl_isTerm l z) (va_cwS 1 hts (rg_S (rg3 m_131 m_132 m_1) k_Rl_isTerm) rfl rfl rfl (by decide +kernel) ⟨Nat.le_of_ble_eq_true rfl, Nat.le_of_ble_eq_true rfl⟩) ⟨fun _ _ _ _ q => q, fun U hU hW => ⟨rfl, trivial⟩⟩ rfl rfl hl.1 rfl (lv_room (Nat.le_of_ble_eq_true rfl)) d_Rl_areTerms_15 ⟨Nat.zero_le _, Nat.zero_le _⟩) hS (fun _ h => h.elim) (fun H locs hk hS => ?_)
      refine lv_if_eq (tgt := 25) hx hb d_Rl_areTerms_18 (by decide) (fun c_18 => ?_) (fun c_18 => ?_)
      · refine lv_iconst (v := nI 0) hx hb d_Rl_areTerms_25 (by decide) ?_
        exact W.zret (v := nI 0) hx hb hr (by rfl) (fun t ht hW => ⟨⟨nI 0, (), rfl, by unfold rc_tm3; first | rw [if_pos (by assumption)] | rw [if_neg (by assumption), if_pos (by assumption)] | rw [if_neg (by assumption), if_neg (by assumption), if_pos (by assumption)] | rw [if_neg (by assumption), if_neg (by assumption), if_neg (by assumption)], trivial⟩, hS.F ht⟩) hS.2.2 d_Rl_areTerms_26
      · refine lv_iconst (v := nI 1) hx hb d_Rl_areTerms_21 (by decide) ?_
        refine lv_goto (tgt := 26) hx hb d_Rl_areTerms_22 (by decide) ?_
        exact W.zret (v := nI 1) hx hb hr (by rfl) (fun t ht hW => ⟨⟨nI 1, (), rfl, by unfold rc_tm3; first | rw [if_pos (by assumption)] | rw [if_neg (by assumption), if_pos (by assumption)] | rw [if_neg (by assumption), if_neg (by assumption), if_pos (by assumption)] | rw [if_neg (by assumption), if_neg (by assumption), if_neg (by assumption)], trivial⟩, hS.F ht⟩) hS.2.2 d_Rl_areTerms_26

set_option maxHeartbeats 4000000 in
set_option maxRecDepth 100000 in
theorem c_Rl_withoutLeast (l : Launch) (x : Int32) : Met l y_Rl_withoutLeast (w_ y_Rl_withoutLeast b_Rl_withoutLeast 1 (some .int)) (rm_ 0) (va_Pc [.int x] (fun U => True)) (va_Qi (fun (z9 : Int32) (_ : Unit) => z9 = x &&& (x - 1)) (fun _ _ => True) (fun _ => False)) 0 0 (fun _ => False) := by
  refine Met.ofW (cc := b_Rl_withoutLeast) (maxL := 1) (ret := (some .int)) (by decide) rfl ?_
  intro p e s m args below meth c s₁ B hml hv
  obtain ⟨rfl, -⟩ := hv
  have hx := B.exec
  have hb := B.bytes
  have hr := B.returns
  have hts := atoms_spec (ws := (w_ y_Rl_withoutLeast b_Rl_withoutLeast 1 (some .int))) B.pre
  have hown : s.vm.findClass R_Rl = some m.cls := findClass_of_methodNamed B.named
  have hlocks := B.notSynchronized
  have hS : va_S (fun _ => False) s.heap s.heap [] := va_S.rf
  have hl := lv_entry ([.int x]) (n := 1) (Nat.le_of_ble_eq_true rfl)
  rw [lg_entry_eq]
  generalize (lg_sl ([.int x]) ++ List.replicate (1 - (lg_sl ([.int x])).length) Slot.unset).toArray = ls at hl ⊢
  have hl : lv_has ls 1 [(0, .int x)] := hl
  refine lv_iload_n hx hb d_Rl_withoutLeast_0 rfl (lv_at hl 0 rfl) ?_
  refine lv_iload_n hx hb d_Rl_withoutLeast_1 rfl (lv_at hl 0 rfl) ?_
  refine lv_iconst (v := nI 1) hx hb d_Rl_withoutLeast_2 (by decide) ?_
  refine lv_isub hx hb d_Rl_withoutLeast_3 ?_
  refine lv_iand hx hb d_Rl_withoutLeast_4 ?_
  exact W.iret (v := x &&& (x - (nI 1))) hx hb hr (fun t ht hW => ⟨⟨x &&& (x - (nI 1)), (), rfl, rfl, trivial⟩, hS.F ht⟩) hS.2.2 d_Rl_withoutLeast_5

set_option maxHeartbeats 4000000 in
set_option maxRecDepth 100000 in
theorem c_Rl_leastOf (l : Launch) (x : Int32) : Met l y_Rl_leastOf (w_ y_Rl_leastOf b_Rl_leastOf 1 (some .int)) (rm_ 1) (va_Pc [.int x] (fun U => True)) (va_Qi (fun (z9 : Int32) (_ : Unit) => z9 = nI (rb_least x)) (fun _ _ => True) (fun _ => False)) 0 0 (fun _ => False) := by
  refine Met.ofW (cc := b_Rl_leastOf) (maxL := 1) (ret := (some .int)) (by decide) rfl ?_
  intro p e s m args below meth c s₁ B hml hv
  obtain ⟨rfl, -⟩ := hv
  have hx := B.exec
  have hb := B.bytes
  have hr := B.returns
  have hts := atoms_spec (ws := (w_ y_Rl_leastOf b_Rl_leastOf 1 (some .int))) B.pre
  have hown : s.vm.findClass R_Rl = some m.cls := findClass_of_methodNamed B.named
  have hlocks := B.notSynchronized
  have hS : va_S (fun _ => False) s.heap s.heap [] := va_S.rf
  have hl := lv_entry ([.int x]) (n := 1) (Nat.le_of_ble_eq_true rfl)
  rw [lg_entry_eq]
  generalize (lg_sl ([.int x]) ++ List.replicate (1 - (lg_sl ([.int x])).length) Slot.unset).toArray = ls at hl ⊢
  have hl : lv_has ls 1 [(0, .int x)] := hl
  refine lv_iload_n hx hb d_Rl_leastOf_0 rfl (lv_at hl 0 rfl) ?_
  refine lv_iload_n hx hb d_Rl_leastOf_1 rfl (lv_at hl 0 rfl) ?_
  refine lv_ineg hx hb d_Rl_leastOf_2 ?_
  refine lv_iand hx hb d_Rl_leastOf_3 ?_
  refine lv_iconst (v := nI 1) hx hb d_Rl_leastOf_4 (by decide) ?_
  refine lv_isub hx hb d_Rl_leastOf_5 ?_
  refine rv_calli (r := nI (rb_cnt ((x &&& (-x)) - (nI 1)))) (va_runS (As := [.int ((x &&& (-x)) - (nI 1))]) (rest := []) ⟨hx, hb, hml, hown, hts⟩ (c_Ig_bitCount l ((x &&& (-x)) - (nI 1))) (va_cwS 1 hts (rg_S (rg3 m_257 m_249 m_10) k_Ig_bitCount) rfl rfl rfl (by decide +kernel) ⟨Nat.le_of_ble_eq_true rfl, Nat.le_of_ble_eq_true rfl⟩) ⟨fun _ _ _ _ q => q, fun U hU hW => ⟨rfl, trivial⟩⟩ rfl rfl hl.1 rfl (lv_room (Nat.le_of_ble_eq_true rfl)) d_Rl_leastOf_6 ⟨Nat.zero_le _, Nat.zero_le _⟩) hS (fun _ h => h.elim) (fun H locs hk hS => ?_)
  exact W.iret (v := nI (rb_cnt ((x &&& (-x)) - (nI 1)))) hx hb hr (fun t ht hW => ⟨⟨nI (rb_cnt ((x &&& (-x)) - (nI 1))), (), rfl, congrArg nI (rb_leastE x), trivial⟩, hS.F ht⟩) hS.2.2 d_Rl_leastOf_9

set_option maxHeartbeats 4000000 in
set_option maxRecDepth 100000 in
theorem c_Rl_contains (l : Launch) (x : Int32) (i : Nat) (hi : i < 32) : Met l y_Rl_contains (w_ y_Rl_contains b_Rl_contains 2 (some .boolean)) (rm_ 0) (va_Pc [.int x, .int (nI i)] (fun U => True)) (va_Qi (fun (z9 : Int32) (_ : Unit) => z9 = (if rb_b x i then nI 1 else nI 0)) (fun _ _ => True) (fun _ => False)) 0 0 (fun _ => False) := by
  refine Met.ofW (cc := b_Rl_contains) (maxL := 2) (ret := (some .boolean)) (by decide) rfl ?_
  intro p e s m args below meth c s₁ B hml hv
  obtain ⟨rfl, -⟩ := hv
  have hx := B.exec
  have hb := B.bytes
  have hr := B.returns
  have hts := atoms_spec (ws := (w_ y_Rl_contains b_Rl_contains 2 (some .boolean))) B.pre
  have hown : s.vm.findClass R_Rl = some m.cls := findClass_of_methodNamed B.named
  have hlocks := B.notSynchronized
  have hS : va_S (fun _ => False) s.heap s.heap [] := va_S.rf
  have hl := lv_entry ([.int x, .int (nI i)]) (n := 2) (Nat.le_of_ble_eq_true rfl)
  rw [lg_entry_eq]
  generalize (lg_sl ([.int x, .int (nI i)]) ++ List.replicate (2 - (lg_sl ([.int x, .int (nI i)])).length) Slot.unset).toArray = ls at hl ⊢
  have hl : lv_has ls 2 [(0, .int x), (1, .int (nI i))] := hl
  refine lv_iload_n hx hb d_Rl_contains_0 rfl (lv_at hl 0 rfl) ?_
  refine lv_iload_n hx hb d_Rl_contains_1 rfl (lv_at hl 1 rfl) ?_
  refine lv_iushr hx hb d_Rl_contains_2 rfl ?_
  refine lv_iconst (v := nI 1) hx hb d_Rl_contains_3 (by decide) ?_
  refine lv_iand hx hb d_Rl_contains_4 ?_
  refine lv_if_eq (tgt := 12) hx hb d_Rl_contains_5 (by decide) (fun c_5 => ?_) (fun c_5 => ?_)
  · refine lv_iconst (v := nI 0) hx hb d_Rl_contains_12 (by decide) ?_
    exact W.zret (v := nI 0) hx hb hr (by rfl) (fun t ht hW => ⟨⟨nI 0, (), rfl, by rw [if_neg (by rw [(rb_sh x hi).mp (by assumption)]; simp)], trivial⟩, hS.F ht⟩) hS.2.2 d_Rl_contains_13
  · refine lv_iconst (v := nI 1) hx hb d_Rl_contains_8 (by decide) ?_
    refine lv_goto (tgt := 13) hx hb d_Rl_contains_9 (by decide) ?_
    exact W.zret (v := nI 1) hx hb hr (by rfl) (fun t ht hW => ⟨⟨nI 1, (), rfl, by rw [if_pos (by rcases hq : rb_b x i with _ | _; exact absurd ((rb_sh x hi).mpr hq) (by assumption); rfl)], trivial⟩, hS.F ht⟩) hS.2.2 d_Rl_contains_13

set_option maxHeartbeats 4000000 in
set_option maxRecDepth 100000 in
theorem c_Tb_premiseCount (l : Launch) (tP tG tC r : Nat) (hr0 : r < 24) : Met l y_Tb_premiseCount (w_ y_Tb_premiseCount b_Tb_premiseCount 1 (some .int)) (rm_ 0) (va_Pc [.int (nI r)] (fun U => rz_ tP tG tC (fun _ => False) U)) (va_Qi (fun (z9 : Int32) (_ : Unit) => z9 = nI (rq_cnts.getD r 0)) (fun _ _ => True) (fun _ => False)) 0 0 (fun _ => False) := by
  refine Met.ofW (cc := b_Tb_premiseCount) (maxL := 1) (ret := (some .int)) (by decide) rfl ?_
  intro p e s m args below meth c s₁ B hml hv
  obtain ⟨rfl, hZ⟩ := hv
  have hx := B.exec
  have hb := B.bytes
  have hr := B.returns
  have hts := atoms_spec (ws := (w_ y_Tb_premiseCount b_Tb_premiseCount 1 (some .int))) B.pre
  have hown : s.vm.findClass R_Tb = some m.cls := findClass_of_methodNamed B.named
  have hlocks := B.notSynchronized
  have hS : va_S (fun _ => False) s.heap s.heap [] := va_S.rf
  have hl := lv_entry ([.int (nI r)]) (n := 1) (Nat.le_of_ble_eq_true rfl)
  rw [lg_entry_eq]
  generalize (lg_sl ([.int (nI r)]) ++ List.replicate (1 - (lg_sl ([.int (nI r)])).length) Slot.unset).toArray = ls at hl ⊢
  have hl : lv_has ls 1 [(0, .int (nI r))] := hl
  refine lv_iload_n hx hb d_Tb_premiseCount_0 rfl (lv_at hl 0 rfl) ?_
  refine rv_if_lt (tgt := 20) hx hb d_Tb_premiseCount_1 (by decide) (by omega) ?_
  refine lv_iload_n hx hb d_Tb_premiseCount_4 rfl (lv_at hl 0 rfl) ?_
  refine va_gets hx hb hZ.2.2.1 hS hown (hts _ (List.mem_cons_of_mem _ m_206)) (fun _ h9 => h9) d_Tb_premiseCount_5 ?_
  refine va_tlen (v := nI 24) hx hb hZ.2.2.2 hS rfl d_Tb_premiseCount_8 ?_
  refine rv_icmp_ge (tgt := 20) hx hb d_Tb_premiseCount_9 (by decide) (by omega) (by omega) (fun c_9 => absurd c_9 (by omega)) (fun c_9 => ?_)
  refine va_gets hx hb hZ.2.2.1 hS hown (hts _ (List.mem_cons_of_mem _ m_206)) (fun _ h9 => h9) d_Tb_premiseCount_12 ?_
  refine lv_iload_n hx hb d_Tb_premiseCount_15 rfl (lv_at hl 0 rfl) ?_
  refine rv_ti (k := r) hx hb hZ.2.2.2 hS (by omega) (by decide) (v := .int (nI (rq_cnts.getD r 0))) rfl d_Tb_premiseCount_16 ?_
  refine lv_goto (tgt := 21) hx hb d_Tb_premiseCount_17 (by decide) ?_
  exact W.iret (v := nI (rq_cnts.getD r 0)) hx hb hr (fun t ht hW => ⟨⟨nI (rq_cnts.getD r 0), (), rfl, rfl, trivial⟩, hS.F ht⟩) hS.2.2 d_Tb_premiseCount_21

set_option maxHeartbeats 4000000 in
set_option maxRecDepth 100000 in
theorem c_Tb_premiseAt (l : Launch) (r k : Nat) : Met l y_Tb_premiseAt (w_ y_Tb_premiseAt b_Tb_premiseAt 2 (some .int)) (rm_ 0) (va_Pc [.int (nI r), .int (nI k)] (fun U => True)) (va_Qi (fun (z9 : Int32) (_ : Unit) => z9 = nI (12 * r + 3 * k)) (fun _ _ => True) (fun _ => False)) 0 0 (fun _ => False) := by
  refine Met.ofW (cc := b_Tb_premiseAt) (maxL := 2) (ret := (some .int)) (by decide) rfl ?_
  intro p e s m args below meth c s₁ B hml hv
  obtain ⟨rfl, -⟩ := hv
  have hx := B.exec
  have hb := B.bytes
  have hr := B.returns
  have hts := atoms_spec (ws := (w_ y_Tb_premiseAt b_Tb_premiseAt 2 (some .int))) B.pre
  have hown : s.vm.findClass R_Tb = some m.cls := findClass_of_methodNamed B.named
  have hlocks := B.notSynchronized
  have hS : va_S (fun _ => False) s.heap s.heap [] := va_S.rf
  have hl := lv_entry ([.int (nI r), .int (nI k)]) (n := 2) (Nat.le_of_ble_eq_true rfl)
  rw [lg_entry_eq]
  generalize (lg_sl ([.int (nI r), .int (nI k)]) ++ List.replicate (2 - (lg_sl ([.int (nI r), .int (nI k)])).length) Slot.unset).toArray = ls at hl ⊢
  have hl : lv_has ls 2 [(0, .int (nI r)), (1, .int (nI k))] := hl
  refine lv_bipush (v := nI 12) hx hb d_Tb_premiseAt_0 (by decide) ?_
  refine lv_iload_n hx hb d_Tb_premiseAt_2 rfl (lv_at hl 0 rfl) ?_
  refine rv_imul hx hb d_Tb_premiseAt_3 ?_
  refine lv_iconst (v := nI 3) hx hb d_Tb_premiseAt_4 (by decide) ?_
  refine lv_iload_n hx hb d_Tb_premiseAt_5 rfl (lv_at hl 1 rfl) ?_
  refine rv_imul hx hb d_Tb_premiseAt_6 ?_
  refine rv_iadd hx hb d_Tb_premiseAt_7 ?_
  exact W.iret (v := nI ((12 * r) + (3 * k))) hx hb hr (fun t ht hW => ⟨⟨nI ((12 * r) + (3 * k)), (), rfl, rfl, trivial⟩, hS.F ht⟩) hS.2.2 d_Tb_premiseAt_8

set_option maxHeartbeats 4000000 in
set_option maxRecDepth 100000 in
theorem c_Tb_givenAt (l : Launch) (r : Nat) : Met l y_Tb_givenAt (w_ y_Tb_givenAt b_Tb_givenAt 1 (some .int)) (rm_ 0) (va_Pc [.int (nI r)] (fun U => True)) (va_Qi (fun (z9 : Int32) (_ : Unit) => z9 = nI (3 * r)) (fun _ _ => True) (fun _ => False)) 0 0 (fun _ => False) := by
  refine Met.ofW (cc := b_Tb_givenAt) (maxL := 1) (ret := (some .int)) (by decide) rfl ?_
  intro p e s m args below meth c s₁ B hml hv
  obtain ⟨rfl, -⟩ := hv
  have hx := B.exec
  have hb := B.bytes
  have hr := B.returns
  have hts := atoms_spec (ws := (w_ y_Tb_givenAt b_Tb_givenAt 1 (some .int))) B.pre
  have hown : s.vm.findClass R_Tb = some m.cls := findClass_of_methodNamed B.named
  have hlocks := B.notSynchronized
  have hS : va_S (fun _ => False) s.heap s.heap [] := va_S.rf
  have hl := lv_entry ([.int (nI r)]) (n := 1) (Nat.le_of_ble_eq_true rfl)
  rw [lg_entry_eq]
  generalize (lg_sl ([.int (nI r)]) ++ List.replicate (1 - (lg_sl ([.int (nI r)])).length) Slot.unset).toArray = ls at hl ⊢
  have hl : lv_has ls 1 [(0, .int (nI r))] := hl
  refine lv_iconst (v := nI 3) hx hb d_Tb_givenAt_0 (by decide) ?_
  refine lv_iload_n hx hb d_Tb_givenAt_1 rfl (lv_at hl 0 rfl) ?_
  refine rv_imul hx hb d_Tb_givenAt_2 ?_
  exact W.iret (v := nI (3 * r)) hx hb hr (fun t ht hW => ⟨⟨nI (3 * r), (), rfl, rfl, trivial⟩, hS.F ht⟩) hS.2.2 d_Tb_givenAt_3

set_option maxHeartbeats 4000000 in
set_option maxRecDepth 100000 in
theorem c_Le_termOf (l : Launch) (k : Nat) (ds : List Nat) (hk : k < 42) (hd : rt_ok ds) : Met l y_Le_termOf (w_ y_Le_termOf b_Le_termOf 3 (some .int)) (rm_ 0) (va_Pc [.int (nI k), .long (lN (rt_pk ds))] (fun U => True)) (va_Qi (fun (z9 : Int32) (_ : Unit) => z9 = rt_i (rt_term k ds)) (fun _ _ => True) (fun _ => False)) 0 0 (fun _ => False) := by
  refine Met.ofW (cc := b_Le_termOf) (maxL := 3) (ret := (some .int)) (by decide) rfl ?_
  intro p e s m args below meth c s₁ B hml hv
  obtain ⟨rfl, -⟩ := hv
  have hx := B.exec
  have hb := B.bytes
  have hr := B.returns
  have hts := atoms_spec (ws := (w_ y_Le_termOf b_Le_termOf 3 (some .int))) B.pre
  have hown : s.vm.findClass R_Le = some m.cls := findClass_of_methodNamed B.named
  have hlocks := B.notSynchronized
  have hS : va_S (fun _ => False) s.heap s.heap [] := va_S.rf
  have hl := lv_entry ([.int (nI k), .long (lN (rt_pk ds))]) (n := 3) (Nat.le_of_ble_eq_true rfl)
  rw [lg_entry_eq]
  generalize (lg_sl ([.int (nI k), .long (lN (rt_pk ds))]) ++ List.replicate (3 - (lg_sl ([.int (nI k), .long (lN (rt_pk ds))])).length) Slot.unset).toArray = ls at hl ⊢
  have hl : lv_has ls 3 [(0, .int (nI k)), (1, .long (lN (rt_pk ds)))] := hl
  refine lv_iload_n hx hb d_Le_termOf_0 rfl (lv_at hl 0 rfl) ?_
  refine lv_bipush (v := nI 32) hx hb d_Le_termOf_1 (by decide) ?_
  refine rv_icmp_ge (tgt := 8) hx hb d_Le_termOf_3 (by decide) (by omega) (by omega) (fun c_3 => ?_) (fun c_3 => ?_)
  · refine lv_lload_n hx hb d_Le_termOf_8 rfl (lv_at hl 1 rfl) ?_
    refine lv_bipush (v := nI 6) hx hb d_Le_termOf_9 (by decide) ?_
    refine lv_iload_n hx hb d_Le_termOf_11 rfl (lv_at hl 0 rfl) ?_
    refine lv_bipush (v := nI 32) hx hb d_Le_termOf_12 (by decide) ?_
    refine rv_isub hx hb d_Le_termOf_14 (by omega) ?_
    refine rv_imul hx hb d_Le_termOf_15 ?_
    refine lv_lushr (v := lN (rt_pk ds / 64 ^ (k - 32))) hx hb d_Le_termOf_16 (rt_shr hd (by omega)) ?_
    refine lv_ldc2 (v := lN 63) hx hb hown (hts _ (List.mem_cons_of_mem _ m_218)) d_Le_termOf_17 ?_
    refine lv_land hx hb d_Le_termOf_20 ?_
    refine rv_eql (y := lN (rt_pk ds / 64 ^ (k - 32) % 64)) (rt_mask2 hd _) ?_
    refine lv_l2i (v := nI (rt_pk ds / 64 ^ (k - 32) % 64)) hx hb d_Le_termOf_21 (lN_i _) ?_
    refine lv_iconst (v := nI 1) hx hb d_Le_termOf_22 (by decide) ?_
    refine lv_isub hx hb d_Le_termOf_23 ?_
    exact W.iret (v := (nI (rt_pk ds / 64 ^ (k - 32) % 64)) - (nI 1)) hx hb hr (fun t ht hW => ⟨⟨(nI (rt_pk ds / 64 ^ (k - 32) % 64)) - (nI 1), (), rfl, rt_termE hd (by omega), trivial⟩, hS.F ht⟩) hS.2.2 d_Le_termOf_24
  · refine lv_iload_n hx hb d_Le_termOf_6 rfl (lv_at hl 0 rfl) ?_
    exact W.iret (v := nI k) hx hb hr (fun t ht hW => ⟨⟨nI k, (), rfl, by unfold rt_term; rw [if_pos (by omega)]; rfl, trivial⟩, hS.F ht⟩) hS.2.2 d_Le_termOf_7

set_option maxHeartbeats 4000000 in
set_option maxRecDepth 100000 in
theorem c_Le_bind (l : Launch) (k t0 : Nat) (ds : List Nat) (hk : k < 42) (ht : t0 < 32) (hd : rt_ok ds) : Met l y_Le_bind (w_ y_Le_bind b_Le_bind 5 (some .long)) (rm_ 1) (va_Pc [.int (nI k), .int (nI t0), .long (lN (rt_pk ds))] (fun U => True)) (va_Ql (fun (z9 : Int64) (_ : Unit) => z9 = rt_l (rt_bind k t0 ds)) (fun _ _ => True) (fun _ => False)) 0 0 (fun _ => False) := by
  refine Met.ofW (cc := b_Le_bind) (maxL := 5) (ret := (some .long)) (by decide) rfl ?_
  intro p e s m args below meth c s₁ B hml hv
  obtain ⟨rfl, -⟩ := hv
  have hx := B.exec
  have hb := B.bytes
  have hr := B.returns
  have hts := atoms_spec (ws := (w_ y_Le_bind b_Le_bind 5 (some .long))) B.pre
  have hown : s.vm.findClass R_Le = some m.cls := findClass_of_methodNamed B.named
  have hlocks := B.notSynchronized
  have hS : va_S (fun _ => False) s.heap s.heap [] := va_S.rf
  have hl := lv_entry ([.int (nI k), .int (nI t0), .long (lN (rt_pk ds))]) (n := 5) (Nat.le_of_ble_eq_true rfl)
  rw [lg_entry_eq]
  generalize (lg_sl ([.int (nI k), .int (nI t0), .long (lN (rt_pk ds))]) ++ List.replicate (5 - (lg_sl ([.int (nI k), .int (nI t0), .long (lN (rt_pk ds))])).length) Slot.unset).toArray = ls at hl ⊢
  have hl : lv_has ls 5 [(0, .int (nI k)), (1, .int (nI t0)), (2, .long (lN (rt_pk ds)))] := hl
  refine lv_iload_n hx hb d_Le_bind_0 rfl (lv_at hl 0 rfl) ?_
  refine lv_lload_n hx hb d_Le_bind_1 rfl (lv_at hl 2 rfl) ?_
  refine rv_calli (r := rt_i (rt_term k ds)) (va_runS (As := [.int (nI k), .long (lN (rt_pk ds))]) (rest := []) ⟨hx, hb, hml, hown, hts⟩ (c_Le_termOf l k ds (hk) (hd)) (va_cwS 2 hts (rg_S (rg3 m_215 m_216 m_9) k_Le_termOf) rfl rfl rfl (by decide +kernel) ⟨Nat.le_of_ble_eq_true rfl, Nat.le_of_ble_eq_true rfl⟩) ⟨fun _ _ _ _ q => q, fun U hU hW => ⟨rfl, trivial⟩⟩ rfl rfl hl.1 rfl (lv_room (Nat.le_of_ble_eq_true rfl)) d_Le_bind_2 ⟨Nat.zero_le _, Nat.zero_le _⟩) hS (fun _ h => h.elim) (fun H locs hk hS => ?_)
  rcases hq : rt_term k ds with _ | u
  · have hn := rt_none hq
    refine rv_eq (y := (-1)) (rfl) ?_
    refine lv_istore (lv' := [(4, .int (-1)), (0, .int (nI k)), (1, .int (nI t0)), (2, .long (lN (rt_pk ds)))]) hx hb d_Le_bind_5 hl (by decide) rfl (fun ls hl => ?_)
    refine lv_iload hx hb d_Le_bind_7 (lv_at hl 0 rfl) ?_
    refine lv_iconst (v := (-1)) hx hb d_Le_bind_9 (by decide) ?_
    refine lv_icmp_ne (tgt := 28) hx hb d_Le_bind_10 (by decide) (fun c_10 => absurd c_10 (fun h => h rfl)) (fun c_10 => ?_)
    refine lv_lload_n hx hb d_Le_bind_13 rfl (lv_at hl 3 rfl) ?_
    refine lv_iload_n hx hb d_Le_bind_14 rfl (lv_at hl 2 rfl) ?_
    refine lv_iconst (v := nI 1) hx hb d_Le_bind_15 (by decide) ?_
    refine rv_iadd hx hb d_Le_bind_16 ?_
    refine lv_i2l (v := lN (t0 + 1)) hx hb d_Le_bind_17 (nI_l (by omega)) ?_
    refine lv_bipush (v := nI 6) hx hb d_Le_bind_18 (by decide) ?_
    refine lv_iload_n hx hb d_Le_bind_20 rfl (lv_at hl 1 rfl) ?_
    refine lv_bipush (v := nI 32) hx hb d_Le_bind_21 (by decide) ?_
    refine rv_isub hx hb d_Le_bind_23 (by omega) ?_
    refine rv_imul hx hb d_Le_bind_24 ?_
    refine lv_lshl (v := lN ((t0 + 1) * 64 ^ (k - 32))) hx hb d_Le_bind_25 (rt_shl (by omega)) ?_
    refine lv_lor hx hb d_Le_bind_26 ?_
    refine rv_eql (y := lN (rt_pk (ds.set (k - 32) (t0 + 1)))) (rt_lor hd (by omega) ht hn.2) ?_
    exact W.lret (v := lN (rt_pk (ds.set (k - 32) (t0 + 1)))) hx hb hr (fun t ht hW => ⟨⟨lN (rt_pk (ds.set (k - 32) (t0 + 1))), (), rfl, by unfold rt_bind; rw [hq]; rfl, trivial⟩, hS.F ht⟩) hS.2.2 d_Le_bind_27
  · have hu := rt_term_lt hd hq
    refine rv_eq (y := nI u) (rfl) ?_
    refine lv_istore (lv' := [(4, .int (nI u)), (0, .int (nI k)), (1, .int (nI t0)), (2, .long (lN (rt_pk ds)))]) hx hb d_Le_bind_5 hl (by decide) rfl (fun ls hl => ?_)
    refine lv_iload hx hb d_Le_bind_7 (lv_at hl 0 rfl) ?_
    refine lv_iconst (v := (-1)) hx hb d_Le_bind_9 (by decide) ?_
    refine lv_icmp_ne (tgt := 28) hx hb d_Le_bind_10 (by decide) (fun c_10 => ?_) (fun c_10 => absurd c_10 (rt_nm1 (by omega)))
    refine lv_iload hx hb d_Le_bind_28 (lv_at hl 0 rfl) ?_
    refine lv_iload_n hx hb d_Le_bind_30 rfl (lv_at hl 2 rfl) ?_
    refine rv_icmp_ne (tgt := 38) hx hb d_Le_bind_31 (by decide) (by omega) (by omega) (fun c_31 => ?_) (fun c_31 => ?_)
    · refine lv_ldc2 (v := (-1)) hx hb hown (hts _ (List.mem_cons_of_mem _ m_211)) d_Le_bind_38 ?_
      exact W.lret (v := (-1)) hx hb hr (fun t ht hW => ⟨⟨(-1), (), rfl, by unfold rt_bind; rw [hq]; simp only; rw [if_neg (by assumption)]; rfl, trivial⟩, hS.F ht⟩) hS.2.2 d_Le_bind_41
    · refine lv_lload_n hx hb d_Le_bind_34 rfl (lv_at hl 3 rfl) ?_
      refine lv_goto (tgt := 41) hx hb d_Le_bind_35 (by decide) ?_
      exact W.lret (v := lN (rt_pk ds)) hx hb hr (fun t ht hW => ⟨⟨lN (rt_pk ds), (), rfl, by unfold rt_bind; rw [hq]; simp only; rw [if_pos (by assumption)]; rfl, trivial⟩, hS.F ht⟩) hS.2.2 d_Le_bind_41

set_option maxHeartbeats 4000000 in
set_option maxRecDepth 100000 in
theorem c_Le_fit (l : Launch) (t0 N at0 c0 : Nat) (L ds : List Nat) (hN : N < 2 ^ 31) (hat : at0 + 2 < N) (hk1 : L.getD at0 0 < 42) (hk2 : L.getD (at0 + 1) 0 < 42) (hk3 : L.getD (at0 + 2) 0 < 42) (hc : c0 < 32768) (hd : rt_ok ds) : Met l y_Le_fit (w_ y_Le_fit b_Le_fit 7 (some .long)) (rm_ 2) (va_Pc [.ref t0, .int (nI at0), .int (nI c0), .long (lN (rt_pk ds))] (fun U => va_T .int t0 N (rq_f L) (fun _ => False) U U.heap)) (va_Ql (fun (z9 : Int64) (_ : Unit) => z9 = rt_l (rt_fit (L.getD at0 0) (L.getD (at0 + 1) 0) (L.getD (at0 + 2) 0) c0 ds)) (fun _ _ => True) (fun _ => False)) 0 0 (fun _ => False) := by
  refine Met.ofW (cc := b_Le_fit) (maxL := 7) (ret := (some .long)) (by decide) rfl ?_
  intro p e s m args below meth c s₁ B hml hv
  obtain ⟨rfl, hT⟩ := hv
  have hx := B.exec
  have hb := B.bytes
  have hr := B.returns
  have hts := atoms_spec (ws := (w_ y_Le_fit b_Le_fit 7 (some .long))) B.pre
  have hown : s.vm.findClass R_Le = some m.cls := findClass_of_methodNamed B.named
  have hlocks := B.notSynchronized
  have hS : va_S (fun _ => False) s.heap s.heap [] := va_S.rf
  have hl := lv_entry ([.ref t0, .int (nI at0), .int (nI c0), .long (lN (rt_pk ds))]) (n := 7) (Nat.le_of_ble_eq_true rfl)
  rw [lg_entry_eq]
  generalize (lg_sl ([.ref t0, .int (nI at0), .int (nI c0), .long (lN (rt_pk ds))]) ++ List.replicate (7 - (lg_sl ([.ref t0, .int (nI at0), .int (nI c0), .long (lN (rt_pk ds))])).length) Slot.unset).toArray = ls at hl ⊢
  have hl : lv_has ls 7 [(0, .ref t0), (1, .int (nI at0)), (2, .int (nI c0)), (3, .long (lN (rt_pk ds)))] := hl
  refine lv_iload_n hx hb d_Le_fit_0 rfl (lv_at hl 1 rfl) ?_
  refine rv_if_lt (tgt := 12) hx hb d_Le_fit_1 (by decide) (by omega) ?_
  refine lv_iload_n hx hb d_Le_fit_4 rfl (lv_at hl 1 rfl) ?_
  refine lv_iconst (v := nI 2) hx hb d_Le_fit_5 (by decide) ?_
  refine rv_iadd hx hb d_Le_fit_6 ?_
  refine lv_aload_n hx hb d_Le_fit_7 rfl (lv_at hl 0 rfl) ?_
  refine va_tlen (v := nI N) hx hb hT hS rfl d_Le_fit_8 ?_
  refine rv_icmp_lt (tgt := 16) hx hb d_Le_fit_9 (by decide) (by omega) (by omega) (fun c_9 => ?_) (fun c_9 => absurd c_9 (by omega))
  refine lv_aload_n hx hb d_Le_fit_16 rfl (lv_at hl 0 rfl) ?_
  refine lv_iload_n hx hb d_Le_fit_17 rfl (lv_at hl 1 rfl) ?_
  refine lv_iconst (v := nI 1) hx hb d_Le_fit_18 (by decide) ?_
  refine rv_iadd hx hb d_Le_fit_19 ?_
  refine rv_ti (k := (at0 + 1)) hx hb hT hS (by omega) (hN) (v := .int (nI (L.getD (at0 + 1) 0))) rfl d_Le_fit_20 ?_
  refine lv_iload_n hx hb d_Le_fit_21 rfl (lv_at hl 2 rfl) ?_
  refine lv_bipush (v := nI 32) hx hb d_Le_fit_22 (by decide) ?_
  refine rv_idiv hx hb d_Le_fit_24 (by omega) (by omega) (by omega) ?_
  refine lv_bipush (v := nI 32) hx hb d_Le_fit_25 (by decide) ?_
  refine rv_irem hx hb d_Le_fit_27 (by omega) (by omega) (by omega) ?_
  refine lv_lload_n hx hb d_Le_fit_28 rfl (lv_at hl 3 rfl) ?_
  refine rv_calll (r := rt_l (rt_bind (L.getD (at0 + 1) 0) ((c0 / 32) % 32) ds)) (va_runS (As := [.int (nI (L.getD (at0 + 1) 0)), .int (nI ((c0 / 32) % 32)), .long (lN (rt_pk ds))]) (rest := []) ⟨hx, hb, hml, hown, hts⟩ (c_Le_bind l (L.getD (at0 + 1) 0) ((c0 / 32) % 32) ds hk2 (by omega) hd) (va_cwS 3 hts (rg_S (rg3 m_212 m_213 m_9) k_Le_bind) rfl rfl rfl (by decide +kernel) ⟨Nat.le_of_ble_eq_true rfl, Nat.le_of_ble_eq_true rfl⟩) ⟨fun _ _ _ _ q => q, fun U hU hW => ⟨rfl, trivial⟩⟩ rfl rfl hl.1 rfl (lv_room (Nat.le_of_ble_eq_true rfl)) d_Le_fit_29 ⟨Nat.zero_le _, Nat.zero_le _⟩) hS (fun _ h => h.elim) (fun H locs hk hS => ?_)
  rcases hq0 : rt_bind (L.getD (at0 + 1) 0) (c0 / 32 % 32) ds with _ | d1
  · refine rv_eql (y := (-1)) (rfl) ?_
    refine lv_lstore (lv' := [(5, .long (-1)), (0, .ref t0), (1, .int (nI at0)), (2, .int (nI c0)), (3, .long (lN (rt_pk ds)))]) hx hb d_Le_fit_32 hl (by decide) rfl (fun ls hl => ?_)
    refine lv_lload hx hb d_Le_fit_34 (lv_at hl 0 rfl) ?_
    refine lv_ldc2 (v := (-1)) hx hb hown (hts _ (List.mem_cons_of_mem _ m_211)) d_Le_fit_36 ?_
    refine W.lcmp hx hb d_Le_fit_39 ?_
    refine rv_eq (y := nI 0) (rt_cmp0 _) ?_
    refine rv_if_eq (tgt := 60) hx hb d_Le_fit_40 (by decide) (by omega) (fun c_40 => ?_) (fun c_40 => absurd c_40 (by omega))
    refine lv_lload hx hb d_Le_fit_60 (lv_at hl 0 rfl) ?_
    refine lv_ldc2 (v := (-1)) hx hb hown (hts _ (List.mem_cons_of_mem _ m_211)) d_Le_fit_62 ?_
    refine W.lcmp hx hb d_Le_fit_65 ?_
    refine rv_eq (y := nI 0) (rt_cmp0 _) ?_
    refine rv_if_eq (tgt := 85) hx hb d_Le_fit_66 (by decide) (by omega) (fun c_66 => ?_) (fun c_66 => absurd c_66 (by omega))
    refine lv_lload hx hb d_Le_fit_85 (lv_at hl 0 rfl) ?_
    exact W.lret (v := (-1)) hx hb hr (fun t ht hW => ⟨⟨(-1), (), rfl, by unfold rt_fit; rw [hq0]; rfl, trivial⟩, hS.F ht⟩) hS.2.2 d_Le_fit_87
  · have hd1 := rt_bind_ok hd (by omega) hq0
    refine rv_eql (y := lN (rt_pk d1)) (rfl) ?_
    refine lv_lstore (lv' := [(5, .long (lN (rt_pk d1))), (0, .ref t0), (1, .int (nI at0)), (2, .int (nI c0)), (3, .long (lN (rt_pk ds)))]) hx hb d_Le_fit_32 hl (by decide) rfl (fun ls hl => ?_)
    refine lv_lload hx hb d_Le_fit_34 (lv_at hl 0 rfl) ?_
    refine lv_ldc2 (v := (-1)) hx hb hown (hts _ (List.mem_cons_of_mem _ m_211)) d_Le_fit_36 ?_
    refine W.lcmp hx hb d_Le_fit_39 ?_
    refine lv_if_eq (tgt := 60) hx hb d_Le_fit_40 (by decide) (fun c_40 => absurd c_40 (rt_cmp_ne hd1)) (fun c_40 => ?_)
    refine lv_aload_n hx hb d_Le_fit_43 rfl (lv_at hl 1 rfl) ?_
    refine lv_iload_n hx hb d_Le_fit_44 rfl (lv_at hl 2 rfl) ?_
    refine rv_ti (k := at0) hx hb hT hS (by omega) (hN) (v := .int (nI (L.getD at0 0))) rfl d_Le_fit_45 ?_
    refine lv_iload_n hx hb d_Le_fit_46 rfl (lv_at hl 3 rfl) ?_
    refine lv_bipush (v := nI 32) hx hb d_Le_fit_47 (by decide) ?_
    refine rv_idiv hx hb d_Le_fit_49 (by omega) (by omega) (by omega) ?_
    refine lv_bipush (v := nI 32) hx hb d_Le_fit_50 (by decide) ?_
    refine rv_idiv hx hb d_Le_fit_52 (by omega) (by omega) (by omega) ?_
    refine lv_lload hx hb d_Le_fit_53 (lv_at hl 0 rfl) ?_
    refine rv_calll (r := rt_l (rt_bind (L.getD at0 0) ((c0 / 32) / 32) d1)) (va_runS (As := [.int (nI (L.getD at0 0)), .int (nI ((c0 / 32) / 32)), .long (lN (rt_pk d1))]) (rest := []) ⟨hx, hb, hml, hown, hts⟩ (c_Le_bind l (L.getD at0 0) ((c0 / 32) / 32) d1 hk1 (by omega) hd1) (va_cwS 3 hts (rg_S (rg3 m_212 m_213 m_9) k_Le_bind) rfl rfl rfl (by decide +kernel) ⟨Nat.le_of_ble_eq_true rfl, Nat.le_of_ble_eq_true rfl⟩) ⟨fun _ _ _ _ q => q, fun U hU hW => ⟨rfl, trivial⟩⟩ rfl rfl hl.1 rfl (lv_room (Nat.le_of_ble_eq_true rfl)) d_Le_fit_55 ⟨Nat.zero_le _, Nat.zero_le _⟩) hS (fun _ h => h.elim) (fun H locs hk hS => ?_)
    rcases hq1 : rt_bind (L.getD at0 0) (c0 / 32 / 32) d1 with _ | d2
    · refine rv_eql (y := (-1)) (rfl) ?_
      refine lv_lstore (lv' := [(5, .long (-1)), (0, .ref t0), (1, .int (nI at0)), (2, .int (nI c0)), (3, .long (lN (rt_pk ds)))]) hx hb d_Le_fit_58 hl (by decide) rfl (fun ls hl => ?_)
      refine lv_lload hx hb d_Le_fit_60 (lv_at hl 0 rfl) ?_
      refine lv_ldc2 (v := (-1)) hx hb hown (hts _ (List.mem_cons_of_mem _ m_211)) d_Le_fit_62 ?_
      refine W.lcmp hx hb d_Le_fit_65 ?_
      refine rv_eq (y := nI 0) (rt_cmp0 _) ?_
      refine rv_if_eq (tgt := 85) hx hb d_Le_fit_66 (by decide) (by omega) (fun c_66 => ?_) (fun c_66 => absurd c_66 (by omega))
      refine lv_lload hx hb d_Le_fit_85 (lv_at hl 0 rfl) ?_
      exact W.lret (v := (-1)) hx hb hr (fun t ht hW => ⟨⟨(-1), (), rfl, by unfold rt_fit; rw [hq0]; simp only [Option.bind_some]; rw [hq1]; rfl, trivial⟩, hS.F ht⟩) hS.2.2 d_Le_fit_87
    · have hd2 := rt_bind_ok hd1 (by omega) hq1
      refine rv_eql (y := lN (rt_pk d2)) (rfl) ?_
      refine lv_lstore (lv' := [(5, .long (lN (rt_pk d2))), (0, .ref t0), (1, .int (nI at0)), (2, .int (nI c0)), (3, .long (lN (rt_pk ds)))]) hx hb d_Le_fit_58 hl (by decide) rfl (fun ls hl => ?_)
      refine lv_lload hx hb d_Le_fit_60 (lv_at hl 0 rfl) ?_
      refine lv_ldc2 (v := (-1)) hx hb hown (hts _ (List.mem_cons_of_mem _ m_211)) d_Le_fit_62 ?_
      refine W.lcmp hx hb d_Le_fit_65 ?_
      refine lv_if_eq (tgt := 85) hx hb d_Le_fit_66 (by decide) (fun c_66 => absurd c_66 (rt_cmp_ne hd2)) (fun c_66 => ?_)
      refine lv_aload_n hx hb d_Le_fit_69 rfl (lv_at hl 1 rfl) ?_
      refine lv_iload_n hx hb d_Le_fit_70 rfl (lv_at hl 2 rfl) ?_
      refine lv_iconst (v := nI 2) hx hb d_Le_fit_71 (by decide) ?_
      refine rv_iadd hx hb d_Le_fit_72 ?_
      refine rv_ti (k := (at0 + 2)) hx hb hT hS (by omega) (hN) (v := .int (nI (L.getD (at0 + 2) 0))) rfl d_Le_fit_73 ?_
      refine lv_iload_n hx hb d_Le_fit_74 rfl (lv_at hl 3 rfl) ?_
      refine lv_bipush (v := nI 32) hx hb d_Le_fit_75 (by decide) ?_
      refine rv_irem hx hb d_Le_fit_77 (by omega) (by omega) (by omega) ?_
      refine lv_lload hx hb d_Le_fit_78 (lv_at hl 0 rfl) ?_
      refine rv_calll (r := rt_l (rt_bind (L.getD (at0 + 2) 0) (c0 % 32) d2)) (va_runS (As := [.int (nI (L.getD (at0 + 2) 0)), .int (nI (c0 % 32)), .long (lN (rt_pk d2))]) (rest := []) ⟨hx, hb, hml, hown, hts⟩ (c_Le_bind l (L.getD (at0 + 2) 0) (c0 % 32) d2 hk3 (by omega) hd2) (va_cwS 3 hts (rg_S (rg3 m_212 m_213 m_9) k_Le_bind) rfl rfl rfl (by decide +kernel) ⟨Nat.le_of_ble_eq_true rfl, Nat.le_of_ble_eq_true rfl⟩) ⟨fun _ _ _ _ q => q, fun U hU hW => ⟨rfl, trivial⟩⟩ rfl rfl hl.1 rfl (lv_room (Nat.le_of_ble_eq_true rfl)) d_Le_fit_80 ⟨Nat.zero_le _, Nat.zero_le _⟩) hS (fun _ h => h.elim) (fun H locs hk hS => ?_)
      rcases hq2 : rt_bind (L.getD (at0 + 2) 0) (c0 % 32) d2 with _ | d3
      · refine rv_eql (y := (-1)) (rfl) ?_
        refine lv_lstore (lv' := [(5, .long (-1)), (0, .ref t0), (1, .int (nI at0)), (2, .int (nI c0)), (3, .long (lN (rt_pk ds)))]) hx hb d_Le_fit_83 hl (by decide) rfl (fun ls hl => ?_)
        refine lv_lload hx hb d_Le_fit_85 (lv_at hl 0 rfl) ?_
        exact W.lret (v := (-1)) hx hb hr (fun t ht hW => ⟨⟨(-1), (), rfl, by unfold rt_fit; rw [hq0]; simp only [Option.bind_some]; rw [hq1]; simp only [Option.bind_some]; rw [hq2]; rfl, trivial⟩, hS.F ht⟩) hS.2.2 d_Le_fit_87
      · have hd3 := rt_bind_ok hd2 (by omega) hq2
        refine rv_eql (y := lN (rt_pk d3)) (rfl) ?_
        refine lv_lstore (lv' := [(5, .long (lN (rt_pk d3))), (0, .ref t0), (1, .int (nI at0)), (2, .int (nI c0)), (3, .long (lN (rt_pk ds)))]) hx hb d_Le_fit_83 hl (by decide) rfl (fun ls hl => ?_)
        refine lv_lload hx hb d_Le_fit_85 (lv_at hl 0 rfl) ?_
        exact W.lret (v := lN (rt_pk d3)) hx hb hr (fun t ht hW => ⟨⟨lN (rt_pk d3), (), rfl, by unfold rt_fit; rw [hq0]; simp only [Option.bind_some]; rw [hq1]; simp only [Option.bind_some]; rw [hq2]; rfl, trivial⟩, hS.F ht⟩) hS.2.2 d_Le_fit_87

set_option maxHeartbeats 4000000 in
set_option maxRecDepth 100000 in
theorem c_Tb_givenCode (l : Launch) (tP tG tC r x y z : Nat) (ds : List Nat) (hr0 : r < 21) (hd : rt_ok ds) (h1 : rt_term (rq_given.getD (3 * r) 0) ds = some x) (h2 : rt_term (rq_given.getD (3 * r + 1) 0) ds = some y) (h3 : rt_term (rq_given.getD (3 * r + 2) 0) ds = some z) : Met l y_Tb_givenCode (w_ y_Tb_givenCode b_Tb_givenCode 4 (some .int)) (rm_ 1) (va_Pc [.int (nI r), .long (lN (rt_pk ds))] (fun U => rz_ tP tG tC (fun _ => False) U ∧ rn_ U)) (va_Qi (fun (z9 : Int32) (_ : Unit) => z9 = nI (rx_code x y z)) (fun _ _ => True) (fun _ => False)) 0 0 (fun _ => False) := by
  refine Met.ofW (cc := b_Tb_givenCode) (maxL := 4) (ret := (some .int)) (by decide) rfl ?_
  intro p e s m args below meth c s₁ B hml hv
  obtain ⟨rfl, hZ, hN⟩ := hv
  have hx := B.exec
  have hb := B.bytes
  have hr := B.returns
  have hts := atoms_spec (ws := (w_ y_Tb_givenCode b_Tb_givenCode 4 (some .int))) B.pre
  have hown : s.vm.findClass R_Tb = some m.cls := findClass_of_methodNamed B.named
  have hlocks := B.notSynchronized
  have hS : va_S (fun _ => False) s.heap s.heap [] := va_S.rf
  have hl := lv_entry ([.int (nI r), .long (lN (rt_pk ds))]) (n := 4) (Nat.le_of_ble_eq_true rfl)
  rw [lg_entry_eq]
  generalize (lg_sl ([.int (nI r), .long (lN (rt_pk ds))]) ++ List.replicate (4 - (lg_sl ([.int (nI r), .long (lN (rt_pk ds))])).length) Slot.unset).toArray = ls at hl ⊢
  have hl : lv_has ls 4 [(0, .int (nI r)), (1, .long (lN (rt_pk ds)))] := hl
  refine lv_iload_n hx hb d_Tb_givenCode_0 rfl (lv_at hl 0 rfl) ?_
  refine rv_calli (r := nI (3 * r)) (va_runS (As := [.int (nI r)]) (rest := []) ⟨hx, hb, hml, hown, hts⟩ (c_Tb_givenAt l r) (va_cwS 1 hts (rg_S (rg3 m_233 m_234 m_8) k_Tb_givenAt) rfl rfl rfl (by decide +kernel) ⟨Nat.le_of_ble_eq_true rfl, Nat.le_of_ble_eq_true rfl⟩) ⟨fun _ _ _ _ q => q, fun U hU hW => ⟨rfl, trivial⟩⟩ rfl rfl hl.1 rfl (lv_room (Nat.le_of_ble_eq_true rfl)) d_Tb_givenCode_1 ⟨Nat.zero_le _, Nat.zero_le _⟩) hS (fun _ h => h.elim) (fun H locs hk hS => ?_)
  refine lv_istore_n (lv' := [(3, .int (nI (3 * r))), (0, .int (nI r)), (1, .long (lN (rt_pk ds)))]) hx hb d_Tb_givenCode_4 rfl hl (by decide) rfl (fun ls hl => ?_)
  refine va_gets hx hb hZ.2.1.1 hS hown (hts _ (List.mem_cons_of_mem _ m_236)) (fun _ h9 => h9) d_Tb_givenCode_5 ?_
  refine lv_iload_n hx hb d_Tb_givenCode_8 rfl (lv_at hl 0 rfl) ?_
  refine rv_ti (k := (3 * r)) hx hb hZ.2.1.2 hS (by omega) (by decide) (v := .int (nI (rq_given.getD (3 * r) 0))) rfl d_Tb_givenCode_9 ?_
  refine lv_lload_n hx hb d_Tb_givenCode_10 rfl (lv_at hl 2 rfl) ?_
  refine rv_calli (r := rt_i (rt_term (rq_given.getD (3 * r) 0) ds)) (va_runS (As := [.int (nI (rq_given.getD (3 * r) 0)), .long (lN (rt_pk ds))]) (rest := []) ⟨hx, hb, hml, hown, hts⟩ (c_Le_termOf l (rq_given.getD (3 * r) 0) ds (rq_given_lt _) (hd)) (va_cwS 2 hts (rg_S (rg3 m_238 m_216 m_9) k_Le_termOf) rfl rfl rfl (by decide +kernel) ⟨Nat.le_of_ble_eq_true rfl, Nat.le_of_ble_eq_true rfl⟩) ⟨fun _ _ _ _ q => q, fun U hU hW => ⟨rfl, trivial⟩⟩ rfl rfl hl.1 rfl (lv_room (Nat.le_of_ble_eq_true rfl)) d_Tb_givenCode_11 ⟨Nat.zero_le _, Nat.zero_le _⟩) hS (fun _ h => h.elim) (fun H locs hk hS => ?_)
  refine rv_eq (y := nI x) (by rw [h1]; rfl) ?_
  refine va_gets hx hb hZ.2.1.1 hS hown (hts _ (List.mem_cons_of_mem _ m_236)) (fun _ h9 => h9) d_Tb_givenCode_14 ?_
  refine lv_iload_n hx hb d_Tb_givenCode_17 rfl (lv_at hl 0 rfl) ?_
  refine lv_iconst (v := nI 1) hx hb d_Tb_givenCode_18 (by decide) ?_
  refine rv_iadd hx hb d_Tb_givenCode_19 ?_
  refine rv_ti (k := ((3 * r) + 1)) hx hb hZ.2.1.2 hS (by omega) (by decide) (v := .int (nI (rq_given.getD ((3 * r) + 1) 0))) rfl d_Tb_givenCode_20 ?_
  refine lv_lload_n hx hb d_Tb_givenCode_21 rfl (lv_at hl 2 rfl) ?_
  refine rv_calli (r := rt_i (rt_term (rq_given.getD ((3 * r) + 1) 0) ds)) (va_runS (As := [.int (nI (rq_given.getD ((3 * r) + 1) 0)), .long (lN (rt_pk ds))]) (rest := [.int (nI x)]) ⟨hx, hb, hml, hown, hts⟩ (c_Le_termOf l (rq_given.getD ((3 * r) + 1) 0) ds (rq_given_lt _) (hd)) (va_cwS 2 hts (rg_S (rg3 m_238 m_216 m_9) k_Le_termOf) rfl rfl rfl (by decide +kernel) ⟨Nat.le_of_ble_eq_true rfl, Nat.le_of_ble_eq_true rfl⟩) ⟨fun _ _ _ _ q => q, fun U hU hW => ⟨rfl, trivial⟩⟩ rfl rfl hl.1 rfl (lv_room (Nat.le_of_ble_eq_true rfl)) d_Tb_givenCode_22 ⟨Nat.zero_le _, Nat.zero_le _⟩) hS (fun _ h => h.elim) (fun H locs hk hS => ?_)
  refine rv_eq (y := nI y) (by rw [h2]; rfl) ?_
  refine va_gets hx hb hZ.2.1.1 hS hown (hts _ (List.mem_cons_of_mem _ m_236)) (fun _ h9 => h9) d_Tb_givenCode_25 ?_
  refine lv_iload_n hx hb d_Tb_givenCode_28 rfl (lv_at hl 0 rfl) ?_
  refine lv_iconst (v := nI 2) hx hb d_Tb_givenCode_29 (by decide) ?_
  refine rv_iadd hx hb d_Tb_givenCode_30 ?_
  refine rv_ti (k := ((3 * r) + 2)) hx hb hZ.2.1.2 hS (by omega) (by decide) (v := .int (nI (rq_given.getD ((3 * r) + 2) 0))) rfl d_Tb_givenCode_31 ?_
  refine lv_lload_n hx hb d_Tb_givenCode_32 rfl (lv_at hl 2 rfl) ?_
  refine rv_calli (r := rt_i (rt_term (rq_given.getD ((3 * r) + 2) 0) ds)) (va_runS (As := [.int (nI (rq_given.getD ((3 * r) + 2) 0)), .long (lN (rt_pk ds))]) (rest := [.int (nI y), .int (nI x)]) ⟨hx, hb, hml, hown, hts⟩ (c_Le_termOf l (rq_given.getD ((3 * r) + 2) 0) ds (rq_given_lt _) (hd)) (va_cwS 2 hts (rg_S (rg3 m_238 m_216 m_9) k_Le_termOf) rfl rfl rfl (by decide +kernel) ⟨Nat.le_of_ble_eq_true rfl, Nat.le_of_ble_eq_true rfl⟩) ⟨fun _ _ _ _ q => q, fun U hU hW => ⟨rfl, trivial⟩⟩ rfl rfl hl.1 rfl (lv_room (Nat.le_of_ble_eq_true rfl)) d_Tb_givenCode_33 ⟨Nat.zero_le _, Nat.zero_le _⟩) hS (fun _ h => h.elim) (fun H locs hk hS => ?_)
  refine rv_eq (y := nI z) (by rw [h3]; rfl) ?_
  refine rv_calli (r := nI (rx_code x y z)) (va_runSN (As := [.int (nI x), .int (nI y), .int (nI z)]) (rest := []) ⟨hx, hb, hml, hown, hts⟩ (c_Rl_codeOf l x y z) ⟨va_cnB 3 hts (rg_G k_Rl_codeOf) rfl rfl rfl (hN _ rn_7) (hts _ (List.mem_cons_of_mem _ m_1)) (by decide +kernel) ⟨Nat.le_of_ble_eq_true rfl, Nat.le_of_ble_eq_true rfl⟩, hts _ (List.mem_cons_of_mem _ m_135), trivial⟩ ⟨fun _ _ _ _ q => q, fun U hU hW => ⟨rfl, trivial⟩⟩ rfl rfl hl.1 rfl (lv_room (Nat.le_of_ble_eq_true rfl)) d_Tb_givenCode_36 ⟨Nat.zero_le _, Nat.zero_le _⟩) hS (fun _ h => h.elim) (fun H locs hk hS => ?_)
  exact W.iret (v := nI (rx_code x y z)) hx hb hr (fun t ht hW => ⟨⟨nI (rx_code x y z), (), rfl, rfl, trivial⟩, hS.F ht⟩) hS.2.2 d_Tb_givenCode_39
