set_option maxHeartbeats 4000000 in
set_option maxRecDepth 100000 in
theorem c_Mo_isTerm (l : Launch) (x : Int32) : Met l y_Mo_isTerm (w_ y_Mo_isTerm b_Mo_isTerm 1 (some .boolean)) (rm_ 0) (va_Pc [.int x] (fun U => True)) (va_Qi (fun (z9 : Int32) (_ : Unit) => z9 = rc_tm x) (fun _ _ => True) (fun _ => False)) 0 0 (fun _ => False) := by
  refine Met.ofW (cc := b_Mo_isTerm) (maxL := 1) (ret := (some .boolean)) (by decide) rfl ?_
  intro p e s m args below meth c s₁ B hml hv
  obtain ⟨rfl, -⟩ := hv
  have hx := B.exec
  have hb := B.bytes
  have hr := B.returns
  have hts := atoms_spec (ws := (w_ y_Mo_isTerm b_Mo_isTerm 1 (some .boolean))) B.pre
  have hown : s.vm.findClass R_Mo = some m.cls := findClass_of_methodNamed B.named
  have hlocks := B.notSynchronized
  have hS : va_S (fun _ => False) s.heap s.heap [] := va_S.rf
  have hl := lv_entry ([.int x]) (n := 1) (Nat.le_of_ble_eq_true rfl)
  rw [lg_entry_eq]
  generalize (lg_sl ([.int x]) ++ List.replicate (1 - (lg_sl ([.int x])).length) Slot.unset).toArray = ls at hl ⊢
  have hl : lv_has ls 1 [(0, .int x)] := hl
  refine lv_iload_n hx hb d_Mo_isTerm_0 rfl (lv_at hl 0 rfl) ?_
  refine lv_if_lt (tgt := 14) hx hb d_Mo_isTerm_1 (by decide) (fun c_1 => ?_) (fun c_1 => ?_)
  · refine lv_iconst (v := nI 0) hx hb d_Mo_isTerm_14 (by decide) ?_
    exact W.zret (v := nI 0) hx hb hr (by rfl) (fun t ht hW => ⟨⟨nI 0, (), rfl, by unfold rc_tm; first | rw [if_pos (by assumption)] | rw [if_neg (by assumption), if_pos (by first | assumption | exact Int32.not_le.mp (by assumption))] | rw [if_neg (by assumption), if_neg (by first | assumption | exact Int32.not_lt.mpr (by assumption))], trivial⟩, hS.F ht⟩) hS.2.2 d_Mo_isTerm_15
  · refine lv_iload_n hx hb d_Mo_isTerm_4 rfl (lv_at hl 0 rfl) ?_
    refine lv_bipush (v := nI 32) hx hb d_Mo_isTerm_5 (by decide) ?_
    refine lv_icmp_ge (tgt := 14) hx hb d_Mo_isTerm_7 (by decide) (fun c_7 => ?_) (fun c_7 => ?_)
    · refine lv_iconst (v := nI 0) hx hb d_Mo_isTerm_14 (by decide) ?_
      exact W.zret (v := nI 0) hx hb hr (by rfl) (fun t ht hW => ⟨⟨nI 0, (), rfl, by unfold rc_tm; first | rw [if_pos (by assumption)] | rw [if_neg (by assumption), if_pos (by first | assumption | exact Int32.not_le.mp (by assumption))] | rw [if_neg (by assumption), if_neg (by first | assumption | exact Int32.not_lt.mpr (by assumption))], trivial⟩, hS.F ht⟩) hS.2.2 d_Mo_isTerm_15
    · refine lv_iconst (v := nI 1) hx hb d_Mo_isTerm_10 (by decide) ?_
      refine lv_goto (tgt := 15) hx hb d_Mo_isTerm_11 (by decide) ?_
      exact W.zret (v := nI 1) hx hb hr (by rfl) (fun t ht hW => ⟨⟨nI 1, (), rfl, by unfold rc_tm; first | rw [if_pos (by assumption)] | rw [if_neg (by assumption), if_pos (by first | assumption | exact Int32.not_le.mp (by assumption))] | rw [if_neg (by assumption), if_neg (by first | assumption | exact Int32.not_lt.mpr (by assumption))], trivial⟩, hS.F ht⟩) hS.2.2 d_Mo_isTerm_15

set_option maxHeartbeats 4000000 in
set_option maxRecDepth 100000 in
theorem c_Mo_isTriple (l : Launch) (x y z : Int32) : Met l y_Mo_isTriple (w_ y_Mo_isTriple b_Mo_isTriple 3 (some .boolean)) (rm_ 1) (va_Pc [.int x, .int y, .int z] (fun U => True)) (va_Qi (fun (z9 : Int32) (_ : Unit) => z9 = rc_tm3 x y z) (fun _ _ => True) (fun _ => False)) 0 0 (fun _ => False) := by
  refine Met.ofW (cc := b_Mo_isTriple) (maxL := 3) (ret := (some .boolean)) (by decide) rfl ?_
  intro p e s m args below meth c s₁ B hml hv
  obtain ⟨rfl, -⟩ := hv
  have hx := B.exec
  have hb := B.bytes
  have hr := B.returns
  have hts := atoms_spec (ws := (w_ y_Mo_isTriple b_Mo_isTriple 3 (some .boolean))) B.pre
  have hown : s.vm.findClass R_Mo = some m.cls := findClass_of_methodNamed B.named
  have hlocks := B.notSynchronized
  have hS : va_S (fun _ => False) s.heap s.heap [] := va_S.rf
  have hl := lv_entry ([.int x, .int y, .int z]) (n := 3) (Nat.le_of_ble_eq_true rfl)
  rw [lg_entry_eq]
  generalize (lg_sl ([.int x, .int y, .int z]) ++ List.replicate (3 - (lg_sl ([.int x, .int y, .int z])).length) Slot.unset).toArray = ls at hl ⊢
  have hl : lv_has ls 3 [(0, .int x), (1, .int y), (2, .int z)] := hl
  refine lv_iload_n hx hb d_Mo_isTriple_0 rfl (lv_at hl 0 rfl) ?_
  refine rv_calli (r := rc_tm x) (va_runS (As := [.int x]) (rest := []) ⟨hx, hb, hml, hown, hts⟩ (c_Mo_isTerm l x) (va_cwS 1 hts (rg_S (rg3 m_421 m_422 m_6) k_Mo_isTerm) rfl rfl rfl (by decide +kernel) ⟨Nat.le_of_ble_eq_true rfl, Nat.le_of_ble_eq_true rfl⟩) ⟨fun _ _ _ _ q => q, fun U hU hW => ⟨rfl, trivial⟩⟩ rfl rfl hl.1 rfl (lv_room (Nat.le_of_ble_eq_true rfl)) d_Mo_isTriple_1 ⟨Nat.zero_le _, Nat.zero_le _⟩) hS (fun _ h => h.elim) (fun H locs hk hS => ?_)
  refine lv_if_eq (tgt := 25) hx hb d_Mo_isTriple_4 (by decide) (fun c_4 => ?_) (fun c_4 => ?_)
  · refine lv_iconst (v := nI 0) hx hb d_Mo_isTriple_25 (by decide) ?_
    exact W.zret (v := nI 0) hx hb hr (by rfl) (fun t ht hW => ⟨⟨nI 0, (), rfl, by unfold rc_tm3; first | rw [if_pos (by assumption)] | rw [if_neg (by assumption), if_pos (by assumption)] | rw [if_neg (by assumption), if_neg (by assumption), if_pos (by assumption)] | rw [if_neg (by assumption), if_neg (by assumption), if_neg (by assumption)], trivial⟩, hS.F ht⟩) hS.2.2 d_Mo_isTriple_26
  · refine lv_iload_n hx hb d_Mo_isTriple_7 rfl (lv_at hl 1 rfl) ?_
    refine rv_calli (r := rc_tm y) (va_runS (As := [.int y]) (rest := []) ⟨hx, hb, hml, hown, hts⟩ (c_Mo_isTerm l y) (va_cwS 1 hts (rg_S (rg3 m_421 m_422 m_6) k_Mo_isTerm) rfl rfl rfl (by decide +kernel) ⟨Nat.le_of_ble_eq_true rfl, Nat.le_of_ble_eq_true rfl⟩) ⟨fun _ _ _ _ q => q, fun U hU hW => ⟨rfl, trivial⟩⟩ rfl rfl hl.1 rfl (lv_room (Nat.le_of_ble_eq_true rfl)) d_Mo_isTriple_8 ⟨Nat.zero_le _, Nat.zero_le _⟩) hS (fun _ h => h.elim) (fun H locs hk hS => ?_)
    refine lv_if_eq (tgt := 25) hx hb d_Mo_isTriple_11 (by decide) (fun c_11 => ?_) (fun c_11 => ?_)
    · refine lv_iconst (v := nI 0) hx hb d_Mo_isTriple_25 (by decide) ?_
      exact W.zret (v := nI 0) hx hb hr (by rfl) (fun t ht hW => ⟨⟨nI 0, (), rfl, by unfold rc_tm3; first | rw [if_pos (by assumption)] | rw [if_neg (by assumption), if_pos (by assumption)] | rw [if_neg (by assumption), if_neg (by assumption), if_pos (by assumption)] | rw [if_neg (by assumption), if_neg (by assumption), if_neg (by assumption)], trivial⟩, hS.F ht⟩) hS.2.2 d_Mo_isTriple_26
    · refine lv_iload_n hx hb d_Mo_isTriple_14 rfl (lv_at hl 2 rfl) ?_
      refine rv_calli (r := rc_tm z) (va_runS (As := [.int z]) (rest := []) ⟨hx, hb, hml, hown, hts⟩ (c_Mo_isTerm l z) (va_cwS 1 hts (rg_S (rg3 m_421 m_422 m_6) k_Mo_isTerm) rfl rfl rfl (by decide +kernel) ⟨Nat.le_of_ble_eq_true rfl, Nat.le_of_ble_eq_true rfl⟩) ⟨fun _ _ _ _ q => q, fun U hU hW => ⟨rfl, trivial⟩⟩ rfl rfl hl.1 rfl (lv_room (Nat.le_of_ble_eq_true rfl)) d_Mo_isTriple_15 ⟨Nat.zero_le _, Nat.zero_le _⟩) hS (fun _ h => h.elim) (fun H locs hk hS => ?_)
      refine lv_if_eq (tgt := 25) hx hb d_Mo_isTriple_18 (by decide) (fun c_18 => ?_) (fun c_18 => ?_)
      · refine lv_iconst (v := nI 0) hx hb d_Mo_isTriple_25 (by decide) ?_
        exact W.zret (v := nI 0) hx hb hr (by rfl) (fun t ht hW => ⟨⟨nI 0, (), rfl, by unfold rc_tm3; first | rw [if_pos (by assumption)] | rw [if_neg (by assumption), if_pos (by assumption)] | rw [if_neg (by assumption), if_neg (by assumption), if_pos (by assumption)] | rw [if_neg (by assumption), if_neg (by assumption), if_neg (by assumption)], trivial⟩, hS.F ht⟩) hS.2.2 d_Mo_isTriple_26
      · refine lv_iconst (v := nI 1) hx hb d_Mo_isTriple_21 (by decide) ?_
        refine lv_goto (tgt := 26) hx hb d_Mo_isTriple_22 (by decide) ?_
        exact W.zret (v := nI 1) hx hb hr (by rfl) (fun t ht hW => ⟨⟨nI 1, (), rfl, by unfold rc_tm3; first | rw [if_pos (by assumption)] | rw [if_neg (by assumption), if_pos (by assumption)] | rw [if_neg (by assumption), if_neg (by assumption), if_pos (by assumption)] | rw [if_neg (by assumption), if_neg (by assumption), if_neg (by assumption)], trivial⟩, hS.F ht⟩) hS.2.2 d_Mo_isTriple_26

set_option maxHeartbeats 4000000 in
set_option maxRecDepth 100000 in
theorem c_Mo_codeOf (l : Launch) (x y z : Nat) : Met l y_Mo_codeOf (w_ y_Mo_codeOf b_Mo_codeOf 3 (some .int)) (rm_ 0) (va_Pc [.int (nI x), .int (nI y), .int (nI z)] (fun U => True)) (va_Qi (fun (z9 : Int32) (_ : Unit) => z9 = nI (rx_code x y z)) (fun _ _ => True) (fun _ => False)) 0 0 (fun _ => False) := by
  refine Met.ofW (cc := b_Mo_codeOf) (maxL := 3) (ret := (some .int)) (by decide) rfl ?_
  intro p e s m args below meth c s₁ B hml hv
  obtain ⟨rfl, -⟩ := hv
  have hx := B.exec
  have hb := B.bytes
  have hr := B.returns
  have hts := atoms_spec (ws := (w_ y_Mo_codeOf b_Mo_codeOf 3 (some .int))) B.pre
  have hown : s.vm.findClass R_Mo = some m.cls := findClass_of_methodNamed B.named
  have hlocks := B.notSynchronized
  have hS : va_S (fun _ => False) s.heap s.heap [] := va_S.rf
  have hl := lv_entry ([.int (nI x), .int (nI y), .int (nI z)]) (n := 3) (Nat.le_of_ble_eq_true rfl)
  rw [lg_entry_eq]
  generalize (lg_sl ([.int (nI x), .int (nI y), .int (nI z)]) ++ List.replicate (3 - (lg_sl ([.int (nI x), .int (nI y), .int (nI z)])).length) Slot.unset).toArray = ls at hl ⊢
  have hl : lv_has ls 3 [(0, .int (nI x)), (1, .int (nI y)), (2, .int (nI z))] := hl
  refine lv_sipush (v := nI 1024) hx hb d_Mo_codeOf_0 (by decide) ?_
  refine lv_iload_n hx hb d_Mo_codeOf_3 rfl (lv_at hl 0 rfl) ?_
  refine rv_imul hx hb d_Mo_codeOf_4 ?_
  refine lv_bipush (v := nI 32) hx hb d_Mo_codeOf_5 (by decide) ?_
  refine lv_iload_n hx hb d_Mo_codeOf_7 rfl (lv_at hl 1 rfl) ?_
  refine rv_imul hx hb d_Mo_codeOf_8 ?_
  refine rv_iadd hx hb d_Mo_codeOf_9 ?_
  refine lv_iload_n hx hb d_Mo_codeOf_10 rfl (lv_at hl 2 rfl) ?_
  refine rv_iadd hx hb d_Mo_codeOf_11 ?_
  exact W.iret (v := nI (((1024 * x) + (32 * y)) + z)) hx hb hr (fun t ht hW => ⟨⟨nI (((1024 * x) + (32 * y)) + z), (), rfl, congrArg nI (by unfold rx_code; omega), trivial⟩, hS.F ht⟩) hS.2.2 d_Mo_codeOf_12

set_option maxHeartbeats 4000000 in
set_option maxRecDepth 100000 in
theorem c_Mo_early (l : Launch) (q : Nat) (hq : q < 60) : Met l y_Mo_early (w_ y_Mo_early b_Mo_early 1 (some .int)) (rm_ 0) (va_Pc [.int (nI q)] (fun U => True)) (va_Qi (fun (z9 : Int32) (_ : Unit) => z9 = rp_tab.getD q (-1)) (fun _ _ => True) (fun _ => False)) 0 0 (fun _ => False) := by
  refine Met.ofW (cc := b_Mo_early) (maxL := 1) (ret := (some .int)) (by decide) rfl ?_
  intro p e s m args below meth c s₁ B hml hv
  obtain ⟨rfl, -⟩ := hv
  have hx := B.exec
  have hb := B.bytes
  have hr := B.returns
  have hts := atoms_spec (ws := (w_ y_Mo_early b_Mo_early 1 (some .int))) B.pre
  have hown : s.vm.findClass R_Mo = some m.cls := findClass_of_methodNamed B.named
  have hlocks := B.notSynchronized
  have hS : va_S (fun _ => False) s.heap s.heap [] := va_S.rf
  have hl := lv_entry ([.int (nI q)]) (n := 1) (Nat.le_of_ble_eq_true rfl)
  rw [lg_entry_eq]
  generalize (lg_sl ([.int (nI q)]) ++ List.replicate (1 - (lg_sl ([.int (nI q)])).length) Slot.unset).toArray = ls at hl ⊢
  have hl : lv_has ls 1 [(0, .int (nI q))] := hl
  refine lv_iload_n hx hb d_Mo_early_0 rfl (lv_at hl 0 rfl) ?_
  match q, hq, hl with
  | 0, _, hl =>
    refine lv_tableIn (x := nI 0) (off := 255) (tgt := 256) hx hb d_Mo_early_1 (by decide) (by decide) (by decide) (by decide) ?_
    refine lv_ldc (v := nI 131489) hx hb hown (hts _ (List.mem_cons_of_mem _ m_464)) d_Mo_early_256 ?_
    exact W.iret (v := nI 131489) hx hb hr (fun t ht hW => ⟨⟨nI 131489, (), rfl, by decide +kernel, trivial⟩, hS.F ht⟩) hS.2.2 d_Mo_early_258
  | 1, _, hl =>
    refine lv_tableIn (x := nI 1) (off := 363) (tgt := 364) hx hb d_Mo_early_1 (by decide) (by decide) (by decide) (by decide) ?_
    refine lv_iconst (v := (-1)) hx hb d_Mo_early_364 (by decide) ?_
    exact W.iret (v := (-1)) hx hb hr (fun t ht hW => ⟨⟨(-1), (), rfl, by decide +kernel, trivial⟩, hS.F ht⟩) hS.2.2 d_Mo_early_365
  | 2, _, hl =>
    refine lv_tableIn (x := nI 2) (off := 363) (tgt := 364) hx hb d_Mo_early_1 (by decide) (by decide) (by decide) (by decide) ?_
    refine lv_iconst (v := (-1)) hx hb d_Mo_early_364 (by decide) ?_
    exact W.iret (v := (-1)) hx hb hr (fun t ht hW => ⟨⟨(-1), (), rfl, by decide +kernel, trivial⟩, hS.F ht⟩) hS.2.2 d_Mo_early_365
  | 3, _, hl =>
    refine lv_tableIn (x := nI 3) (off := 363) (tgt := 364) hx hb d_Mo_early_1 (by decide) (by decide) (by decide) (by decide) ?_
    refine lv_iconst (v := (-1)) hx hb d_Mo_early_364 (by decide) ?_
    exact W.iret (v := (-1)) hx hb hr (fun t ht hW => ⟨⟨(-1), (), rfl, by decide +kernel, trivial⟩, hS.F ht⟩) hS.2.2 d_Mo_early_365
  | 4, _, hl =>
    refine lv_tableIn (x := nI 4) (off := 258) (tgt := 259) hx hb d_Mo_early_1 (by decide) (by decide) (by decide) (by decide) ?_
    refine lv_ldc (v := nI 135584) hx hb hown (hts _ (List.mem_cons_of_mem _ m_465)) d_Mo_early_259 ?_
    exact W.iret (v := nI 135584) hx hb hr (fun t ht hW => ⟨⟨nI 135584, (), rfl, by decide +kernel, trivial⟩, hS.F ht⟩) hS.2.2 d_Mo_early_261
  | 5, _, hl =>
    refine lv_tableIn (x := nI 5) (off := 261) (tgt := 262) hx hb d_Mo_early_1 (by decide) (by decide) (by decide) (by decide) ?_
    refine lv_ldc (v := nI 131489) hx hb hown (hts _ (List.mem_cons_of_mem _ m_464)) d_Mo_early_262 ?_
    exact W.iret (v := nI 131489) hx hb hr (fun t ht hW => ⟨⟨nI 131489, (), rfl, by decide +kernel, trivial⟩, hS.F ht⟩) hS.2.2 d_Mo_early_264
  | 6, _, hl =>
    refine lv_tableIn (x := nI 6) (off := 264) (tgt := 265) hx hb d_Mo_early_1 (by decide) (by decide) (by decide) (by decide) ?_
    refine lv_ldc (v := nI 135586) hx hb hown (hts _ (List.mem_cons_of_mem _ m_466)) d_Mo_early_265 ?_
    exact W.iret (v := nI 135586) hx hb hr (fun t ht hW => ⟨⟨nI 135586, (), rfl, by decide +kernel, trivial⟩, hS.F ht⟩) hS.2.2 d_Mo_early_267
  | 7, _, hl =>
    refine lv_tableIn (x := nI 7) (off := 363) (tgt := 364) hx hb d_Mo_early_1 (by decide) (by decide) (by decide) (by decide) ?_
    refine lv_iconst (v := (-1)) hx hb d_Mo_early_364 (by decide) ?_
    exact W.iret (v := (-1)) hx hb hr (fun t ht hW => ⟨⟨(-1), (), rfl, by decide +kernel, trivial⟩, hS.F ht⟩) hS.2.2 d_Mo_early_365
  | 8, _, hl =>
    refine lv_tableIn (x := nI 8) (off := 363) (tgt := 364) hx hb d_Mo_early_1 (by decide) (by decide) (by decide) (by decide) ?_
    refine lv_iconst (v := (-1)) hx hb d_Mo_early_364 (by decide) ?_
    exact W.iret (v := (-1)) hx hb hr (fun t ht hW => ⟨⟨(-1), (), rfl, by decide +kernel, trivial⟩, hS.F ht⟩) hS.2.2 d_Mo_early_365
  | 9, _, hl =>
    refine lv_tableIn (x := nI 9) (off := 267) (tgt := 268) hx hb d_Mo_early_1 (by decide) (by decide) (by decide) (by decide) ?_
    refine lv_ldc (v := nI 131490) hx hb hown (hts _ (List.mem_cons_of_mem _ m_467)) d_Mo_early_268 ?_
    exact W.iret (v := nI 131490) hx hb hr (fun t ht hW => ⟨⟨nI 131490, (), rfl, by decide +kernel, trivial⟩, hS.F ht⟩) hS.2.2 d_Mo_early_270
  | 10, _, hl =>
    refine lv_tableIn (x := nI 10) (off := 270) (tgt := 271) hx hb d_Mo_early_1 (by decide) (by decide) (by decide) (by decide) ?_
    refine lv_ldc (v := nI 131489) hx hb hown (hts _ (List.mem_cons_of_mem _ m_464)) d_Mo_early_271 ?_
    exact W.iret (v := nI 131489) hx hb hr (fun t ht hW => ⟨⟨nI 131489, (), rfl, by decide +kernel, trivial⟩, hS.F ht⟩) hS.2.2 d_Mo_early_273
  | 11, _, hl =>
    refine lv_tableIn (x := nI 11) (off := 273) (tgt := 274) hx hb d_Mo_early_1 (by decide) (by decide) (by decide) (by decide) ?_
    refine lv_ldc (v := nI 133410) hx hb hown (hts _ (List.mem_cons_of_mem _ m_468)) d_Mo_early_274 ?_
    exact W.iret (v := nI 133410) hx hb hr (fun t ht hW => ⟨⟨nI 133410, (), rfl, by decide +kernel, trivial⟩, hS.F ht⟩) hS.2.2 d_Mo_early_276
  | 12, _, hl =>
    refine lv_tableIn (x := nI 12) (off := 363) (tgt := 364) hx hb d_Mo_early_1 (by decide) (by decide) (by decide) (by decide) ?_
    refine lv_iconst (v := (-1)) hx hb d_Mo_early_364 (by decide) ?_
    exact W.iret (v := (-1)) hx hb hr (fun t ht hW => ⟨⟨(-1), (), rfl, by decide +kernel, trivial⟩, hS.F ht⟩) hS.2.2 d_Mo_early_365
  | 13, _, hl =>
    refine lv_tableIn (x := nI 13) (off := 363) (tgt := 364) hx hb d_Mo_early_1 (by decide) (by decide) (by decide) (by decide) ?_
    refine lv_iconst (v := (-1)) hx hb d_Mo_early_364 (by decide) ?_
    exact W.iret (v := (-1)) hx hb hr (fun t ht hW => ⟨⟨(-1), (), rfl, by decide +kernel, trivial⟩, hS.F ht⟩) hS.2.2 d_Mo_early_365
  | 14, _, hl =>
    refine lv_tableIn (x := nI 14) (off := 276) (tgt := 277) hx hb d_Mo_early_1 (by decide) (by decide) (by decide) (by decide) ?_
    refine lv_ldc (v := nI 137506) hx hb hown (hts _ (List.mem_cons_of_mem _ m_469)) d_Mo_early_277 ?_
    exact W.iret (v := nI 137506) hx hb hr (fun t ht hW => ⟨⟨nI 137506, (), rfl, by decide +kernel, trivial⟩, hS.F ht⟩) hS.2.2 d_Mo_early_279
  | 15, _, hl =>
    refine lv_tableIn (x := nI 15) (off := 279) (tgt := 280) hx hb d_Mo_early_1 (by decide) (by decide) (by decide) (by decide) ?_
    refine lv_ldc (v := nI 131489) hx hb hown (hts _ (List.mem_cons_of_mem _ m_464)) d_Mo_early_280 ?_
    exact W.iret (v := nI 131489) hx hb hr (fun t ht hW => ⟨⟨nI 131489, (), rfl, by decide +kernel, trivial⟩, hS.F ht⟩) hS.2.2 d_Mo_early_282
  | 16, _, hl =>
    refine lv_tableIn (x := nI 16) (off := 282) (tgt := 283) hx hb d_Mo_early_1 (by decide) (by decide) (by decide) (by decide) ?_
    refine lv_ldc (v := nI 141600) hx hb hown (hts _ (List.mem_cons_of_mem _ m_470)) d_Mo_early_283 ?_
    exact W.iret (v := nI 141600) hx hb hr (fun t ht hW => ⟨⟨nI 141600, (), rfl, by decide +kernel, trivial⟩, hS.F ht⟩) hS.2.2 d_Mo_early_285
  | 17, _, hl =>
    refine lv_tableIn (x := nI 17) (off := 363) (tgt := 364) hx hb d_Mo_early_1 (by decide) (by decide) (by decide) (by decide) ?_
    refine lv_iconst (v := (-1)) hx hb d_Mo_early_364 (by decide) ?_
    exact W.iret (v := (-1)) hx hb hr (fun t ht hW => ⟨⟨(-1), (), rfl, by decide +kernel, trivial⟩, hS.F ht⟩) hS.2.2 d_Mo_early_365
  | 18, _, hl =>
    refine lv_tableIn (x := nI 18) (off := 363) (tgt := 364) hx hb d_Mo_early_1 (by decide) (by decide) (by decide) (by decide) ?_
    refine lv_iconst (v := (-1)) hx hb d_Mo_early_364 (by decide) ?_
    exact W.iret (v := (-1)) hx hb hr (fun t ht hW => ⟨⟨(-1), (), rfl, by decide +kernel, trivial⟩, hS.F ht⟩) hS.2.2 d_Mo_early_365
  | 19, _, hl =>
    refine lv_tableIn (x := nI 19) (off := 285) (tgt := 286) hx hb d_Mo_early_1 (by decide) (by decide) (by decide) (by decide) ?_
    refine lv_ldc (v := nI 141601) hx hb hown (hts _ (List.mem_cons_of_mem _ m_471)) d_Mo_early_286 ?_
    exact W.iret (v := nI 141601) hx hb hr (fun t ht hW => ⟨⟨nI 141601, (), rfl, by decide +kernel, trivial⟩, hS.F ht⟩) hS.2.2 d_Mo_early_288
  | 20, _, hl =>
    refine lv_tableIn (x := nI 20) (off := 288) (tgt := 289) hx hb d_Mo_early_1 (by decide) (by decide) (by decide) (by decide) ?_
    refine lv_ldc (v := nI 147687) hx hb hown (hts _ (List.mem_cons_of_mem _ m_472)) d_Mo_early_289 ?_
    exact W.iret (v := nI 147687) hx hb hr (fun t ht hW => ⟨⟨nI 147687, (), rfl, by decide +kernel, trivial⟩, hS.F ht⟩) hS.2.2 d_Mo_early_291
  | 21, _, hl =>
    refine lv_tableIn (x := nI 21) (off := 291) (tgt := 292) hx hb d_Mo_early_1 (by decide) (by decide) (by decide) (by decide) ?_
    refine lv_ldc (v := nI 133409) hx hb hown (hts _ (List.mem_cons_of_mem _ m_473)) d_Mo_early_292 ?_
    exact W.iret (v := nI 133409) hx hb hr (fun t ht hW => ⟨⟨nI 133409, (), rfl, by decide +kernel, trivial⟩, hS.F ht⟩) hS.2.2 d_Mo_early_294
  | 22, _, hl =>
    refine lv_tableIn (x := nI 22) (off := 363) (tgt := 364) hx hb d_Mo_early_1 (by decide) (by decide) (by decide) (by decide) ?_
    refine lv_iconst (v := (-1)) hx hb d_Mo_early_364 (by decide) ?_
    exact W.iret (v := (-1)) hx hb hr (fun t ht hW => ⟨⟨(-1), (), rfl, by decide +kernel, trivial⟩, hS.F ht⟩) hS.2.2 d_Mo_early_365
  | 23, _, hl =>
    refine lv_tableIn (x := nI 23) (off := 363) (tgt := 364) hx hb d_Mo_early_1 (by decide) (by decide) (by decide) (by decide) ?_
    refine lv_iconst (v := (-1)) hx hb d_Mo_early_364 (by decide) ?_
    exact W.iret (v := (-1)) hx hb hr (fun t ht hW => ⟨⟨(-1), (), rfl, by decide +kernel, trivial⟩, hS.F ht⟩) hS.2.2 d_Mo_early_365
  | 24, _, hl =>
    refine lv_tableIn (x := nI 24) (off := 294) (tgt := 295) hx hb d_Mo_early_1 (by decide) (by decide) (by decide) (by decide) ?_
    refine lv_ldc (v := nI 131111) hx hb hown (hts _ (List.mem_cons_of_mem _ m_474)) d_Mo_early_295 ?_
    exact W.iret (v := nI 131111) hx hb hr (fun t ht hW => ⟨⟨nI 131111, (), rfl, by decide +kernel, trivial⟩, hS.F ht⟩) hS.2.2 d_Mo_early_297
  | 25, _, hl =>
    refine lv_tableIn (x := nI 25) (off := 297) (tgt := 298) hx hb d_Mo_early_1 (by decide) (by decide) (by decide) (by decide) ?_
    refine lv_ldc (v := nI 147751) hx hb hown (hts _ (List.mem_cons_of_mem _ m_475)) d_Mo_early_298 ?_
    exact W.iret (v := nI 147751) hx hb hr (fun t ht hW => ⟨⟨nI 147751, (), rfl, by decide +kernel, trivial⟩, hS.F ht⟩) hS.2.2 d_Mo_early_300
  | 26, _, hl =>
    refine lv_tableIn (x := nI 26) (off := 300) (tgt := 301) hx hb d_Mo_early_1 (by decide) (by decide) (by decide) (by decide) ?_
    refine lv_ldc (v := nI 133409) hx hb hown (hts _ (List.mem_cons_of_mem _ m_473)) d_Mo_early_301 ?_
    exact W.iret (v := nI 133409) hx hb hr (fun t ht hW => ⟨⟨nI 133409, (), rfl, by decide +kernel, trivial⟩, hS.F ht⟩) hS.2.2 d_Mo_early_303
  | 27, _, hl =>
    refine lv_tableIn (x := nI 27) (off := 363) (tgt := 364) hx hb d_Mo_early_1 (by decide) (by decide) (by decide) (by decide) ?_
    refine lv_iconst (v := (-1)) hx hb d_Mo_early_364 (by decide) ?_
    exact W.iret (v := (-1)) hx hb hr (fun t ht hW => ⟨⟨(-1), (), rfl, by decide +kernel, trivial⟩, hS.F ht⟩) hS.2.2 d_Mo_early_365
  | 28, _, hl =>
    refine lv_tableIn (x := nI 28) (off := 363) (tgt := 364) hx hb d_Mo_early_1 (by decide) (by decide) (by decide) (by decide) ?_
    refine lv_iconst (v := (-1)) hx hb d_Mo_early_364 (by decide) ?_
    exact W.iret (v := (-1)) hx hb hr (fun t ht hW => ⟨⟨(-1), (), rfl, by decide +kernel, trivial⟩, hS.F ht⟩) hS.2.2 d_Mo_early_365
  | 29, _, hl =>
    refine lv_tableIn (x := nI 29) (off := 303) (tgt := 304) hx hb d_Mo_early_1 (by decide) (by decide) (by decide) (by decide) ?_
    refine lv_ldc (v := nI 135207) hx hb hown (hts _ (List.mem_cons_of_mem _ m_476)) d_Mo_early_304 ?_
    exact W.iret (v := nI 135207) hx hb hr (fun t ht hW => ⟨⟨nI 135207, (), rfl, by decide +kernel, trivial⟩, hS.F ht⟩) hS.2.2 d_Mo_early_306
  | 30, _, hl =>
    refine lv_tableIn (x := nI 30) (off := 306) (tgt := 307) hx hb d_Mo_early_1 (by decide) (by decide) (by decide) (by decide) ?_
    refine lv_ldc (v := nI 147472) hx hb hown (hts _ (List.mem_cons_of_mem _ m_477)) d_Mo_early_307 ?_
    exact W.iret (v := nI 147472) hx hb hr (fun t ht hW => ⟨⟨nI 147472, (), rfl, by decide +kernel, trivial⟩, hS.F ht⟩) hS.2.2 d_Mo_early_309
  | 31, _, hl =>
    refine lv_tableIn (x := nI 31) (off := 309) (tgt := 310) hx hb d_Mo_early_1 (by decide) (by decide) (by decide) (by decide) ?_
    refine lv_ldc (v := nI 133409) hx hb hown (hts _ (List.mem_cons_of_mem _ m_473)) d_Mo_early_310 ?_
    exact W.iret (v := nI 133409) hx hb hr (fun t ht hW => ⟨⟨nI 133409, (), rfl, by decide +kernel, trivial⟩, hS.F ht⟩) hS.2.2 d_Mo_early_312
  | 32, _, hl =>
    refine lv_tableIn (x := nI 32) (off := 363) (tgt := 364) hx hb d_Mo_early_1 (by decide) (by decide) (by decide) (by decide) ?_
    refine lv_iconst (v := (-1)) hx hb d_Mo_early_364 (by decide) ?_
    exact W.iret (v := (-1)) hx hb hr (fun t ht hW => ⟨⟨(-1), (), rfl, by decide +kernel, trivial⟩, hS.F ht⟩) hS.2.2 d_Mo_early_365
  | 33, _, hl =>
    refine lv_tableIn (x := nI 33) (off := 363) (tgt := 364) hx hb d_Mo_early_1 (by decide) (by decide) (by decide) (by decide) ?_
    refine lv_iconst (v := (-1)) hx hb d_Mo_early_364 (by decide) ?_
    exact W.iret (v := (-1)) hx hb hr (fun t ht hW => ⟨⟨(-1), (), rfl, by decide +kernel, trivial⟩, hS.F ht⟩) hS.2.2 d_Mo_early_365
  | 34, _, hl =>
    refine lv_tableIn (x := nI 34) (off := 312) (tgt := 313) hx hb d_Mo_early_1 (by decide) (by decide) (by decide) (by decide) ?_
    refine lv_ldc (v := nI 137504) hx hb hown (hts _ (List.mem_cons_of_mem _ m_478)) d_Mo_early_313 ?_
    exact W.iret (v := nI 137504) hx hb hr (fun t ht hW => ⟨⟨nI 137504, (), rfl, by decide +kernel, trivial⟩, hS.F ht⟩) hS.2.2 d_Mo_early_315
  | 35, _, hl =>
    refine lv_tableIn (x := nI 35) (off := 315) (tgt := 316) hx hb d_Mo_early_1 (by decide) (by decide) (by decide) (by decide) ?_
    refine lv_ldc (v := nI 147471) hx hb hown (hts _ (List.mem_cons_of_mem _ m_479)) d_Mo_early_316 ?_
    exact W.iret (v := nI 147471) hx hb hr (fun t ht hW => ⟨⟨nI 147471, (), rfl, by decide +kernel, trivial⟩, hS.F ht⟩) hS.2.2 d_Mo_early_318
  | 36, _, hl =>
    refine lv_tableIn (x := nI 36) (off := 318) (tgt := 319) hx hb d_Mo_early_1 (by decide) (by decide) (by decide) (by decide) ?_
    refine lv_ldc (v := nI 133409) hx hb hown (hts _ (List.mem_cons_of_mem _ m_473)) d_Mo_early_319 ?_
    exact W.iret (v := nI 133409) hx hb hr (fun t ht hW => ⟨⟨nI 133409, (), rfl, by decide +kernel, trivial⟩, hS.F ht⟩) hS.2.2 d_Mo_early_321
  | 37, _, hl =>
    refine lv_tableIn (x := nI 37) (off := 321) (tgt := 322) hx hb d_Mo_early_1 (by decide) (by decide) (by decide) (by decide) ?_
    refine lv_ldc (v := nI 137506) hx hb hown (hts _ (List.mem_cons_of_mem _ m_469)) d_Mo_early_322 ?_
    exact W.iret (v := nI 137506) hx hb hr (fun t ht hW => ⟨⟨nI 137506, (), rfl, by decide +kernel, trivial⟩, hS.F ht⟩) hS.2.2 d_Mo_early_324
  | 38, _, hl =>
    refine lv_tableIn (x := nI 38) (off := 363) (tgt := 364) hx hb d_Mo_early_1 (by decide) (by decide) (by decide) (by decide) ?_
    refine lv_iconst (v := (-1)) hx hb d_Mo_early_364 (by decide) ?_
    exact W.iret (v := (-1)) hx hb hr (fun t ht hW => ⟨⟨(-1), (), rfl, by decide +kernel, trivial⟩, hS.F ht⟩) hS.2.2 d_Mo_early_365
  | 39, _, hl =>
    refine lv_tableIn (x := nI 39) (off := 324) (tgt := 325) hx hb d_Mo_early_1 (by decide) (by decide) (by decide) (by decide) ?_
    refine lv_ldc (v := nI 133410) hx hb hown (hts _ (List.mem_cons_of_mem _ m_468)) d_Mo_early_325 ?_
    exact W.iret (v := nI 133410) hx hb hr (fun t ht hW => ⟨⟨nI 133410, (), rfl, by decide +kernel, trivial⟩, hS.F ht⟩) hS.2.2 d_Mo_early_327
  | 40, _, hl =>
    refine lv_tableIn (x := nI 40) (off := 327) (tgt := 328) hx hb d_Mo_early_1 (by decide) (by decide) (by decide) (by decide) ?_
    refine lv_ldc (v := nI 147813) hx hb hown (hts _ (List.mem_cons_of_mem _ m_480)) d_Mo_early_328 ?_
    exact W.iret (v := nI 147813) hx hb hr (fun t ht hW => ⟨⟨nI 147813, (), rfl, by decide +kernel, trivial⟩, hS.F ht⟩) hS.2.2 d_Mo_early_330
  | 41, _, hl =>
    refine lv_tableIn (x := nI 41) (off := 330) (tgt := 331) hx hb d_Mo_early_1 (by decide) (by decide) (by decide) (by decide) ?_
    refine lv_ldc (v := nI 133409) hx hb hown (hts _ (List.mem_cons_of_mem _ m_473)) d_Mo_early_331 ?_
    exact W.iret (v := nI 133409) hx hb hr (fun t ht hW => ⟨⟨nI 133409, (), rfl, by decide +kernel, trivial⟩, hS.F ht⟩) hS.2.2 d_Mo_early_333
  | 42, _, hl =>
    refine lv_tableIn (x := nI 42) (off := 363) (tgt := 364) hx hb d_Mo_early_1 (by decide) (by decide) (by decide) (by decide) ?_
    refine lv_iconst (v := (-1)) hx hb d_Mo_early_364 (by decide) ?_
    exact W.iret (v := (-1)) hx hb hr (fun t ht hW => ⟨⟨(-1), (), rfl, by decide +kernel, trivial⟩, hS.F ht⟩) hS.2.2 d_Mo_early_365
  | 43, _, hl =>
    refine lv_tableIn (x := nI 43) (off := 363) (tgt := 364) hx hb d_Mo_early_1 (by decide) (by decide) (by decide) (by decide) ?_
    refine lv_iconst (v := (-1)) hx hb d_Mo_early_364 (by decide) ?_
    exact W.iret (v := (-1)) hx hb hr (fun t ht hW => ⟨⟨(-1), (), rfl, by decide +kernel, trivial⟩, hS.F ht⟩) hS.2.2 d_Mo_early_365
  | 44, _, hl =>
    refine lv_tableIn (x := nI 44) (off := 333) (tgt := 334) hx hb d_Mo_early_1 (by decide) (by decide) (by decide) (by decide) ?_
    refine lv_ldc (v := nI 137568) hx hb hown (hts _ (List.mem_cons_of_mem _ m_481)) d_Mo_early_334 ?_
    exact W.iret (v := nI 137568) hx hb hr (fun t ht hW => ⟨⟨nI 137568, (), rfl, by decide +kernel, trivial⟩, hS.F ht⟩) hS.2.2 d_Mo_early_336
  | 45, _, hl =>
    refine lv_tableIn (x := nI 45) (off := 336) (tgt := 337) hx hb d_Mo_early_1 (by decide) (by decide) (by decide) (by decide) ?_
    refine lv_ldc (v := nI 147813) hx hb hown (hts _ (List.mem_cons_of_mem _ m_480)) d_Mo_early_337 ?_
    exact W.iret (v := nI 147813) hx hb hr (fun t ht hW => ⟨⟨nI 147813, (), rfl, by decide +kernel, trivial⟩, hS.F ht⟩) hS.2.2 d_Mo_early_339
  | 46, _, hl =>
    refine lv_tableIn (x := nI 46) (off := 339) (tgt := 340) hx hb d_Mo_early_1 (by decide) (by decide) (by decide) (by decide) ?_
    refine lv_ldc (v := nI 133473) hx hb hown (hts _ (List.mem_cons_of_mem _ m_482)) d_Mo_early_340 ?_
    exact W.iret (v := nI 133473) hx hb hr (fun t ht hW => ⟨⟨nI 133473, (), rfl, by decide +kernel, trivial⟩, hS.F ht⟩) hS.2.2 d_Mo_early_342
  | 47, _, hl =>
    refine lv_tableIn (x := nI 47) (off := 363) (tgt := 364) hx hb d_Mo_early_1 (by decide) (by decide) (by decide) (by decide) ?_
    refine lv_iconst (v := (-1)) hx hb d_Mo_early_364 (by decide) ?_
    exact W.iret (v := (-1)) hx hb hr (fun t ht hW => ⟨⟨(-1), (), rfl, by decide +kernel, trivial⟩, hS.F ht⟩) hS.2.2 d_Mo_early_365
  | 48, _, hl =>
    refine lv_tableIn (x := nI 48) (off := 363) (tgt := 364) hx hb d_Mo_early_1 (by decide) (by decide) (by decide) (by decide) ?_
    refine lv_iconst (v := (-1)) hx hb d_Mo_early_364 (by decide) ?_
    exact W.iret (v := (-1)) hx hb hr (fun t ht hW => ⟨⟨(-1), (), rfl, by decide +kernel, trivial⟩, hS.F ht⟩) hS.2.2 d_Mo_early_365
  | 49, _, hl =>
    refine lv_tableIn (x := nI 49) (off := 342) (tgt := 343) hx hb d_Mo_early_1 (by decide) (by decide) (by decide) (by decide) ?_
    refine lv_ldc (v := nI 137504) hx hb hown (hts _ (List.mem_cons_of_mem _ m_478)) d_Mo_early_343 ?_
    exact W.iret (v := nI 137504) hx hb hr (fun t ht hW => ⟨⟨nI 137504, (), rfl, by decide +kernel, trivial⟩, hS.F ht⟩) hS.2.2 d_Mo_early_345
  | 50, _, hl =>
    refine lv_tableIn (x := nI 50) (off := 345) (tgt := 346) hx hb d_Mo_early_1 (by decide) (by decide) (by decide) (by decide) ?_
    refine lv_ldc (v := nI 147621) hx hb hown (hts _ (List.mem_cons_of_mem _ m_483)) d_Mo_early_346 ?_
    exact W.iret (v := nI 147621) hx hb hr (fun t ht hW => ⟨⟨nI 147621, (), rfl, by decide +kernel, trivial⟩, hS.F ht⟩) hS.2.2 d_Mo_early_348
  | 51, _, hl =>
    refine lv_tableIn (x := nI 51) (off := 348) (tgt := 349) hx hb d_Mo_early_1 (by decide) (by decide) (by decide) (by decide) ?_
    refine lv_ldc (v := nI 133409) hx hb hown (hts _ (List.mem_cons_of_mem _ m_473)) d_Mo_early_349 ?_
    exact W.iret (v := nI 133409) hx hb hr (fun t ht hW => ⟨⟨nI 133409, (), rfl, by decide +kernel, trivial⟩, hS.F ht⟩) hS.2.2 d_Mo_early_351
  | 52, _, hl =>
    refine lv_tableIn (x := nI 52) (off := 363) (tgt := 364) hx hb d_Mo_early_1 (by decide) (by decide) (by decide) (by decide) ?_
    refine lv_iconst (v := (-1)) hx hb d_Mo_early_364 (by decide) ?_
    exact W.iret (v := (-1)) hx hb hr (fun t ht hW => ⟨⟨(-1), (), rfl, by decide +kernel, trivial⟩, hS.F ht⟩) hS.2.2 d_Mo_early_365
  | 53, _, hl =>
    refine lv_tableIn (x := nI 53) (off := 363) (tgt := 364) hx hb d_Mo_early_1 (by decide) (by decide) (by decide) (by decide) ?_
    refine lv_iconst (v := (-1)) hx hb d_Mo_early_364 (by decide) ?_
    exact W.iret (v := (-1)) hx hb hr (fun t ht hW => ⟨⟨(-1), (), rfl, by decide +kernel, trivial⟩, hS.F ht⟩) hS.2.2 d_Mo_early_365
  | 54, _, hl =>
    refine lv_tableIn (x := nI 54) (off := 351) (tgt := 352) hx hb d_Mo_early_1 (by decide) (by decide) (by decide) (by decide) ?_
    refine lv_ldc (v := nI 133473) hx hb hown (hts _ (List.mem_cons_of_mem _ m_482)) d_Mo_early_352 ?_
    exact W.iret (v := nI 133473) hx hb hr (fun t ht hW => ⟨⟨nI 133473, (), rfl, by decide +kernel, trivial⟩, hS.F ht⟩) hS.2.2 d_Mo_early_354
  | 55, _, hl =>
    refine lv_tableIn (x := nI 55) (off := 354) (tgt := 355) hx hb d_Mo_early_1 (by decide) (by decide) (by decide) (by decide) ?_
    refine lv_ldc (v := nI 147621) hx hb hown (hts _ (List.mem_cons_of_mem _ m_483)) d_Mo_early_355 ?_
    exact W.iret (v := nI 147621) hx hb hr (fun t ht hW => ⟨⟨nI 147621, (), rfl, by decide +kernel, trivial⟩, hS.F ht⟩) hS.2.2 d_Mo_early_357
  | 56, _, hl =>
    refine lv_tableIn (x := nI 56) (off := 357) (tgt := 358) hx hb d_Mo_early_1 (by decide) (by decide) (by decide) (by decide) ?_
    refine lv_ldc (v := nI 151718) hx hb hown (hts _ (List.mem_cons_of_mem _ m_484)) d_Mo_early_358 ?_
    exact W.iret (v := nI 151718) hx hb hr (fun t ht hW => ⟨⟨nI 151718, (), rfl, by decide +kernel, trivial⟩, hS.F ht⟩) hS.2.2 d_Mo_early_360
  | 57, _, hl =>
    refine lv_tableIn (x := nI 57) (off := 363) (tgt := 364) hx hb d_Mo_early_1 (by decide) (by decide) (by decide) (by decide) ?_
    refine lv_iconst (v := (-1)) hx hb d_Mo_early_364 (by decide) ?_
    exact W.iret (v := (-1)) hx hb hr (fun t ht hW => ⟨⟨(-1), (), rfl, by decide +kernel, trivial⟩, hS.F ht⟩) hS.2.2 d_Mo_early_365
  | 58, _, hl =>
    refine lv_tableIn (x := nI 58) (off := 363) (tgt := 364) hx hb d_Mo_early_1 (by decide) (by decide) (by decide) (by decide) ?_
    refine lv_iconst (v := (-1)) hx hb d_Mo_early_364 (by decide) ?_
    exact W.iret (v := (-1)) hx hb hr (fun t ht hW => ⟨⟨(-1), (), rfl, by decide +kernel, trivial⟩, hS.F ht⟩) hS.2.2 d_Mo_early_365
  | 59, _, hl =>
    refine lv_tableIn (x := nI 59) (off := 360) (tgt := 361) hx hb d_Mo_early_1 (by decide) (by decide) (by decide) (by decide) ?_
    refine lv_ldc (v := nI 147622) hx hb hown (hts _ (List.mem_cons_of_mem _ m_485)) d_Mo_early_361 ?_
    exact W.iret (v := nI 147622) hx hb hr (fun t ht hW => ⟨⟨nI 147622, (), rfl, by decide +kernel, trivial⟩, hS.F ht⟩) hS.2.2 d_Mo_early_363
  | q + 60, h, _ => exact absurd h (by omega)

set_option maxHeartbeats 4000000 in
set_option maxRecDepth 100000 in
theorem c_Mo_later (l : Launch) (q : Nat) (hq : q < 120) (hq2 : 60 ≤ q) : Met l y_Mo_later (w_ y_Mo_later b_Mo_later 1 (some .int)) (rm_ 0) (va_Pc [.int (nI q)] (fun U => True)) (va_Qi (fun (z9 : Int32) (_ : Unit) => z9 = rp_tab.getD q (-1)) (fun _ _ => True) (fun _ => False)) 0 0 (fun _ => False) := by
  refine Met.ofW (cc := b_Mo_later) (maxL := 1) (ret := (some .int)) (by decide) rfl ?_
  intro p e s m args below meth c s₁ B hml hv
  obtain ⟨rfl, -⟩ := hv
  have hx := B.exec
  have hb := B.bytes
  have hr := B.returns
  have hts := atoms_spec (ws := (w_ y_Mo_later b_Mo_later 1 (some .int))) B.pre
  have hown : s.vm.findClass R_Mo = some m.cls := findClass_of_methodNamed B.named
  have hlocks := B.notSynchronized
  have hS : va_S (fun _ => False) s.heap s.heap [] := va_S.rf
  have hl := lv_entry ([.int (nI q)]) (n := 1) (Nat.le_of_ble_eq_true rfl)
  rw [lg_entry_eq]
  generalize (lg_sl ([.int (nI q)]) ++ List.replicate (1 - (lg_sl ([.int (nI q)])).length) Slot.unset).toArray = ls at hl ⊢
  have hl : lv_has ls 1 [(0, .int (nI q))] := hl
  refine lv_iload_n hx hb d_Mo_later_0 rfl (lv_at hl 0 rfl) ?_
  match q, hq, hq2, hl with
  | 0, _, h, _ => exact absurd h (by omega)
  | 1, _, h, _ => exact absurd h (by omega)
  | 2, _, h, _ => exact absurd h (by omega)
  | 3, _, h, _ => exact absurd h (by omega)
  | 4, _, h, _ => exact absurd h (by omega)
  | 5, _, h, _ => exact absurd h (by omega)
  | 6, _, h, _ => exact absurd h (by omega)
  | 7, _, h, _ => exact absurd h (by omega)
  | 8, _, h, _ => exact absurd h (by omega)
  | 9, _, h, _ => exact absurd h (by omega)
  | 10, _, h, _ => exact absurd h (by omega)
  | 11, _, h, _ => exact absurd h (by omega)
  | 12, _, h, _ => exact absurd h (by omega)
  | 13, _, h, _ => exact absurd h (by omega)
  | 14, _, h, _ => exact absurd h (by omega)
  | 15, _, h, _ => exact absurd h (by omega)
  | 16, _, h, _ => exact absurd h (by omega)
  | 17, _, h, _ => exact absurd h (by omega)
  | 18, _, h, _ => exact absurd h (by omega)
  | 19, _, h, _ => exact absurd h (by omega)
  | 20, _, h, _ => exact absurd h (by omega)
  | 21, _, h, _ => exact absurd h (by omega)
  | 22, _, h, _ => exact absurd h (by omega)
  | 23, _, h, _ => exact absurd h (by omega)
  | 24, _, h, _ => exact absurd h (by omega)
  | 25, _, h, _ => exact absurd h (by omega)
  | 26, _, h, _ => exact absurd h (by omega)
  | 27, _, h, _ => exact absurd h (by omega)
  | 28, _, h, _ => exact absurd h (by omega)
  | 29, _, h, _ => exact absurd h (by omega)
  | 30, _, h, _ => exact absurd h (by omega)
  | 31, _, h, _ => exact absurd h (by omega)
  | 32, _, h, _ => exact absurd h (by omega)
  | 33, _, h, _ => exact absurd h (by omega)
  | 34, _, h, _ => exact absurd h (by omega)
  | 35, _, h, _ => exact absurd h (by omega)
  | 36, _, h, _ => exact absurd h (by omega)
  | 37, _, h, _ => exact absurd h (by omega)
  | 38, _, h, _ => exact absurd h (by omega)
  | 39, _, h, _ => exact absurd h (by omega)
  | 40, _, h, _ => exact absurd h (by omega)
  | 41, _, h, _ => exact absurd h (by omega)
  | 42, _, h, _ => exact absurd h (by omega)
  | 43, _, h, _ => exact absurd h (by omega)
  | 44, _, h, _ => exact absurd h (by omega)
  | 45, _, h, _ => exact absurd h (by omega)
  | 46, _, h, _ => exact absurd h (by omega)
  | 47, _, h, _ => exact absurd h (by omega)
  | 48, _, h, _ => exact absurd h (by omega)
  | 49, _, h, _ => exact absurd h (by omega)
  | 50, _, h, _ => exact absurd h (by omega)
  | 51, _, h, _ => exact absurd h (by omega)
  | 52, _, h, _ => exact absurd h (by omega)
  | 53, _, h, _ => exact absurd h (by omega)
  | 54, _, h, _ => exact absurd h (by omega)
  | 55, _, h, _ => exact absurd h (by omega)
  | 56, _, h, _ => exact absurd h (by omega)
  | 57, _, h, _ => exact absurd h (by omega)
  | 58, _, h, _ => exact absurd h (by omega)
  | 59, _, h, _ => exact absurd h (by omega)
  | 60, _, _, hl =>
    refine lv_tableIn (x := nI 60) (off := 247) (tgt := 248) hx hb d_Mo_later_1 (by decide) (by decide) (by decide) (by decide) ?_
    refine lv_ldc (v := nI 159848) hx hb hown (hts _ (List.mem_cons_of_mem _ m_489)) d_Mo_later_248 ?_
    exact W.iret (v := nI 159848) hx hb hr (fun t ht hW => ⟨⟨nI 159848, (), rfl, by decide +kernel, trivial⟩, hS.F ht⟩) hS.2.2 d_Mo_later_250
  | 61, _, _, hl =>
    refine lv_tableIn (x := nI 61) (off := 250) (tgt := 251) hx hb d_Mo_later_1 (by decide) (by decide) (by decide) (by decide) ?_
    refine lv_ldc (v := nI 131111) hx hb hown (hts _ (List.mem_cons_of_mem _ m_474)) d_Mo_later_251 ?_
    exact W.iret (v := nI 131111) hx hb hr (fun t ht hW => ⟨⟨nI 131111, (), rfl, by decide +kernel, trivial⟩, hS.F ht⟩) hS.2.2 d_Mo_later_253
  | 62, _, _, hl =>
    refine lv_tableIn (x := nI 62) (off := 382) (tgt := 383) hx hb d_Mo_later_1 (by decide) (by decide) (by decide) (by decide) ?_
    refine lv_iconst (v := (-1)) hx hb d_Mo_later_383 (by decide) ?_
    exact W.iret (v := (-1)) hx hb hr (fun t ht hW => ⟨⟨(-1), (), rfl, by decide +kernel, trivial⟩, hS.F ht⟩) hS.2.2 d_Mo_later_384
  | 63, _, _, hl =>
    refine lv_tableIn (x := nI 63) (off := 382) (tgt := 383) hx hb d_Mo_later_1 (by decide) (by decide) (by decide) (by decide) ?_
    refine lv_iconst (v := (-1)) hx hb d_Mo_later_383 (by decide) ?_
    exact W.iret (v := (-1)) hx hb hr (fun t ht hW => ⟨⟨(-1), (), rfl, by decide +kernel, trivial⟩, hS.F ht⟩) hS.2.2 d_Mo_later_384
  | 64, _, _, hl =>
    refine lv_tableIn (x := nI 64) (off := 253) (tgt := 254) hx hb d_Mo_later_1 (by decide) (by decide) (by decide) (by decide) ?_
    refine lv_ldc (v := nI 131112) hx hb hown (hts _ (List.mem_cons_of_mem _ m_490)) d_Mo_later_254 ?_
    exact W.iret (v := nI 131112) hx hb hr (fun t ht hW => ⟨⟨nI 131112, (), rfl, by decide +kernel, trivial⟩, hS.F ht⟩) hS.2.2 d_Mo_later_256
  | 65, _, _, hl =>
    refine lv_tableIn (x := nI 65) (off := 256) (tgt := 257) hx hb d_Mo_later_1 (by decide) (by decide) (by decide) (by decide) ?_
    refine lv_ldc (v := nI 159848) hx hb hown (hts _ (List.mem_cons_of_mem _ m_489)) d_Mo_later_257 ?_
    exact W.iret (v := nI 159848) hx hb hr (fun t ht hW => ⟨⟨nI 159848, (), rfl, by decide +kernel, trivial⟩, hS.F ht⟩) hS.2.2 d_Mo_later_259
  | 66, _, _, hl =>
    refine lv_tableIn (x := nI 66) (off := 259) (tgt := 260) hx hb d_Mo_later_1 (by decide) (by decide) (by decide) (by decide) ?_
    refine lv_ldc (v := nI 163945) hx hb hown (hts _ (List.mem_cons_of_mem _ m_491)) d_Mo_later_260 ?_
    exact W.iret (v := nI 163945) hx hb hr (fun t ht hW => ⟨⟨nI 163945, (), rfl, by decide +kernel, trivial⟩, hS.F ht⟩) hS.2.2 d_Mo_later_262
  | 67, _, _, hl =>
    refine lv_tableIn (x := nI 67) (off := 382) (tgt := 383) hx hb d_Mo_later_1 (by decide) (by decide) (by decide) (by decide) ?_
    refine lv_iconst (v := (-1)) hx hb d_Mo_later_383 (by decide) ?_
    exact W.iret (v := (-1)) hx hb hr (fun t ht hW => ⟨⟨(-1), (), rfl, by decide +kernel, trivial⟩, hS.F ht⟩) hS.2.2 d_Mo_later_384
  | 68, _, _, hl =>
    refine lv_tableIn (x := nI 68) (off := 382) (tgt := 383) hx hb d_Mo_later_1 (by decide) (by decide) (by decide) (by decide) ?_
    refine lv_iconst (v := (-1)) hx hb d_Mo_later_383 (by decide) ?_
    exact W.iret (v := (-1)) hx hb hr (fun t ht hW => ⟨⟨(-1), (), rfl, by decide +kernel, trivial⟩, hS.F ht⟩) hS.2.2 d_Mo_later_384
  | 69, _, _, hl =>
    refine lv_tableIn (x := nI 69) (off := 262) (tgt := 263) hx hb d_Mo_later_1 (by decide) (by decide) (by decide) (by decide) ?_
    refine lv_ldc (v := nI 159849) hx hb hown (hts _ (List.mem_cons_of_mem _ m_492)) d_Mo_later_263 ?_
    exact W.iret (v := nI 159849) hx hb hr (fun t ht hW => ⟨⟨nI 159849, (), rfl, by decide +kernel, trivial⟩, hS.F ht⟩) hS.2.2 d_Mo_later_265
  | 70, _, _, hl =>
    refine lv_tableIn (x := nI 70) (off := 265) (tgt := 266) hx hb d_Mo_later_1 (by decide) (by decide) (by decide) (by decide) ?_
    refine lv_ldc (v := nI 147473) hx hb hown (hts _ (List.mem_cons_of_mem _ m_493)) d_Mo_later_266 ?_
    exact W.iret (v := nI 147473) hx hb hr (fun t ht hW => ⟨⟨nI 147473, (), rfl, by decide +kernel, trivial⟩, hS.F ht⟩) hS.2.2 d_Mo_later_268
  | 71, _, _, hl =>
    refine lv_tableIn (x := nI 71) (off := 268) (tgt := 269) hx hb d_Mo_later_1 (by decide) (by decide) (by decide) (by decide) ?_
    refine lv_ldc (v := nI 133409) hx hb hown (hts _ (List.mem_cons_of_mem _ m_473)) d_Mo_later_269 ?_
    exact W.iret (v := nI 133409) hx hb hr (fun t ht hW => ⟨⟨nI 133409, (), rfl, by decide +kernel, trivial⟩, hS.F ht⟩) hS.2.2 d_Mo_later_271
  | 72, _, _, hl =>
    refine lv_tableIn (x := nI 72) (off := 271) (tgt := 272) hx hb d_Mo_later_1 (by decide) (by decide) (by decide) (by decide) ?_
    refine lv_ldc (v := nI 133410) hx hb hown (hts _ (List.mem_cons_of_mem _ m_468)) d_Mo_later_272 ?_
    exact W.iret (v := nI 133410) hx hb hr (fun t ht hW => ⟨⟨nI 133410, (), rfl, by decide +kernel, trivial⟩, hS.F ht⟩) hS.2.2 d_Mo_later_274
  | 73, _, _, hl =>
    refine lv_tableIn (x := nI 73) (off := 382) (tgt := 383) hx hb d_Mo_later_1 (by decide) (by decide) (by decide) (by decide) ?_
    refine lv_iconst (v := (-1)) hx hb d_Mo_later_383 (by decide) ?_
    exact W.iret (v := (-1)) hx hb hr (fun t ht hW => ⟨⟨(-1), (), rfl, by decide +kernel, trivial⟩, hS.F ht⟩) hS.2.2 d_Mo_later_384
  | 74, _, _, hl =>
    refine lv_tableIn (x := nI 74) (off := 274) (tgt := 275) hx hb d_Mo_later_1 (by decide) (by decide) (by decide) (by decide) ?_
    refine lv_ldc (v := nI 135586) hx hb hown (hts _ (List.mem_cons_of_mem _ m_466)) d_Mo_later_275 ?_
    exact W.iret (v := nI 135586) hx hb hr (fun t ht hW => ⟨⟨nI 135586, (), rfl, by decide +kernel, trivial⟩, hS.F ht⟩) hS.2.2 d_Mo_later_277
  | 75, _, _, hl =>
    refine lv_tableIn (x := nI 75) (off := 277) (tgt := 278) hx hb d_Mo_later_1 (by decide) (by decide) (by decide) (by decide) ?_
    refine lv_ldc (v := nI 147474) hx hb hown (hts _ (List.mem_cons_of_mem _ m_494)) d_Mo_later_278 ?_
    exact W.iret (v := nI 147474) hx hb hr (fun t ht hW => ⟨⟨nI 147474, (), rfl, by decide +kernel, trivial⟩, hS.F ht⟩) hS.2.2 d_Mo_later_280
  | 76, _, _, hl =>
    refine lv_tableIn (x := nI 76) (off := 280) (tgt := 281) hx hb d_Mo_later_1 (by decide) (by decide) (by decide) (by decide) ?_
    refine lv_ldc (v := nI 133410) hx hb hown (hts _ (List.mem_cons_of_mem _ m_468)) d_Mo_later_281 ?_
    exact W.iret (v := nI 133410) hx hb hr (fun t ht hW => ⟨⟨nI 133410, (), rfl, by decide +kernel, trivial⟩, hS.F ht⟩) hS.2.2 d_Mo_later_283
  | 77, _, _, hl =>
    refine lv_tableIn (x := nI 77) (off := 283) (tgt := 284) hx hb d_Mo_later_1 (by decide) (by decide) (by decide) (by decide) ?_
    refine lv_ldc (v := nI 137506) hx hb hown (hts _ (List.mem_cons_of_mem _ m_469)) d_Mo_later_284 ?_
    exact W.iret (v := nI 137506) hx hb hr (fun t ht hW => ⟨⟨nI 137506, (), rfl, by decide +kernel, trivial⟩, hS.F ht⟩) hS.2.2 d_Mo_later_286
  | 78, _, _, hl =>
    refine lv_tableIn (x := nI 78) (off := 382) (tgt := 383) hx hb d_Mo_later_1 (by decide) (by decide) (by decide) (by decide) ?_
    refine lv_iconst (v := (-1)) hx hb d_Mo_later_383 (by decide) ?_
    exact W.iret (v := (-1)) hx hb hr (fun t ht hW => ⟨⟨(-1), (), rfl, by decide +kernel, trivial⟩, hS.F ht⟩) hS.2.2 d_Mo_later_384
  | 79, _, _, hl =>
    refine lv_tableIn (x := nI 79) (off := 286) (tgt := 287) hx hb d_Mo_later_1 (by decide) (by decide) (by decide) (by decide) ?_
    refine lv_ldc (v := nI 131489) hx hb hown (hts _ (List.mem_cons_of_mem _ m_464)) d_Mo_later_287 ?_
    exact W.iret (v := nI 131489) hx hb hr (fun t ht hW => ⟨⟨nI 131489, (), rfl, by decide +kernel, trivial⟩, hS.F ht⟩) hS.2.2 d_Mo_later_289
  | 80, _, _, hl =>
    refine lv_tableIn (x := nI 80) (off := 289) (tgt := 290) hx hb d_Mo_later_1 (by decide) (by decide) (by decide) (by decide) ?_
    refine lv_ldc (v := nI 160424) hx hb hown (hts _ (List.mem_cons_of_mem _ m_495)) d_Mo_later_290 ?_
    exact W.iret (v := nI 160424) hx hb hr (fun t ht hW => ⟨⟨nI 160424, (), rfl, by decide +kernel, trivial⟩, hS.F ht⟩) hS.2.2 d_Mo_later_292
  | 81, _, _, hl =>
    refine lv_tableIn (x := nI 81) (off := 292) (tgt := 293) hx hb d_Mo_later_1 (by decide) (by decide) (by decide) (by decide) ?_
    refine lv_ldc (v := nI 160356) hx hb hown (hts _ (List.mem_cons_of_mem _ m_496)) d_Mo_later_293 ?_
    exact W.iret (v := nI 160356) hx hb hr (fun t ht hW => ⟨⟨nI 160356, (), rfl, by decide +kernel, trivial⟩, hS.F ht⟩) hS.2.2 d_Mo_later_295
  | 82, _, _, hl =>
    refine lv_tableIn (x := nI 82) (off := 295) (tgt := 296) hx hb d_Mo_later_1 (by decide) (by decide) (by decide) (by decide) ?_
    refine lv_ldc (v := nI 133409) hx hb hown (hts _ (List.mem_cons_of_mem _ m_473)) d_Mo_later_296 ?_
    exact W.iret (v := nI 133409) hx hb hr (fun t ht hW => ⟨⟨nI 133409, (), rfl, by decide +kernel, trivial⟩, hS.F ht⟩) hS.2.2 d_Mo_later_298
  | 83, _, _, hl =>
    refine lv_tableIn (x := nI 83) (off := 298) (tgt := 299) hx hb d_Mo_later_1 (by decide) (by decide) (by decide) (by decide) ?_
    refine lv_ldc (v := nI 135208) hx hb hown (hts _ (List.mem_cons_of_mem _ m_497)) d_Mo_later_299 ?_
    exact W.iret (v := nI 135208) hx hb hr (fun t ht hW => ⟨⟨nI 135208, (), rfl, by decide +kernel, trivial⟩, hS.F ht⟩) hS.2.2 d_Mo_later_301
  | 84, _, _, hl =>
    refine lv_tableIn (x := nI 84) (off := 301) (tgt := 302) hx hb d_Mo_later_1 (by decide) (by decide) (by decide) (by decide) ?_
    refine lv_ldc (v := nI 131111) hx hb hown (hts _ (List.mem_cons_of_mem _ m_474)) d_Mo_later_302 ?_
    exact W.iret (v := nI 131111) hx hb hr (fun t ht hW => ⟨⟨nI 131111, (), rfl, by decide +kernel, trivial⟩, hS.F ht⟩) hS.2.2 d_Mo_later_304
  | 85, _, _, hl =>
    refine lv_tableIn (x := nI 85) (off := 304) (tgt := 305) hx hb d_Mo_later_1 (by decide) (by decide) (by decide) (by decide) ?_
    refine lv_ldc (v := nI 160488) hx hb hown (hts _ (List.mem_cons_of_mem _ m_498)) d_Mo_later_305 ?_
    exact W.iret (v := nI 160488) hx hb hr (fun t ht hW => ⟨⟨nI 160488, (), rfl, by decide +kernel, trivial⟩, hS.F ht⟩) hS.2.2 d_Mo_later_307
  | 86, _, _, hl =>
    refine lv_tableIn (x := nI 86) (off := 307) (tgt := 308) hx hb d_Mo_later_1 (by decide) (by decide) (by decide) (by decide) ?_
    refine lv_ldc (v := nI 160356) hx hb hown (hts _ (List.mem_cons_of_mem _ m_496)) d_Mo_later_308 ?_
    exact W.iret (v := nI 160356) hx hb hr (fun t ht hW => ⟨⟨nI 160356, (), rfl, by decide +kernel, trivial⟩, hS.F ht⟩) hS.2.2 d_Mo_later_310
  | 87, _, _, hl =>
    refine lv_tableIn (x := nI 87) (off := 310) (tgt := 311) hx hb d_Mo_later_1 (by decide) (by decide) (by decide) (by decide) ?_
    refine lv_ldc (v := nI 131111) hx hb hown (hts _ (List.mem_cons_of_mem _ m_474)) d_Mo_later_311 ?_
    exact W.iret (v := nI 131111) hx hb hr (fun t ht hW => ⟨⟨nI 131111, (), rfl, by decide +kernel, trivial⟩, hS.F ht⟩) hS.2.2 d_Mo_later_313
  | 88, _, _, hl =>
    refine lv_tableIn (x := nI 88) (off := 313) (tgt := 314) hx hb d_Mo_later_1 (by decide) (by decide) (by decide) (by decide) ?_
    refine lv_ldc (v := nI 133409) hx hb hown (hts _ (List.mem_cons_of_mem _ m_473)) d_Mo_later_314 ?_
    exact W.iret (v := nI 133409) hx hb hr (fun t ht hW => ⟨⟨nI 133409, (), rfl, by decide +kernel, trivial⟩, hS.F ht⟩) hS.2.2 d_Mo_later_316
  | 89, _, _, hl =>
    refine lv_tableIn (x := nI 89) (off := 316) (tgt := 317) hx hb d_Mo_later_1 (by decide) (by decide) (by decide) (by decide) ?_
    refine lv_ldc (v := nI 135208) hx hb hown (hts _ (List.mem_cons_of_mem _ m_497)) d_Mo_later_317 ?_
    exact W.iret (v := nI 135208) hx hb hr (fun t ht hW => ⟨⟨nI 135208, (), rfl, by decide +kernel, trivial⟩, hS.F ht⟩) hS.2.2 d_Mo_later_319
  | 90, _, _, hl =>
    refine lv_tableIn (x := nI 90) (off := 319) (tgt := 320) hx hb d_Mo_later_1 (by decide) (by decide) (by decide) (by decide) ?_
    refine lv_ldc (v := nI 160547) hx hb hown (hts _ (List.mem_cons_of_mem _ m_499)) d_Mo_later_320 ?_
    exact W.iret (v := nI 160547) hx hb hr (fun t ht hW => ⟨⟨nI 160547, (), rfl, by decide +kernel, trivial⟩, hS.F ht⟩) hS.2.2 d_Mo_later_322
  | 91, _, _, hl =>
    refine lv_tableIn (x := nI 91) (off := 322) (tgt := 323) hx hb d_Mo_later_1 (by decide) (by decide) (by decide) (by decide) ?_
    refine lv_ldc (v := nI 160356) hx hb hown (hts _ (List.mem_cons_of_mem _ m_496)) d_Mo_later_323 ?_
    exact W.iret (v := nI 160356) hx hb hr (fun t ht hW => ⟨⟨nI 160356, (), rfl, by decide +kernel, trivial⟩, hS.F ht⟩) hS.2.2 d_Mo_later_325
  | 92, _, _, hl =>
    refine lv_tableIn (x := nI 92) (off := 325) (tgt := 326) hx hb d_Mo_later_1 (by decide) (by decide) (by decide) (by decide) ?_
    refine lv_ldc (v := nI 131111) hx hb hown (hts _ (List.mem_cons_of_mem _ m_474)) d_Mo_later_326 ?_
    exact W.iret (v := nI 131111) hx hb hr (fun t ht hW => ⟨⟨nI 131111, (), rfl, by decide +kernel, trivial⟩, hS.F ht⟩) hS.2.2 d_Mo_later_328
  | 93, _, _, hl =>
    refine lv_tableIn (x := nI 93) (off := 382) (tgt := 383) hx hb d_Mo_later_1 (by decide) (by decide) (by decide) (by decide) ?_
    refine lv_iconst (v := (-1)) hx hb d_Mo_later_383 (by decide) ?_
    exact W.iret (v := (-1)) hx hb hr (fun t ht hW => ⟨⟨(-1), (), rfl, by decide +kernel, trivial⟩, hS.F ht⟩) hS.2.2 d_Mo_later_384
  | 94, _, _, hl =>
    refine lv_tableIn (x := nI 94) (off := 328) (tgt := 329) hx hb d_Mo_later_1 (by decide) (by decide) (by decide) (by decide) ?_
    refine lv_ldc (v := nI 133411) hx hb hown (hts _ (List.mem_cons_of_mem _ m_500)) d_Mo_later_329 ?_
    exact W.iret (v := nI 133411) hx hb hr (fun t ht hW => ⟨⟨nI 133411, (), rfl, by decide +kernel, trivial⟩, hS.F ht⟩) hS.2.2 d_Mo_later_331
  | 95, _, _, hl =>
    refine lv_tableIn (x := nI 95) (off := 331) (tgt := 332) hx hb d_Mo_later_1 (by decide) (by decide) (by decide) (by decide) ?_
    refine lv_ldc (v := nI 160547) hx hb hown (hts _ (List.mem_cons_of_mem _ m_499)) d_Mo_later_332 ?_
    exact W.iret (v := nI 160547) hx hb hr (fun t ht hW => ⟨⟨nI 160547, (), rfl, by decide +kernel, trivial⟩, hS.F ht⟩) hS.2.2 d_Mo_later_334
  | 96, _, _, hl =>
    refine lv_tableIn (x := nI 96) (off := 334) (tgt := 335) hx hb d_Mo_later_1 (by decide) (by decide) (by decide) (by decide) ?_
    refine lv_ldc (v := nI 160356) hx hb hown (hts _ (List.mem_cons_of_mem _ m_496)) d_Mo_later_335 ?_
    exact W.iret (v := nI 160356) hx hb hr (fun t ht hW => ⟨⟨nI 160356, (), rfl, by decide +kernel, trivial⟩, hS.F ht⟩) hS.2.2 d_Mo_later_337
  | 97, _, _, hl =>
    refine lv_tableIn (x := nI 97) (off := 337) (tgt := 338) hx hb d_Mo_later_1 (by decide) (by decide) (by decide) (by decide) ?_
    refine lv_ldc (v := nI 133411) hx hb hown (hts _ (List.mem_cons_of_mem _ m_500)) d_Mo_later_338 ?_
    exact W.iret (v := nI 133411) hx hb hr (fun t ht hW => ⟨⟨nI 133411, (), rfl, by decide +kernel, trivial⟩, hS.F ht⟩) hS.2.2 d_Mo_later_340
  | 98, _, _, hl =>
    refine lv_tableIn (x := nI 98) (off := 382) (tgt := 383) hx hb d_Mo_later_1 (by decide) (by decide) (by decide) (by decide) ?_
    refine lv_iconst (v := (-1)) hx hb d_Mo_later_383 (by decide) ?_
    exact W.iret (v := (-1)) hx hb hr (fun t ht hW => ⟨⟨(-1), (), rfl, by decide +kernel, trivial⟩, hS.F ht⟩) hS.2.2 d_Mo_later_384
  | 99, _, _, hl =>
    refine lv_tableIn (x := nI 99) (off := 340) (tgt := 341) hx hb d_Mo_later_1 (by decide) (by decide) (by decide) (by decide) ?_
    refine lv_ldc (v := nI 131111) hx hb hown (hts _ (List.mem_cons_of_mem _ m_474)) d_Mo_later_341 ?_
    exact W.iret (v := nI 131111) hx hb hr (fun t ht hW => ⟨⟨nI 131111, (), rfl, by decide +kernel, trivial⟩, hS.F ht⟩) hS.2.2 d_Mo_later_343
  | 100, _, _, hl =>
    refine lv_tableIn (x := nI 100) (off := 343) (tgt := 344) hx hb d_Mo_later_1 (by decide) (by decide) (by decide) (by decide) ?_
    refine lv_ldc (v := nI 148325) hx hb hown (hts _ (List.mem_cons_of_mem _ m_501)) d_Mo_later_344 ?_
    exact W.iret (v := nI 148325) hx hb hr (fun t ht hW => ⟨⟨nI 148325, (), rfl, by decide +kernel, trivial⟩, hS.F ht⟩) hS.2.2 d_Mo_later_346
  | 101, _, _, hl =>
    refine lv_tableIn (x := nI 101) (off := 346) (tgt := 347) hx hb d_Mo_later_1 (by decide) (by decide) (by decide) (by decide) ?_
    refine lv_ldc (v := nI 148390) hx hb hown (hts _ (List.mem_cons_of_mem _ m_502)) d_Mo_later_347 ?_
    exact W.iret (v := nI 148390) hx hb hr (fun t ht hW => ⟨⟨nI 148390, (), rfl, by decide +kernel, trivial⟩, hS.F ht⟩) hS.2.2 d_Mo_later_349
  | 102, _, _, hl =>
    refine lv_tableIn (x := nI 102) (off := 349) (tgt := 350) hx hb d_Mo_later_1 (by decide) (by decide) (by decide) (by decide) ?_
    refine lv_ldc (v := nI 133473) hx hb hown (hts _ (List.mem_cons_of_mem _ m_482)) d_Mo_later_350 ?_
    exact W.iret (v := nI 133473) hx hb hr (fun t ht hW => ⟨⟨nI 133473, (), rfl, by decide +kernel, trivial⟩, hS.F ht⟩) hS.2.2 d_Mo_later_352
  | 103, _, _, hl =>
    refine lv_tableIn (x := nI 103) (off := 352) (tgt := 353) hx hb d_Mo_later_1 (by decide) (by decide) (by decide) (by decide) ?_
    refine lv_ldc (v := nI 137634) hx hb hown (hts _ (List.mem_cons_of_mem _ m_503)) d_Mo_later_353 ?_
    exact W.iret (v := nI 137634) hx hb hr (fun t ht hW => ⟨⟨nI 137634, (), rfl, by decide +kernel, trivial⟩, hS.F ht⟩) hS.2.2 d_Mo_later_355
  | 104, _, _, hl =>
    refine lv_tableIn (x := nI 104) (off := 355) (tgt := 356) hx hb d_Mo_later_1 (by decide) (by decide) (by decide) (by decide) ?_
    refine lv_ldc (v := nI 133410) hx hb hown (hts _ (List.mem_cons_of_mem _ m_468)) d_Mo_later_356 ?_
    exact W.iret (v := nI 133410) hx hb hr (fun t ht hW => ⟨⟨nI 133410, (), rfl, by decide +kernel, trivial⟩, hS.F ht⟩) hS.2.2 d_Mo_later_358
  | 105, _, _, hl =>
    refine lv_tableIn (x := nI 105) (off := 358) (tgt := 359) hx hb d_Mo_later_1 (by decide) (by decide) (by decide) (by decide) ?_
    refine lv_ldc (v := nI 131489) hx hb hown (hts _ (List.mem_cons_of_mem _ m_464)) d_Mo_later_359 ?_
    exact W.iret (v := nI 131489) hx hb hr (fun t ht hW => ⟨⟨nI 131489, (), rfl, by decide +kernel, trivial⟩, hS.F ht⟩) hS.2.2 d_Mo_later_361
  | 106, _, _, hl =>
    refine lv_tableIn (x := nI 106) (off := 361) (tgt := 362) hx hb d_Mo_later_1 (by decide) (by decide) (by decide) (by decide) ?_
    refine lv_ldc (v := nI 131553) hx hb hown (hts _ (List.mem_cons_of_mem _ m_504)) d_Mo_later_362 ?_
    exact W.iret (v := nI 131553) hx hb hr (fun t ht hW => ⟨⟨nI 131553, (), rfl, by decide +kernel, trivial⟩, hS.F ht⟩) hS.2.2 d_Mo_later_364
  | 107, _, _, hl =>
    refine lv_tableIn (x := nI 107) (off := 382) (tgt := 383) hx hb d_Mo_later_1 (by decide) (by decide) (by decide) (by decide) ?_
    refine lv_iconst (v := (-1)) hx hb d_Mo_later_383 (by decide) ?_
    exact W.iret (v := (-1)) hx hb hr (fun t ht hW => ⟨⟨(-1), (), rfl, by decide +kernel, trivial⟩, hS.F ht⟩) hS.2.2 d_Mo_later_384
  | 108, _, _, hl =>
    refine lv_tableIn (x := nI 108) (off := 382) (tgt := 383) hx hb d_Mo_later_1 (by decide) (by decide) (by decide) (by decide) ?_
    refine lv_iconst (v := (-1)) hx hb d_Mo_later_383 (by decide) ?_
    exact W.iret (v := (-1)) hx hb hr (fun t ht hW => ⟨⟨(-1), (), rfl, by decide +kernel, trivial⟩, hS.F ht⟩) hS.2.2 d_Mo_later_384
  | 109, _, _, hl =>
    refine lv_tableIn (x := nI 109) (off := 382) (tgt := 383) hx hb d_Mo_later_1 (by decide) (by decide) (by decide) (by decide) ?_
    refine lv_iconst (v := (-1)) hx hb d_Mo_later_383 (by decide) ?_
    exact W.iret (v := (-1)) hx hb hr (fun t ht hW => ⟨⟨(-1), (), rfl, by decide +kernel, trivial⟩, hS.F ht⟩) hS.2.2 d_Mo_later_384
  | 110, _, _, hl =>
    refine lv_tableIn (x := nI 110) (off := 364) (tgt := 365) hx hb d_Mo_later_1 (by decide) (by decide) (by decide) (by decide) ?_
    refine lv_ldc (v := nI 160296) hx hb hown (hts _ (List.mem_cons_of_mem _ m_505)) d_Mo_later_365 ?_
    exact W.iret (v := nI 160296) hx hb hr (fun t ht hW => ⟨⟨nI 160296, (), rfl, by decide +kernel, trivial⟩, hS.F ht⟩) hS.2.2 d_Mo_later_367
  | 111, _, _, hl =>
    refine lv_tableIn (x := nI 111) (off := 367) (tgt := 368) hx hb d_Mo_later_1 (by decide) (by decide) (by decide) (by decide) ?_
    refine lv_ldc (v := nI 131111) hx hb hown (hts _ (List.mem_cons_of_mem _ m_474)) d_Mo_later_368 ?_
    exact W.iret (v := nI 131111) hx hb hr (fun t ht hW => ⟨⟨nI 131111, (), rfl, by decide +kernel, trivial⟩, hS.F ht⟩) hS.2.2 d_Mo_later_370
  | 112, _, _, hl =>
    refine lv_tableIn (x := nI 112) (off := 370) (tgt := 371) hx hb d_Mo_later_1 (by decide) (by decide) (by decide) (by decide) ?_
    refine lv_ldc (v := nI 131112) hx hb hown (hts _ (List.mem_cons_of_mem _ m_490)) d_Mo_later_371 ?_
    exact W.iret (v := nI 131112) hx hb hr (fun t ht hW => ⟨⟨nI 131112, (), rfl, by decide +kernel, trivial⟩, hS.F ht⟩) hS.2.2 d_Mo_later_373
  | 113, _, _, hl =>
    refine lv_tableIn (x := nI 113) (off := 382) (tgt := 383) hx hb d_Mo_later_1 (by decide) (by decide) (by decide) (by decide) ?_
    refine lv_iconst (v := (-1)) hx hb d_Mo_later_383 (by decide) ?_
    exact W.iret (v := (-1)) hx hb hr (fun t ht hW => ⟨⟨(-1), (), rfl, by decide +kernel, trivial⟩, hS.F ht⟩) hS.2.2 d_Mo_later_384
  | 114, _, _, hl =>
    refine lv_tableIn (x := nI 114) (off := 382) (tgt := 383) hx hb d_Mo_later_1 (by decide) (by decide) (by decide) (by decide) ?_
    refine lv_iconst (v := (-1)) hx hb d_Mo_later_383 (by decide) ?_
    exact W.iret (v := (-1)) hx hb hr (fun t ht hW => ⟨⟨(-1), (), rfl, by decide +kernel, trivial⟩, hS.F ht⟩) hS.2.2 d_Mo_later_384
  | 115, _, _, hl =>
    refine lv_tableIn (x := nI 115) (off := 373) (tgt := 374) hx hb d_Mo_later_1 (by decide) (by decide) (by decide) (by decide) ?_
    refine lv_ldc (v := nI 148709) hx hb hown (hts _ (List.mem_cons_of_mem _ m_506)) d_Mo_later_374 ?_
    exact W.iret (v := nI 148709) hx hb hr (fun t ht hW => ⟨⟨nI 148709, (), rfl, by decide +kernel, trivial⟩, hS.F ht⟩) hS.2.2 d_Mo_later_376
  | 116, _, _, hl =>
    refine lv_tableIn (x := nI 116) (off := 376) (tgt := 377) hx hb d_Mo_later_1 (by decide) (by decide) (by decide) (by decide) ?_
    refine lv_ldc (v := nI 133409) hx hb hown (hts _ (List.mem_cons_of_mem _ m_473)) d_Mo_later_377 ?_
    exact W.iret (v := nI 133409) hx hb hr (fun t ht hW => ⟨⟨nI 133409, (), rfl, by decide +kernel, trivial⟩, hS.F ht⟩) hS.2.2 d_Mo_later_379
  | 117, _, _, hl =>
    refine lv_tableIn (x := nI 117) (off := 379) (tgt := 380) hx hb d_Mo_later_1 (by decide) (by decide) (by decide) (by decide) ?_
    refine lv_ldc (v := nI 133473) hx hb hown (hts _ (List.mem_cons_of_mem _ m_482)) d_Mo_later_380 ?_
    exact W.iret (v := nI 133473) hx hb hr (fun t ht hW => ⟨⟨nI 133473, (), rfl, by decide +kernel, trivial⟩, hS.F ht⟩) hS.2.2 d_Mo_later_382
  | 118, _, _, hl =>
    refine lv_tableOut (x := nI 118) (tgt := 383) hx hb d_Mo_later_1 (by decide) (by decide) ?_
    refine lv_iconst (v := (-1)) hx hb d_Mo_later_383 (by decide) ?_
    exact W.iret (v := (-1)) hx hb hr (fun t ht hW => ⟨⟨(-1), (), rfl, by decide +kernel, trivial⟩, hS.F ht⟩) hS.2.2 d_Mo_later_384
  | 119, _, _, hl =>
    refine lv_tableOut (x := nI 119) (tgt := 383) hx hb d_Mo_later_1 (by decide) (by decide) ?_
    refine lv_iconst (v := (-1)) hx hb d_Mo_later_383 (by decide) ?_
    exact W.iret (v := (-1)) hx hb hr (fun t ht hW => ⟨⟨(-1), (), rfl, by decide +kernel, trivial⟩, hS.F ht⟩) hS.2.2 d_Mo_later_384
  | q + 120, h, _, _ => exact absurd h (by omega)

set_option maxHeartbeats 4000000 in
set_option maxRecDepth 100000 in
theorem c_Mo_pattern (l : Launch) (q : Nat) (hq : q < 120) : Met l y_Mo_pattern (w_ y_Mo_pattern b_Mo_pattern 1 (some .int)) (rm_ 1) (va_Pc [.int (nI q)] (fun U => True)) (va_Qi (fun (z9 : Int32) (_ : Unit) => z9 = rp_tab.getD q (-1)) (fun _ _ => True) (fun _ => False)) 0 0 (fun _ => False) := by
  refine Met.ofW (cc := b_Mo_pattern) (maxL := 1) (ret := (some .int)) (by decide) rfl ?_
  intro p e s m args below meth c s₁ B hml hv
  obtain ⟨rfl, -⟩ := hv
  have hx := B.exec
  have hb := B.bytes
  have hr := B.returns
  have hts := atoms_spec (ws := (w_ y_Mo_pattern b_Mo_pattern 1 (some .int))) B.pre
  have hown : s.vm.findClass R_Mo = some m.cls := findClass_of_methodNamed B.named
  have hlocks := B.notSynchronized
  have hS : va_S (fun _ => False) s.heap s.heap [] := va_S.rf
  have hl := lv_entry ([.int (nI q)]) (n := 1) (Nat.le_of_ble_eq_true rfl)
  rw [lg_entry_eq]
  generalize (lg_sl ([.int (nI q)]) ++ List.replicate (1 - (lg_sl ([.int (nI q)])).length) Slot.unset).toArray = ls at hl ⊢
  have hl : lv_has ls 1 [(0, .int (nI q))] := hl
  refine lv_iload_n hx hb d_Mo_pattern_0 rfl (lv_at hl 0 rfl) ?_
  refine lv_bipush (v := nI 60) hx hb d_Mo_pattern_1 (by decide) ?_
  refine rv_icmp_ge (tgt := 13) hx hb d_Mo_pattern_3 (by decide) (by omega) (by omega) (fun c_3 => ?_) (fun c_3 => ?_)
  · refine lv_iload_n hx hb d_Mo_pattern_13 rfl (lv_at hl 0 rfl) ?_
    refine rv_calli (r := rp_tab.getD q (-1)) (va_runS (As := [.int (nI q)]) (rest := []) ⟨hx, hb, hml, hown, hts⟩ (c_Mo_later l q (by omega) (by omega)) (va_cwS 1 hts (rg_S (rg3 m_486 m_487 m_6) k_Mo_later) rfl rfl rfl (by decide +kernel) ⟨Nat.le_of_ble_eq_true rfl, Nat.le_of_ble_eq_true rfl⟩) ⟨fun _ _ _ _ q => q, fun U hU hW => ⟨rfl, trivial⟩⟩ rfl rfl hl.1 rfl (lv_room (Nat.le_of_ble_eq_true rfl)) d_Mo_pattern_14 ⟨Nat.zero_le _, Nat.zero_le _⟩) hS (fun _ h => h.elim) (fun H locs hk hS => ?_)
    exact W.iret (v := rp_tab.getD q (-1)) hx hb hr (fun t ht hW => ⟨⟨rp_tab.getD q (-1), (), rfl, rfl, trivial⟩, hS.F ht⟩) hS.2.2 d_Mo_pattern_17
  · refine lv_iload_n hx hb d_Mo_pattern_6 rfl (lv_at hl 0 rfl) ?_
    refine rv_calli (r := rp_tab.getD q (-1)) (va_runS (As := [.int (nI q)]) (rest := []) ⟨hx, hb, hml, hown, hts⟩ (c_Mo_early l q (by omega)) (va_cwS 1 hts (rg_S (rg3 m_461 m_462 m_6) k_Mo_early) rfl rfl rfl (by decide +kernel) ⟨Nat.le_of_ble_eq_true rfl, Nat.le_of_ble_eq_true rfl⟩) ⟨fun _ _ _ _ q => q, fun U hU hW => ⟨rfl, trivial⟩⟩ rfl rfl hl.1 rfl (lv_room (Nat.le_of_ble_eq_true rfl)) d_Mo_pattern_7 ⟨Nat.zero_le _, Nat.zero_le _⟩) hS (fun _ h => h.elim) (fun H locs hk hS => ?_)
    refine lv_goto (tgt := 17) hx hb d_Mo_pattern_10 (by decide) ?_
    exact W.iret (v := rp_tab.getD q (-1)) hx hb hr (fun t ht hW => ⟨⟨rp_tab.getD q (-1), (), rfl, rfl, trivial⟩, hS.F ht⟩) hS.2.2 d_Mo_pattern_17

set_option maxHeartbeats 4000000 in
set_option maxRecDepth 100000 in
theorem c_Mo_premises (l : Launch) (r : Nat) (hr0 : r < 24) : Met l y_Mo_premises (w_ y_Mo_premises b_Mo_premises 3 (some .int)) (rm_ 2) (va_Pc [.int (nI r)] (fun U => True)) (va_Qi (fun (z9 : Int32) (_ : Unit) => z9 = nI (rq_cnts.getD r 0)) (fun _ _ => True) (fun _ => False)) 0 0 (fun _ => False) := by
  refine Met.ofW (cc := b_Mo_premises) (maxL := 3) (ret := (some .int)) (by decide) rfl ?_
  intro p e s m args below meth c s₁ B hml hv
  obtain ⟨rfl, -⟩ := hv
  have hx := B.exec
  have hb := B.bytes
  have hr := B.returns
  have hts := atoms_spec (ws := (w_ y_Mo_premises b_Mo_premises 3 (some .int))) B.pre
  have hown : s.vm.findClass R_Mo = some m.cls := findClass_of_methodNamed B.named
  have hlocks := B.notSynchronized
  have hS : va_S (fun _ => False) s.heap s.heap [] := va_S.rf
  have hl := lv_entry ([.int (nI r)]) (n := 3) (Nat.le_of_ble_eq_true rfl)
  rw [lg_entry_eq]
  generalize (lg_sl ([.int (nI r)]) ++ List.replicate (3 - (lg_sl ([.int (nI r)])).length) Slot.unset).toArray = ls at hl ⊢
  have hl : lv_has ls 3 [(0, .int (nI r))] := hl
  refine lv_iconst (v := nI 0) hx hb d_Mo_premises_0 (by decide) ?_
  refine lv_istore_n (lv' := [(1, .int (nI 0)), (0, .int (nI r))]) hx hb d_Mo_premises_1 rfl hl (by decide) rfl (fun ls hl => ?_)
  refine lv_iconst (v := nI 0) hx hb d_Mo_premises_2 (by decide) ?_
  refine lv_istore_n (lv' := [(2, .int (nI 0)), (1, .int (nI 0)), (0, .int (nI r))]) hx hb d_Mo_premises_3 rfl hl (by decide) rfl (fun ls hl => ?_)
  have hl : lv_has ls 3 [(2, .int (nI 0)), (1, .int (nI (min 0 (rq_cnts.getD r 0)))), (0, .int (nI r))] := by rw [Nat.zero_min]; exact hl
  refine rv_Q (fun Q hQ => ?_)
  have lp : ∀ (n : Nat) (k : Nat) (H : Heap) (locs : List Loc) (ls : Array Slot), k + n = 4 → va_S (fun _ => False) s.heap H locs → lv_has ls 3 [(2, .int (nI k)), (1, .int (nI (min k (rq_cnts.getD r 0)))), (0, .int (nI r))] → W p l e (headSpec (w_ y_Mo_premises b_Mo_premises 3 (some .int)) (rm_ 2)).room s m ([.int (nI r)] : List Value).toArray below meth c H locs 0 0 Q (F0 m 4 ls []) := by
    intro n
    induction n with
    | zero =>
      intro k H locs ls hn hS hl
      have hk4 : k = 4 := by omega
      refine lv_iload_n hx hb d_Mo_premises_4 rfl (lv_at hl 0 rfl) ?_
      refine lv_iconst (v := nI 4) hx hb d_Mo_premises_5 (by decide) ?_
      refine rv_icmp_ge (tgt := 34) hx hb d_Mo_premises_6 (by decide) (by omega) (by omega) (fun c_6 => ?_) (fun c_6 => absurd c_6 (by omega))
      refine lv_iload_n hx hb d_Mo_premises_34 rfl (lv_at hl 1 rfl) ?_
      subst hQ
      exact W.iret (v := nI (min k (rq_cnts.getD r 0))) hx hb hr (fun t ht hW => ⟨⟨nI (min k (rq_cnts.getD r 0)), (), rfl, congrArg nI (by have := rq_cnts_le r hr0; omega), trivial⟩, hS.F ht⟩) hS.2.2 d_Mo_premises_35
    | succ n ih =>
      intro k H locs ls hn hS hl
      have hneg := rp_neg r hr0 k (by omega)
      refine lv_iload_n hx hb d_Mo_premises_4 rfl (lv_at hl 0 rfl) ?_
      refine lv_iconst (v := nI 4) hx hb d_Mo_premises_5 (by decide) ?_
      refine rv_icmp_ge (tgt := 34) hx hb d_Mo_premises_6 (by decide) (by omega) (by omega) (fun c_6 => absurd c_6 (by omega)) (fun c_6 => ?_)
      refine lv_iload_n hx hb d_Mo_premises_9 rfl (lv_at hl 1 rfl) ?_
      refine lv_iconst (v := nI 5) hx hb d_Mo_premises_10 (by decide) ?_
      refine lv_iload_n hx hb d_Mo_premises_11 rfl (lv_at hl 2 rfl) ?_
      refine rv_imul hx hb d_Mo_premises_12 ?_
      refine lv_iload_n hx hb d_Mo_premises_13 rfl (lv_at hl 0 rfl) ?_
      refine rv_iadd hx hb d_Mo_premises_14 ?_
      refine rv_calli (r := rp_tab.getD ((5 * r) + k) (-1)) (va_runS (As := [.int (nI ((5 * r) + k))]) (rest := [.int (nI (min k (rq_cnts.getD r 0)))]) ⟨hx, hb, hml, hown, hts⟩ (c_Mo_pattern l ((5 * r) + k) (by omega)) (va_cwS 1 hts (rg_S (rg3 m_458 m_459 m_6) k_Mo_pattern) rfl rfl rfl (by decide +kernel) ⟨Nat.le_of_ble_eq_true rfl, Nat.le_of_ble_eq_true rfl⟩) ⟨fun _ _ _ _ q => q, fun U hU hW => ⟨rfl, trivial⟩⟩ rfl rfl hl.1 rfl (lv_room (Nat.le_of_ble_eq_true rfl)) d_Mo_premises_15 ⟨Nat.zero_le _, Nat.zero_le _⟩) hS (fun _ h => h.elim) (fun H locs hk hS => ?_)
      refine lv_if_lt (tgt := 25) hx hb d_Mo_premises_18 (by decide) (fun c_18 => ?_) (fun c_18 => ?_)
      · refine lv_iconst (v := nI 0) hx hb d_Mo_premises_25 (by decide) ?_
        refine rv_iadd hx hb d_Mo_premises_26 ?_
        refine rv_eq (y := nI (min (k + 1) (rq_cnts.getD r 0))) (congrArg nI (by have := hneg.mp c_18; omega)) ?_
        refine lv_istore_n (lv' := [(1, .int (nI (min (k + 1) (rq_cnts.getD r 0)))), (2, .int (nI k)), (0, .int (nI r))]) hx hb d_Mo_premises_27 rfl hl (by decide) rfl (fun ls hl => ?_)
        refine rv_inc (k := 1) (lv' := [(2, .int (nI (k + 1))), (1, .int (nI (min (k + 1) (rq_cnts.getD r 0)))), (0, .int (nI r))]) hx hb d_Mo_premises_28 hl rfl (by decide) rfl (fun ls hl => ?_)
        refine lv_goto (tgt := 4) hx hb d_Mo_premises_31 (by decide) ?_
        exact ih (k + 1) _ _ _ (by omega) hS (lv_sub hl [0, 1, 2] rfl)
      · refine lv_iconst (v := nI 1) hx hb d_Mo_premises_21 (by decide) ?_
        refine lv_goto (tgt := 26) hx hb d_Mo_premises_22 (by decide) ?_
        refine rv_iadd hx hb d_Mo_premises_26 ?_
        refine rv_eq (y := nI (min (k + 1) (rq_cnts.getD r 0))) (congrArg nI (by have : ¬ rq_cnts.getD r 0 ≤ k := fun h => c_18 (hneg.mpr h); omega)) ?_
        refine lv_istore_n (lv' := [(1, .int (nI (min (k + 1) (rq_cnts.getD r 0)))), (2, .int (nI k)), (0, .int (nI r))]) hx hb d_Mo_premises_27 rfl hl (by decide) rfl (fun ls hl => ?_)
        refine rv_inc (k := 1) (lv' := [(2, .int (nI (k + 1))), (1, .int (nI (min (k + 1) (rq_cnts.getD r 0)))), (0, .int (nI r))]) hx hb d_Mo_premises_28 hl rfl (by decide) rfl (fun ls hl => ?_)
        refine lv_goto (tgt := 4) hx hb d_Mo_premises_31 (by decide) ?_
        exact ih (k + 1) _ _ _ (by omega) hS (lv_sub hl [0, 1, 2] rfl)
  exact lp 4 0 _ _ _ (by omega) hS (lv_sub hl [0, 1, 2] rfl)

theorem mi_free {j : Nat} (h : j < 48) : nI 0 = rlf rt_free j := by
  have h2 : ∀ j, j < 48 → nI 0 = rlf rt_free j := by decide +kernel
  exact h2 j h

set_option maxHeartbeats 4000000 in
set_option maxRecDepth 100000 in
theorem c_Mo_begin (l : Launch) (dC : Nat → ClassId) (dI : Nat → Nat → Nat) (dA dZ : ClassId) (m0 aS aO aR aC aH aA aL aB scn gr mn r : Nat) (kn lg : Bool) (r1 : Nat) (lvx : Int32) (a : Nat → Nat) (lf bf : Nat → Int32) (sz : Nat) : Met l y_Mo_begin (w_ y_Mo_begin b_Mo_begin 3 none) (rm_ 0) (va_Pc [.ref m0, .int (nI r1)] (fun U => U.heap.size = sz ∧ va_P (dC, dI) classes [(m0, .inr (4, [.ref aS, .int (nI scn), .ref aO, .int (rb_z kn), .int (rb_z lg), .int (nI gr), .ref aR, .ref aC, .ref aH, .int (nI mn), .ref aA, .ref aL, .ref aB, .int lvx, .int (nI r)])), (aA, .inl (dA, 4, .inl (raf a))), (aL, .inl (dA, 48, .inl lf)), (aB, .inl (dA, 12, .inl bf))] U.heap ∧ va_K (dC, dI) classes [(dA, .int), (dZ, .boolean)] U ∧ va_D (fun _ => True) [(m0, .inr (4, [.ref aS, .int (nI scn), .ref aO, .int (rb_z kn), .int (rb_z lg), .int (nI gr), .ref aR, .ref aC, .ref aH, .int (nI mn), .ref aA, .ref aL, .ref aB, .int lvx, .int (nI r)])), (aA, .inl (dA, 4, .inl (raf a))), (aL, .inl (dA, 48, .inl lf)), (aB, .inl (dA, 12, .inl bf))])) (va_Qv (fun (_ : Unit) => True) (fun (_ : Unit) t => va_P (dC, dI) classes [(m0, .inr (4, [.ref aS, .int (nI scn), .ref aO, .int (rb_z kn), .int (rb_z lg), .int (nI gr), .ref aR, .ref aC, .ref aH, .int (nI mn), .ref aA, .ref aL, .ref aB, .int (nI 1 - 1), .int (nI r1)])), (aA, .inl (dA, 4, .inl (raf (ua a 0 0)))), (aL, .inl (dA, 48, .inl (rlf rt_free))), (aB, .inl (dA, 12, .inl (rnf (fun _ => 0))))] t.heap ∧ va_D (va_A [(m0, .inr (4, [.ref aS, .int (nI scn), .ref aO, .int (rb_z kn), .int (rb_z lg), .int (nI gr), .ref aR, .ref aC, .ref aH, .int (nI mn), .ref aA, .ref aL, .ref aB, .int lvx, .int (nI r)])), (aA, .inl (dA, 4, .inl (raf a))), (aL, .inl (dA, 48, .inl lf)), (aB, .inl (dA, 12, .inl bf))] sz) [(m0, .inr (4, [.ref aS, .int (nI scn), .ref aO, .int (rb_z kn), .int (rb_z lg), .int (nI gr), .ref aR, .ref aC, .ref aH, .int (nI mn), .ref aA, .ref aL, .ref aB, .int (nI 1 - 1), .int (nI r1)])), (aA, .inl (dA, 4, .inl (raf (ua a 0 0)))), (aL, .inl (dA, 48, .inl (rlf rt_free))), (aB, .inl (dA, 12, .inl (rnf (fun _ => 0))))]) (va_A [(m0, .inr (4, [.ref aS, .int (nI scn), .ref aO, .int (rb_z kn), .int (rb_z lg), .int (nI gr), .ref aR, .ref aC, .ref aH, .int (nI mn), .ref aA, .ref aL, .ref aB, .int lvx, .int (nI r)])), (aA, .inl (dA, 4, .inl (raf a))), (aL, .inl (dA, 48, .inl lf)), (aB, .inl (dA, 12, .inl bf))] sz)) 0 0 (va_A [(m0, .inr (4, [.ref aS, .int (nI scn), .ref aO, .int (rb_z kn), .int (rb_z lg), .int (nI gr), .ref aR, .ref aC, .ref aH, .int (nI mn), .ref aA, .ref aL, .ref aB, .int lvx, .int (nI r)])), (aA, .inl (dA, 4, .inl (raf a))), (aL, .inl (dA, 48, .inl lf)), (aB, .inl (dA, 12, .inl bf))] sz) := by
  refine Met.ofW (cc := b_Mo_begin) (maxL := 3) (ret := none) (by decide) rfl ?_
  intro p e s m args below meth c s₁ B hml hv
  obtain ⟨rfl, hsz, hP, hK, hD0⟩ := hv
  have hx := B.exec
  have hb := B.bytes
  have hr := B.returns
  have hts := atoms_spec (ws := (w_ y_Mo_begin b_Mo_begin 3 none)) B.pre
  have hown : s.vm.findClass R_Mo = some m.cls := findClass_of_methodNamed B.named
  have hlocks := B.notSynchronized
  subst hsz
  have hD := hD0.self (sz := s.heap.size)
  generalize hAe : va_A [(m0, .inr (4, [.ref aS, .int (nI scn), .ref aO, .int (rb_z kn), .int (rb_z lg), .int (nI gr), .ref aR, .ref aC, .ref aH, .int (nI mn), .ref aA, .ref aL, .ref aB, .int lvx, .int (nI r)])), (aA, .inl (dA, 4, .inl (raf a))), (aL, .inl (dA, 48, .inl lf)), (aB, .inl (dA, 12, .inl bf))] s.heap.size = A at hD ⊢
  have hA : ∀ q : Nat, s.heap.size ≤ q → A q := fun q h => by rw [← hAe]; exact Or.inr h
  have hS : va_S A s.heap s.heap [] := va_S.rf
  have hl := lv_entry ([.ref m0, .int (nI r1)]) (n := 3) (Nat.le_of_ble_eq_true rfl)
  rw [lg_entry_eq]
  generalize (lg_sl ([.ref m0, .int (nI r1)]) ++ List.replicate (3 - (lg_sl ([.ref m0, .int (nI r1)])).length) Slot.unset).toArray = ls at hl ⊢
  have hl : lv_has ls 3 [(0, .ref m0), (1, .int (nI r1))] := hl
  refine lv_aload_n hx hb d_Mo_begin_0 rfl (lv_at hl 0 rfl) ?_
  refine lv_iload_n hx hb d_Mo_begin_1 rfl (lv_at hl 1 rfl) ?_
  refine va_put (D := (dC, dI)) (ci := 4) (v := .int (nI r1)) (ty := .int) (C := R_Mo) (T := F_Mo) (N := 15) hx hb hts (rg_c i_Mo) t_Mo t_Mo_ok n_Mo hown hK hP hD hS 0 rfl rfl 14 (by decide) (hts _ (List.mem_cons_of_mem _ m_381)) (fun _ h9 => h9) rfl (by decide +kernel) (by rfl) (by rfl) (Nat.le_of_ble_eq_true rfl) d_Mo_begin_2 (fun H locs hP hD hS => ?_)
  have hP : va_P (dC, dI) classes [(m0, .inr (4, [.ref aS, .int (nI scn), .ref aO, .int (rb_z kn), .int (rb_z lg), .int (nI gr), .ref aR, .ref aC, .ref aH, .int (nI mn), .ref aA, .ref aL, .ref aB, .int lvx, .int (nI r1)])), (aA, .inl (dA, 4, .inl (raf a))), (aL, .inl (dA, 48, .inl lf)), (aB, .inl (dA, 12, .inl bf))] H := hP
  have hD : va_D A [(m0, .inr (4, [.ref aS, .int (nI scn), .ref aO, .int (rb_z kn), .int (rb_z lg), .int (nI gr), .ref aR, .ref aC, .ref aH, .int (nI mn), .ref aA, .ref aL, .ref aB, .int lvx, .int (nI r1)])), (aA, .inl (dA, 4, .inl (raf a))), (aL, .inl (dA, 48, .inl lf)), (aB, .inl (dA, 12, .inl bf))] := hD
  refine lv_aload_n hx hb d_Mo_begin_5 rfl (lv_at hl 0 rfl) ?_
  refine lv_iconst (v := nI 0) hx hb d_Mo_begin_6 (by decide) ?_
  refine va_put (D := (dC, dI)) (ci := 4) (v := .int (nI 0)) (ty := .int) (C := R_Mo) (T := F_Mo) (N := 15) hx hb hts (rg_c i_Mo) t_Mo t_Mo_ok n_Mo hown hK hP hD hS 0 rfl rfl 13 (by decide) (hts _ (List.mem_cons_of_mem _ m_380)) (fun _ h9 => h9) rfl (by decide +kernel) (by rfl) (by rfl) (Nat.le_of_ble_eq_true rfl) d_Mo_begin_7 (fun H locs hP hD hS => ?_)
  have hP : va_P (dC, dI) classes [(m0, .inr (4, [.ref aS, .int (nI scn), .ref aO, .int (rb_z kn), .int (rb_z lg), .int (nI gr), .ref aR, .ref aC, .ref aH, .int (nI mn), .ref aA, .ref aL, .ref aB, .int (nI 0), .int (nI r1)])), (aA, .inl (dA, 4, .inl (raf a))), (aL, .inl (dA, 48, .inl lf)), (aB, .inl (dA, 12, .inl bf))] H := hP
  have hD : va_D A [(m0, .inr (4, [.ref aS, .int (nI scn), .ref aO, .int (rb_z kn), .int (rb_z lg), .int (nI gr), .ref aR, .ref aC, .ref aH, .int (nI mn), .ref aA, .ref aL, .ref aB, .int (nI 0), .int (nI r1)])), (aA, .inl (dA, 4, .inl (raf a))), (aL, .inl (dA, 48, .inl lf)), (aB, .inl (dA, 12, .inl bf))] := hD
  refine lv_aload_n hx hb d_Mo_begin_10 rfl (lv_at hl 0 rfl) ?_
  refine va_get (D := (dC, dI)) (ci := 4) (v := .ref aA) (C := R_Mo) (T := F_Mo) (N := 15) hx hb hts (rg_c i_Mo) hown hK hP 0 rfl rfl 10 (by decide) (hts _ (List.mem_cons_of_mem _ m_377)) (fun _ h9 => h9) rfl d_Mo_begin_11 ?_
  refine lv_iconst (v := nI 0) hx hb d_Mo_begin_14 (by decide) ?_
  refine lv_iconst (v := (-1)) hx hb d_Mo_begin_15 (by decide) ?_
  refine rm_ast (k := 0) (v := 0) hx hb hK hP hD hS 1 0 rfl rfl (by omega) (by decide) (by decide) d_Mo_begin_16 (fun H locs hP hD hS => ?_)
  have hP : va_P (dC, dI) classes [(m0, .inr (4, [.ref aS, .int (nI scn), .ref aO, .int (rb_z kn), .int (rb_z lg), .int (nI gr), .ref aR, .ref aC, .ref aH, .int (nI mn), .ref aA, .ref aL, .ref aB, .int (nI 0), .int (nI r1)])), (aA, .inl (dA, 4, .inl (raf (ua a 0 0)))), (aL, .inl (dA, 48, .inl lf)), (aB, .inl (dA, 12, .inl bf))] H := hP
  have hD : va_D A [(m0, .inr (4, [.ref aS, .int (nI scn), .ref aO, .int (rb_z kn), .int (rb_z lg), .int (nI gr), .ref aR, .ref aC, .ref aH, .int (nI mn), .ref aA, .ref aL, .ref aB, .int (nI 0), .int (nI r1)])), (aA, .inl (dA, 4, .inl (raf (ua a 0 0)))), (aL, .inl (dA, 48, .inl lf)), (aB, .inl (dA, 12, .inl bf))] := hD
  refine lv_iconst (v := nI 0) hx hb d_Mo_begin_17 (by decide) ?_
  refine lv_istore_n (lv' := [(2, .int (nI 0)), (0, .ref m0), (1, .int (nI r1))]) hx hb d_Mo_begin_18 rfl hl (by decide) rfl (fun ls hl => ?_)
  have hP : va_P (dC, dI) classes [(m0, .inr (4, [.ref aS, .int (nI scn), .ref aO, .int (rb_z kn), .int (rb_z lg), .int (nI gr), .ref aR, .ref aC, .ref aH, .int (nI mn), .ref aA, .ref aL, .ref aB, .int (nI 0), .int (nI r1)])), (aA, .inl (dA, 4, .inl (raf (ua a 0 0)))), (aL, .inl (dA, 48, .inl (fun j => if j < 0 then nI 0 else lf j))), (aB, .inl (dA, 12, .inl bf))] H := by rw [rf_zero]; exact hP
  have hD : va_D A [(m0, .inr (4, [.ref aS, .int (nI scn), .ref aO, .int (rb_z kn), .int (rb_z lg), .int (nI gr), .ref aR, .ref aC, .ref aH, .int (nI mn), .ref aA, .ref aL, .ref aB, .int (nI 0), .int (nI r1)])), (aA, .inl (dA, 4, .inl (raf (ua a 0 0)))), (aL, .inl (dA, 48, .inl (fun j => if j < 0 then nI 0 else lf j))), (aB, .inl (dA, 12, .inl bf))] := by rw [rf_zero]; exact hD
  refine rv_Q (fun Q hQ => ?_)
  have lp : ∀ (n : Nat) (i : Nat) (H : Heap) (locs : List Loc) (ls : Array Slot), i + n = 48 → va_P (dC, dI) classes [(m0, .inr (4, [.ref aS, .int (nI scn), .ref aO, .int (rb_z kn), .int (rb_z lg), .int (nI gr), .ref aR, .ref aC, .ref aH, .int (nI mn), .ref aA, .ref aL, .ref aB, .int (nI 0), .int (nI r1)])), (aA, .inl (dA, 4, .inl (raf (ua a 0 0)))), (aL, .inl (dA, 48, .inl (fun j => if j < i then nI 0 else lf j))), (aB, .inl (dA, 12, .inl bf))] H → va_D A [(m0, .inr (4, [.ref aS, .int (nI scn), .ref aO, .int (rb_z kn), .int (rb_z lg), .int (nI gr), .ref aR, .ref aC, .ref aH, .int (nI mn), .ref aA, .ref aL, .ref aB, .int (nI 0), .int (nI r1)])), (aA, .inl (dA, 4, .inl (raf (ua a 0 0)))), (aL, .inl (dA, 48, .inl (fun j => if j < i then nI 0 else lf j))), (aB, .inl (dA, 12, .inl bf))] → va_S A s.heap H locs → lv_has ls 3 [(2, .int (nI i)), (0, .ref m0), (1, .int (nI r1))] → W p l e (headSpec (w_ y_Mo_begin b_Mo_begin 3 none) (rm_ 0)).room s m ([.ref m0, .int (nI r1)] : List Value).toArray below meth c H locs 0 0 Q (F0 m 19 ls []) := by
    intro n
    induction n with
    | zero =>
      intro i H locs ls hi hP hD hS hl
      refine lv_iload_n hx hb d_Mo_begin_19 rfl (lv_at hl 0 rfl) ?_
      refine lv_bipush (v := nI 48) hx hb d_Mo_begin_20 (by decide) ?_
      refine rv_icmp_ge (tgt := 38) hx hb d_Mo_begin_22 (by decide) (by omega) (by omega) (fun c_22 => ?_) (fun c_22 => absurd c_22 (by omega))
      refine lv_iconst (v := nI 0) hx hb d_Mo_begin_38 (by decide) ?_
      refine lv_istore_n (lv' := [(2, .int (nI 0)), (0, .ref m0), (1, .int (nI r1))]) hx hb d_Mo_begin_39 rfl hl (by decide) rfl (fun ls hl => ?_)
      have hP := rv_fn (f' := fun _ => nI 0) hP 2 rfl (fun j hj => by rw [if_pos (by omega)])
      have hD := hD.set (p := 2) (e := .inl (dA, 48, .inl (fun _ => nI 0))) rfl
      have hP : va_P (dC, dI) classes [(m0, .inr (4, [.ref aS, .int (nI scn), .ref aO, .int (rb_z kn), .int (rb_z lg), .int (nI gr), .ref aR, .ref aC, .ref aH, .int (nI mn), .ref aA, .ref aL, .ref aB, .int (nI 0), .int (nI r1)])), (aA, .inl (dA, 4, .inl (raf (ua a 0 0)))), (aL, .inl (dA, 48, .inl (fun _ => nI 0))), (aB, .inl (dA, 12, .inl (fun j => if j < 0 then nI 0 else bf j)))] H := by rw [rf_zero]; exact hP
      have hD : va_D A [(m0, .inr (4, [.ref aS, .int (nI scn), .ref aO, .int (rb_z kn), .int (rb_z lg), .int (nI gr), .ref aR, .ref aC, .ref aH, .int (nI mn), .ref aA, .ref aL, .ref aB, .int (nI 0), .int (nI r1)])), (aA, .inl (dA, 4, .inl (raf (ua a 0 0)))), (aL, .inl (dA, 48, .inl (fun _ => nI 0))), (aB, .inl (dA, 12, .inl (fun j => if j < 0 then nI 0 else bf j)))] := by rw [rf_zero]; exact hD
      have lp2 : ∀ (n2 : Nat) (i : Nat) (H : Heap) (locs : List Loc) (ls : Array Slot), i + n2 = 12 → va_P (dC, dI) classes [(m0, .inr (4, [.ref aS, .int (nI scn), .ref aO, .int (rb_z kn), .int (rb_z lg), .int (nI gr), .ref aR, .ref aC, .ref aH, .int (nI mn), .ref aA, .ref aL, .ref aB, .int (nI 0), .int (nI r1)])), (aA, .inl (dA, 4, .inl (raf (ua a 0 0)))), (aL, .inl (dA, 48, .inl (fun _ => nI 0))), (aB, .inl (dA, 12, .inl (fun j => if j < i then nI 0 else bf j)))] H → va_D A [(m0, .inr (4, [.ref aS, .int (nI scn), .ref aO, .int (rb_z kn), .int (rb_z lg), .int (nI gr), .ref aR, .ref aC, .ref aH, .int (nI mn), .ref aA, .ref aL, .ref aB, .int (nI 0), .int (nI r1)])), (aA, .inl (dA, 4, .inl (raf (ua a 0 0)))), (aL, .inl (dA, 48, .inl (fun _ => nI 0))), (aB, .inl (dA, 12, .inl (fun j => if j < i then nI 0 else bf j)))] → va_S A s.heap H locs → lv_has ls 3 [(2, .int (nI i)), (0, .ref m0), (1, .int (nI r1))] → W p l e (headSpec (w_ y_Mo_begin b_Mo_begin 3 none) (rm_ 0)).room s m ([.ref m0, .int (nI r1)] : List Value).toArray below meth c H locs 0 0 Q (F0 m 40 ls []) := by
        intro n2
        induction n2 with
        | zero =>
          intro i H locs ls hi hP hD hS hl
          refine lv_iload_n hx hb d_Mo_begin_40 rfl (lv_at hl 0 rfl) ?_
          refine lv_bipush (v := nI 12) hx hb d_Mo_begin_41 (by decide) ?_
          refine rv_icmp_ge (tgt := 59) hx hb d_Mo_begin_43 (by decide) (by omega) (by omega) (fun c_43 => ?_) (fun c_43 => absurd c_43 (by omega))
          subst hQ
          exact W.vret hx hb hr (fun t ht hW => ⟨⟨(), rfl, trivial, by rw [ht]; have hP := rv_fn (f' := fun _ => nI 0) hP 3 rfl (fun j hj => by rw [if_pos (by omega)]); have hP := rv_fn (f' := rlf rt_free) hP 2 rfl (fun j hj => mi_free hj); exact hP, (hD.set (p := 3) (e := .inl (dA, 12, .inl (fun _ => nI 0))) rfl).set (p := 2) (e := .inl (dA, 48, .inl (rlf rt_free))) rfl⟩, hS.F ht⟩) hS.2.2 d_Mo_begin_59
        | succ n2 ih2 =>
          intro i H locs ls hi hP hD hS hl
          refine lv_iload_n hx hb d_Mo_begin_40 rfl (lv_at hl 0 rfl) ?_
          refine lv_bipush (v := nI 12) hx hb d_Mo_begin_41 (by decide) ?_
          refine rv_icmp_ge (tgt := 59) hx hb d_Mo_begin_43 (by decide) (by omega) (by omega) (fun c_43 => absurd c_43 (by omega)) (fun c_43 => ?_)
          refine lv_aload_n hx hb d_Mo_begin_46 rfl (lv_at hl 1 rfl) ?_
          refine va_get (D := (dC, dI)) (ci := 4) (v := .ref aB) (C := R_Mo) (T := F_Mo) (N := 15) hx hb hts (rg_c i_Mo) hown hK hP 0 rfl rfl 12 (by decide) (hts _ (List.mem_cons_of_mem _ m_379)) (fun _ h9 => h9) rfl d_Mo_begin_47 ?_
          refine lv_iload_n hx hb d_Mo_begin_50 rfl (lv_at hl 0 rfl) ?_
          refine lv_iconst (v := nI 0) hx hb d_Mo_begin_51 (by decide) ?_
          refine rv_ast (k := i) (x := nI 0) hx hb hK hP hD hS 3 0 rfl rfl (by omega) (by decide) d_Mo_begin_52 (fun H locs hP hD hS => ?_)
          have hP : va_P (dC, dI) classes [(m0, .inr (4, [.ref aS, .int (nI scn), .ref aO, .int (rb_z kn), .int (rb_z lg), .int (nI gr), .ref aR, .ref aC, .ref aH, .int (nI mn), .ref aA, .ref aL, .ref aB, .int (nI 0), .int (nI r1)])), (aA, .inl (dA, 4, .inl (raf (ua a 0 0)))), (aL, .inl (dA, 48, .inl (fun _ => nI 0))), (aB, .inl (dA, 12, .inl (upd (fun j => if j < i then nI 0 else bf j) i (nI 0))))] H := hP
          have hD : va_D A [(m0, .inr (4, [.ref aS, .int (nI scn), .ref aO, .int (rb_z kn), .int (rb_z lg), .int (nI gr), .ref aR, .ref aC, .ref aH, .int (nI mn), .ref aA, .ref aL, .ref aB, .int (nI 0), .int (nI r1)])), (aA, .inl (dA, 4, .inl (raf (ua a 0 0)))), (aL, .inl (dA, 48, .inl (fun _ => nI 0))), (aB, .inl (dA, 12, .inl (upd (fun j => if j < i then nI 0 else bf j) i (nI 0))))] := hD
          refine rv_inc (k := 0) (lv' := [(2, .int (nI (i + 1))), (0, .ref m0), (1, .int (nI r1))]) hx hb d_Mo_begin_53 hl rfl (by decide) rfl (fun ls hl => ?_)
          refine lv_goto (tgt := 40) hx hb d_Mo_begin_56 (by decide) ?_
          rw [rf_step] at hP hD
          exact ih2 (i + 1) _ _ _ (by omega) hP hD hS (lv_sub hl [0, 1, 2] rfl)
      exact lp2 12 0 _ _ _ (by omega) hP hD hS (lv_sub hl [0, 1, 2] rfl)
    | succ n ih =>
      intro i H locs ls hi hP hD hS hl
      refine lv_iload_n hx hb d_Mo_begin_19 rfl (lv_at hl 0 rfl) ?_
      refine lv_bipush (v := nI 48) hx hb d_Mo_begin_20 (by decide) ?_
      refine rv_icmp_ge (tgt := 38) hx hb d_Mo_begin_22 (by decide) (by omega) (by omega) (fun c_22 => absurd c_22 (by omega)) (fun c_22 => ?_)
      refine lv_aload_n hx hb d_Mo_begin_25 rfl (lv_at hl 1 rfl) ?_
      refine va_get (D := (dC, dI)) (ci := 4) (v := .ref aL) (C := R_Mo) (T := F_Mo) (N := 15) hx hb hts (rg_c i_Mo) hown hK hP 0 rfl rfl 11 (by decide) (hts _ (List.mem_cons_of_mem _ m_378)) (fun _ h9 => h9) rfl d_Mo_begin_26 ?_
      refine lv_iload_n hx hb d_Mo_begin_29 rfl (lv_at hl 0 rfl) ?_
      refine lv_iconst (v := nI 0) hx hb d_Mo_begin_30 (by decide) ?_
      refine rv_ast (k := i) (x := nI 0) hx hb hK hP hD hS 2 0 rfl rfl (by omega) (by decide) d_Mo_begin_31 (fun H locs hP hD hS => ?_)
      have hP : va_P (dC, dI) classes [(m0, .inr (4, [.ref aS, .int (nI scn), .ref aO, .int (rb_z kn), .int (rb_z lg), .int (nI gr), .ref aR, .ref aC, .ref aH, .int (nI mn), .ref aA, .ref aL, .ref aB, .int (nI 0), .int (nI r1)])), (aA, .inl (dA, 4, .inl (raf (ua a 0 0)))), (aL, .inl (dA, 48, .inl (upd (fun j => if j < i then nI 0 else lf j) i (nI 0)))), (aB, .inl (dA, 12, .inl bf))] H := hP
      have hD : va_D A [(m0, .inr (4, [.ref aS, .int (nI scn), .ref aO, .int (rb_z kn), .int (rb_z lg), .int (nI gr), .ref aR, .ref aC, .ref aH, .int (nI mn), .ref aA, .ref aL, .ref aB, .int (nI 0), .int (nI r1)])), (aA, .inl (dA, 4, .inl (raf (ua a 0 0)))), (aL, .inl (dA, 48, .inl (upd (fun j => if j < i then nI 0 else lf j) i (nI 0)))), (aB, .inl (dA, 12, .inl bf))] := hD
      refine rv_inc (k := 0) (lv' := [(2, .int (nI (i + 1))), (0, .ref m0), (1, .int (nI r1))]) hx hb d_Mo_begin_32 hl rfl (by decide) rfl (fun ls hl => ?_)
      refine lv_goto (tgt := 19) hx hb d_Mo_begin_35 (by decide) ?_
      rw [rf_step] at hP hD
      exact ih (i + 1) _ _ _ (by omega) hP hD hS (lv_sub hl [0, 1, 2] rfl)
  exact lp 48 0 _ _ _ (by omega) hP hD hS (lv_sub hl [0, 1, 2] rfl)

set_option maxHeartbeats 4000000 in
set_option maxRecDepth 100000 in
theorem c_Mo_release (l : Launch) (dC : Nat → ClassId) (dI : Nat → Nat → Nat) (dA dZ : ClassId) (m0 aS aO aR aC aH aA aL aB scn gr mn r : Nat) (kn lg : Bool) (l0 : Nat) (x : List Nat × (Nat → Nat)) (sz : Nat) (hl0 : l0 < 4) (hd : rt_ok x.1) (hb0 : mb_ok x.2) : Met l y_Mo_release (w_ y_Mo_release b_Mo_release 2 none) (rm_ 0) (va_Pc [.ref m0] (fun U => U.heap.size = sz ∧ va_P (dC, dI) classes [(m0, .inr (4, [.ref aS, .int (nI scn), .ref aO, .int (rb_z kn), .int (rb_z lg), .int (nI gr), .ref aR, .ref aC, .ref aH, .int (nI mn), .ref aA, .ref aL, .ref aB, .int (nI l0), .int (nI r)])), (aL, .inl (dA, 48, .inl (rlf x.1))), (aB, .inl (dA, 12, .inl (rnf x.2)))] U.heap ∧ va_K (dC, dI) classes [(dA, .int), (dZ, .boolean)] U ∧ va_D (fun _ => True) [(m0, .inr (4, [.ref aS, .int (nI scn), .ref aO, .int (rb_z kn), .int (rb_z lg), .int (nI gr), .ref aR, .ref aC, .ref aH, .int (nI mn), .ref aA, .ref aL, .ref aB, .int (nI l0), .int (nI r)])), (aL, .inl (dA, 48, .inl (rlf x.1))), (aB, .inl (dA, 12, .inl (rnf x.2)))])) (va_Qv (fun (_ : Unit) => True) (fun (_ : Unit) t => va_P (dC, dI) classes [(m0, .inr (4, [.ref aS, .int (nI scn), .ref aO, .int (rb_z kn), .int (rb_z lg), .int (nI gr), .ref aR, .ref aC, .ref aH, .int (nI mn), .ref aA, .ref aL, .ref aB, .int (nI l0), .int (nI r)])), (aL, .inl (dA, 48, .inl (rlf ((mi_rel 3 (3 * l0) x).1)))), (aB, .inl (dA, 12, .inl (rnf ((mi_rel 3 (3 * l0) x).2))))] t.heap ∧ va_D (va_A [(m0, .inr (4, [.ref aS, .int (nI scn), .ref aO, .int (rb_z kn), .int (rb_z lg), .int (nI gr), .ref aR, .ref aC, .ref aH, .int (nI mn), .ref aA, .ref aL, .ref aB, .int (nI l0), .int (nI r)])), (aL, .inl (dA, 48, .inl (rlf x.1))), (aB, .inl (dA, 12, .inl (rnf x.2)))] sz) [(m0, .inr (4, [.ref aS, .int (nI scn), .ref aO, .int (rb_z kn), .int (rb_z lg), .int (nI gr), .ref aR, .ref aC, .ref aH, .int (nI mn), .ref aA, .ref aL, .ref aB, .int (nI l0), .int (nI r)])), (aL, .inl (dA, 48, .inl (rlf ((mi_rel 3 (3 * l0) x).1)))), (aB, .inl (dA, 12, .inl (rnf ((mi_rel 3 (3 * l0) x).2))))]) (va_A [(m0, .inr (4, [.ref aS, .int (nI scn), .ref aO, .int (rb_z kn), .int (rb_z lg), .int (nI gr), .ref aR, .ref aC, .ref aH, .int (nI mn), .ref aA, .ref aL, .ref aB, .int (nI l0), .int (nI r)])), (aL, .inl (dA, 48, .inl (rlf x.1))), (aB, .inl (dA, 12, .inl (rnf x.2)))] sz)) 0 0 (va_A [(m0, .inr (4, [.ref aS, .int (nI scn), .ref aO, .int (rb_z kn), .int (rb_z lg), .int (nI gr), .ref aR, .ref aC, .ref aH, .int (nI mn), .ref aA, .ref aL, .ref aB, .int (nI l0), .int (nI r)])), (aL, .inl (dA, 48, .inl (rlf x.1))), (aB, .inl (dA, 12, .inl (rnf x.2)))] sz) := by
  refine Met.ofW (cc := b_Mo_release) (maxL := 2) (ret := none) (by decide) rfl ?_
  intro p e s m args below meth c s₁ B hml hv
  obtain ⟨rfl, hsz, hP, hK, hD0⟩ := hv
  have hx := B.exec
  have hb := B.bytes
  have hr := B.returns
  have hts := atoms_spec (ws := (w_ y_Mo_release b_Mo_release 2 none)) B.pre
  have hown : s.vm.findClass R_Mo = some m.cls := findClass_of_methodNamed B.named
  have hlocks := B.notSynchronized
  subst hsz
  have hD := hD0.self (sz := s.heap.size)
  generalize hAe : va_A [(m0, .inr (4, [.ref aS, .int (nI scn), .ref aO, .int (rb_z kn), .int (rb_z lg), .int (nI gr), .ref aR, .ref aC, .ref aH, .int (nI mn), .ref aA, .ref aL, .ref aB, .int (nI l0), .int (nI r)])), (aL, .inl (dA, 48, .inl (rlf x.1))), (aB, .inl (dA, 12, .inl (rnf x.2)))] s.heap.size = A at hD ⊢
  have hA : ∀ q : Nat, s.heap.size ≤ q → A q := fun q h => by rw [← hAe]; exact Or.inr h
  have hS : va_S A s.heap s.heap [] := va_S.rf
  have hl := lv_entry ([.ref m0]) (n := 2) (Nat.le_of_ble_eq_true rfl)
  rw [lg_entry_eq]
  generalize (lg_sl ([.ref m0]) ++ List.replicate (2 - (lg_sl ([.ref m0])).length) Slot.unset).toArray = ls at hl ⊢
  have hl : lv_has ls 2 [(0, .ref m0)] := hl
  refine lv_iconst (v := nI 3) hx hb d_Mo_release_0 (by decide) ?_
  refine lv_aload_n hx hb d_Mo_release_1 rfl (lv_at hl 0 rfl) ?_
  refine va_get (D := (dC, dI)) (ci := 4) (v := .int (nI l0)) (C := R_Mo) (T := F_Mo) (N := 15) hx hb hts (rg_c i_Mo) hown hK hP 0 rfl rfl 13 (by decide) (hts _ (List.mem_cons_of_mem _ m_380)) (fun _ h9 => h9) rfl d_Mo_release_2 ?_
  refine rv_imul hx hb d_Mo_release_5 ?_
  refine lv_istore_n (lv' := [(1, .int (nI (3 * l0))), (0, .ref m0)]) hx hb d_Mo_release_6 rfl hl (by decide) rfl (fun ls hl => ?_)
  obtain ⟨RES, hRES⟩ : ∃ R, R = mi_rel 3 (3 * l0) x := ⟨_, rfl⟩
  rw [← hRES]
  refine rv_Q (fun Q hQ => ?_)
  have lp : ∀ (n : Nat) (i : Nat) (x : List Nat × (Nat → Nat)) (H : Heap) (locs : List Loc) (ls : Array Slot), i + n = 3 * l0 + 3 → rt_ok x.1 → mb_ok x.2 → mi_rel n i x = RES → va_P (dC, dI) classes [(m0, .inr (4, [.ref aS, .int (nI scn), .ref aO, .int (rb_z kn), .int (rb_z lg), .int (nI gr), .ref aR, .ref aC, .ref aH, .int (nI mn), .ref aA, .ref aL, .ref aB, .int (nI l0), .int (nI r)])), (aL, .inl (dA, 48, .inl (rlf x.1))), (aB, .inl (dA, 12, .inl (rnf x.2)))] H → va_D A [(m0, .inr (4, [.ref aS, .int (nI scn), .ref aO, .int (rb_z kn), .int (rb_z lg), .int (nI gr), .ref aR, .ref aC, .ref aH, .int (nI mn), .ref aA, .ref aL, .ref aB, .int (nI l0), .int (nI r)])), (aL, .inl (dA, 48, .inl (rlf x.1))), (aB, .inl (dA, 12, .inl (rnf x.2)))] → va_S A s.heap H locs → lv_has ls 2 [(1, .int (nI i)), (0, .ref m0)] → W p l e (headSpec (w_ y_Mo_release b_Mo_release 2 none) (rm_ 0)).room s m ([.ref m0] : List Value).toArray below meth c H locs 0 0 Q (F0 m 7 ls []) := by
    intro n
    induction n with
    | zero =>
      intro i x H locs ls hn hd hb0 hR hP hD hS hl
      refine lv_iload_n hx hb d_Mo_release_7 rfl (lv_at hl 0 rfl) ?_
      refine lv_iconst (v := nI 3) hx hb d_Mo_release_8 (by decide) ?_
      refine lv_aload_n hx hb d_Mo_release_9 rfl (lv_at hl 1 rfl) ?_
      refine va_get (D := (dC, dI)) (ci := 4) (v := .int (nI l0)) (C := R_Mo) (T := F_Mo) (N := 15) hx hb hts (rg_c i_Mo) hown hK hP 0 rfl rfl 13 (by decide) (hts _ (List.mem_cons_of_mem _ m_380)) (fun _ h9 => h9) rfl d_Mo_release_10 ?_
      refine rv_imul hx hb d_Mo_release_13 ?_
      refine lv_iconst (v := nI 3) hx hb d_Mo_release_14 (by decide) ?_
      refine rv_iadd hx hb d_Mo_release_15 ?_
      refine rv_icmp_ge (tgt := 53) hx hb d_Mo_release_16 (by decide) (by omega) (by omega) (fun c_16 => ?_) (fun c_16 => absurd c_16 (by omega))
      subst hQ
      exact W.vret hx hb hr (fun t ht hW => ⟨⟨(), rfl, trivial, by rw [ht]; rw [← hR]; exact hP, by rw [← hR]; exact hD⟩, hS.F ht⟩) hS.2.2 d_Mo_release_53
    | succ n ih =>
      intro i x H locs ls hn hd hb0 hR hP hD hS hl
      have hbi := hb0 i
      have hlen := hd.1
      refine lv_iload_n hx hb d_Mo_release_7 rfl (lv_at hl 0 rfl) ?_
      refine lv_iconst (v := nI 3) hx hb d_Mo_release_8 (by decide) ?_
      refine lv_aload_n hx hb d_Mo_release_9 rfl (lv_at hl 1 rfl) ?_
      refine va_get (D := (dC, dI)) (ci := 4) (v := .int (nI l0)) (C := R_Mo) (T := F_Mo) (N := 15) hx hb hts (rg_c i_Mo) hown hK hP 0 rfl rfl 13 (by decide) (hts _ (List.mem_cons_of_mem _ m_380)) (fun _ h9 => h9) rfl d_Mo_release_10 ?_
      refine rv_imul hx hb d_Mo_release_13 ?_
      refine lv_iconst (v := nI 3) hx hb d_Mo_release_14 (by decide) ?_
      refine rv_iadd hx hb d_Mo_release_15 ?_
      refine rv_icmp_ge (tgt := 53) hx hb d_Mo_release_16 (by decide) (by omega) (by omega) (fun c_16 => absurd c_16 (by omega)) (fun c_16 => ?_)
      refine lv_aload_n hx hb d_Mo_release_19 rfl (lv_at hl 1 rfl) ?_
      refine va_get (D := (dC, dI)) (ci := 4) (v := .ref aB) (C := R_Mo) (T := F_Mo) (N := 15) hx hb hts (rg_c i_Mo) hown hK hP 0 rfl rfl 12 (by decide) (hts _ (List.mem_cons_of_mem _ m_379)) (fun _ h9 => h9) rfl d_Mo_release_20 ?_
      refine lv_iload_n hx hb d_Mo_release_23 rfl (lv_at hl 0 rfl) ?_
      refine rm_nld (k := i) hx hb hK hP 2 0 rfl rfl (by omega) (by decide) d_Mo_release_24 ?_
      refine rv_if_le (tgt := 47) hx hb d_Mo_release_25 (by decide) (by omega) (fun c_25 => ?_) (fun c_25 => ?_)
      · have hR2 : mi_rel n (i + 1) x = RES := by rw [← hR]; show _ = mi_rel n (i + 1) (mi_rel1 i x); unfold mi_rel1; rw [if_neg (by omega)]
        refine rv_inc (k := 0) (lv' := [(1, .int (nI (i + 1))), (0, .ref m0)]) hx hb d_Mo_release_47 hl rfl (by decide) rfl (fun ls hl => ?_)
        refine lv_goto (tgt := 7) hx hb d_Mo_release_50 (by decide) ?_
        exact ih (i + 1) x _ _ _ (by omega) (hd) (hb0) (hR2) hP hD hS (lv_sub hl [0, 1] rfl)
      · have hR2 : mi_rel n (i + 1) (x.1.set (x.2 i - 32) 0, ua x.2 i 0) = RES := by rw [← hR]; show _ = mi_rel n (i + 1) (mi_rel1 i x); unfold mi_rel1; rw [if_pos (by omega)]
        refine lv_aload_n hx hb d_Mo_release_28 rfl (lv_at hl 1 rfl) ?_
        refine va_get (D := (dC, dI)) (ci := 4) (v := .ref aL) (C := R_Mo) (T := F_Mo) (N := 15) hx hb hts (rg_c i_Mo) hown hK hP 0 rfl rfl 11 (by decide) (hts _ (List.mem_cons_of_mem _ m_378)) (fun _ h9 => h9) rfl d_Mo_release_29 ?_
        refine lv_aload_n hx hb d_Mo_release_32 rfl (lv_at hl 1 rfl) ?_
        refine va_get (D := (dC, dI)) (ci := 4) (v := .ref aB) (C := R_Mo) (T := F_Mo) (N := 15) hx hb hts (rg_c i_Mo) hown hK hP 0 rfl rfl 12 (by decide) (hts _ (List.mem_cons_of_mem _ m_379)) (fun _ h9 => h9) rfl d_Mo_release_33 ?_
        refine lv_iload_n hx hb d_Mo_release_36 rfl (lv_at hl 0 rfl) ?_
        refine rm_nld (k := i) hx hb hK hP 2 0 rfl rfl (by omega) (by decide) d_Mo_release_37 ?_
        refine lv_iconst (v := nI 0) hx hb d_Mo_release_38 (by decide) ?_
        refine rm_lst (k := (x.2 i)) (v := 0) hx hb hK hP hD hS 1 0 rfl rfl (by omega) (by decide) (by omega) (by omega) d_Mo_release_39 (fun H locs hP hD hS => ?_)
        have hP : va_P (dC, dI) classes [(m0, .inr (4, [.ref aS, .int (nI scn), .ref aO, .int (rb_z kn), .int (rb_z lg), .int (nI gr), .ref aR, .ref aC, .ref aH, .int (nI mn), .ref aA, .ref aL, .ref aB, .int (nI l0), .int (nI r)])), (aL, .inl (dA, 48, .inl (rlf (x.1.set ((x.2 i) - 32) 0)))), (aB, .inl (dA, 12, .inl (rnf x.2)))] H := hP
        have hD : va_D A [(m0, .inr (4, [.ref aS, .int (nI scn), .ref aO, .int (rb_z kn), .int (rb_z lg), .int (nI gr), .ref aR, .ref aC, .ref aH, .int (nI mn), .ref aA, .ref aL, .ref aB, .int (nI l0), .int (nI r)])), (aL, .inl (dA, 48, .inl (rlf (x.1.set ((x.2 i) - 32) 0)))), (aB, .inl (dA, 12, .inl (rnf x.2)))] := hD
        refine lv_aload_n hx hb d_Mo_release_40 rfl (lv_at hl 1 rfl) ?_
        refine va_get (D := (dC, dI)) (ci := 4) (v := .ref aB) (C := R_Mo) (T := F_Mo) (N := 15) hx hb hts (rg_c i_Mo) hown hK hP 0 rfl rfl 12 (by decide) (hts _ (List.mem_cons_of_mem _ m_379)) (fun _ h9 => h9) rfl d_Mo_release_41 ?_
        refine lv_iload_n hx hb d_Mo_release_44 rfl (lv_at hl 0 rfl) ?_
        refine lv_iconst (v := nI 0) hx hb d_Mo_release_45 (by decide) ?_
        refine rm_nst (k := i) (v := 0) hx hb hK hP hD hS 2 0 rfl rfl (by omega) (by decide) d_Mo_release_46 (fun H locs hP hD hS => ?_)
        have hP : va_P (dC, dI) classes [(m0, .inr (4, [.ref aS, .int (nI scn), .ref aO, .int (rb_z kn), .int (rb_z lg), .int (nI gr), .ref aR, .ref aC, .ref aH, .int (nI mn), .ref aA, .ref aL, .ref aB, .int (nI l0), .int (nI r)])), (aL, .inl (dA, 48, .inl (rlf (x.1.set ((x.2 i) - 32) 0)))), (aB, .inl (dA, 12, .inl (rnf (ua x.2 i 0))))] H := hP
        have hD : va_D A [(m0, .inr (4, [.ref aS, .int (nI scn), .ref aO, .int (rb_z kn), .int (rb_z lg), .int (nI gr), .ref aR, .ref aC, .ref aH, .int (nI mn), .ref aA, .ref aL, .ref aB, .int (nI l0), .int (nI r)])), (aL, .inl (dA, 48, .inl (rlf (x.1.set ((x.2 i) - 32) 0)))), (aB, .inl (dA, 12, .inl (rnf (ua x.2 i 0))))] := hD
        refine rv_inc (k := 0) (lv' := [(1, .int (nI (i + 1))), (0, .ref m0)]) hx hb d_Mo_release_47 hl rfl (by decide) rfl (fun ls hl => ?_)
        refine lv_goto (tgt := 7) hx hb d_Mo_release_50 (by decide) ?_
        have hP : va_P (dC, dI) classes [(m0, .inr (4, [.ref aS, .int (nI scn), .ref aO, .int (rb_z kn), .int (rb_z lg), .int (nI gr), .ref aR, .ref aC, .ref aH, .int (nI mn), .ref aA, .ref aL, .ref aB, .int (nI l0), .int (nI r)])), (aL, .inl (dA, 48, .inl (rlf ((x.1.set (x.2 i - 32) 0, ua x.2 i 0).1)))), (aB, .inl (dA, 12, .inl (rnf ((x.1.set (x.2 i - 32) 0, ua x.2 i 0).2))))] H := hP
        have hD : va_D A [(m0, .inr (4, [.ref aS, .int (nI scn), .ref aO, .int (rb_z kn), .int (rb_z lg), .int (nI gr), .ref aR, .ref aC, .ref aH, .int (nI mn), .ref aA, .ref aL, .ref aB, .int (nI l0), .int (nI r)])), (aL, .inl (dA, 48, .inl (rlf ((x.1.set (x.2 i - 32) 0, ua x.2 i 0).1)))), (aB, .inl (dA, 12, .inl (rnf ((x.1.set (x.2 i - 32) 0, ua x.2 i 0).2))))] := hD
        exact ih (i + 1) (x.1.set (x.2 i - 32) 0, ua x.2 i 0) _ _ _ (by omega) (rt_set_ok hd (Nat.zero_le _)) (mb_ok_ua hb0 (Or.inl rfl)) (hR2) hP hD hS (lv_sub hl [0, 1] rfl)
  exact lp 3 (3 * l0) x _ _ _ (by omega) (hd) (hb0) (hRES.symm) hP hD hS (lv_sub hl [0, 1] rfl)

set_option maxHeartbeats 4000000 in
set_option maxRecDepth 100000 in
theorem c_Mo_fitsItem (l : Launch) (dC : Nat → ClassId) (dI : Nat → Nat → Nat) (dA dZ : ClassId) (m0 aS aO aR aC aH aA aL aB scn gr mn r : Nat) (kn lg : Bool) (l0 k t0 pl : Nat) (ds : List Nat) (bd : Nat → Nat) (sz : Nat) (hl0 : l0 < 4) (hk : k < 42) (ht0 : t0 < 32) (hpl : pl < 3) (hd : rt_ok ds) : Met l y_Mo_fitsItem (w_ y_Mo_fitsItem b_Mo_fitsItem 4 (some .boolean)) (rm_ 0) (va_Pc [.ref m0, .int (nI k), .int (nI t0), .int (nI pl)] (fun U => U.heap.size = sz ∧ va_P (dC, dI) classes [(m0, .inr (4, [.ref aS, .int (nI scn), .ref aO, .int (rb_z kn), .int (rb_z lg), .int (nI gr), .ref aR, .ref aC, .ref aH, .int (nI mn), .ref aA, .ref aL, .ref aB, .int (nI l0), .int (nI r)])), (aL, .inl (dA, 48, .inl (rlf ds))), (aB, .inl (dA, 12, .inl (rnf bd)))] U.heap ∧ va_K (dC, dI) classes [(dA, .int), (dZ, .boolean)] U ∧ va_D (fun _ => True) [(m0, .inr (4, [.ref aS, .int (nI scn), .ref aO, .int (rb_z kn), .int (rb_z lg), .int (nI gr), .ref aR, .ref aC, .ref aH, .int (nI mn), .ref aA, .ref aL, .ref aB, .int (nI l0), .int (nI r)])), (aL, .inl (dA, 48, .inl (rlf ds))), (aB, .inl (dA, 12, .inl (rnf bd)))])) (va_Qi (fun (z9 : Int32) (_ : Unit) => z9 = rb_z (mi_item k t0 (3 * l0 + pl) ds bd).2) (fun (_ : Unit) t => va_P (dC, dI) classes [(m0, .inr (4, [.ref aS, .int (nI scn), .ref aO, .int (rb_z kn), .int (rb_z lg), .int (nI gr), .ref aR, .ref aC, .ref aH, .int (nI mn), .ref aA, .ref aL, .ref aB, .int (nI l0), .int (nI r)])), (aL, .inl (dA, 48, .inl (rlf ((mi_item k t0 (3 * l0 + pl) ds bd).1.1)))), (aB, .inl (dA, 12, .inl (rnf ((mi_item k t0 (3 * l0 + pl) ds bd).1.2))))] t.heap ∧ va_D (va_A [(m0, .inr (4, [.ref aS, .int (nI scn), .ref aO, .int (rb_z kn), .int (rb_z lg), .int (nI gr), .ref aR, .ref aC, .ref aH, .int (nI mn), .ref aA, .ref aL, .ref aB, .int (nI l0), .int (nI r)])), (aL, .inl (dA, 48, .inl (rlf ds))), (aB, .inl (dA, 12, .inl (rnf bd)))] sz) [(m0, .inr (4, [.ref aS, .int (nI scn), .ref aO, .int (rb_z kn), .int (rb_z lg), .int (nI gr), .ref aR, .ref aC, .ref aH, .int (nI mn), .ref aA, .ref aL, .ref aB, .int (nI l0), .int (nI r)])), (aL, .inl (dA, 48, .inl (rlf ((mi_item k t0 (3 * l0 + pl) ds bd).1.1)))), (aB, .inl (dA, 12, .inl (rnf ((mi_item k t0 (3 * l0 + pl) ds bd).1.2))))]) (va_A [(m0, .inr (4, [.ref aS, .int (nI scn), .ref aO, .int (rb_z kn), .int (rb_z lg), .int (nI gr), .ref aR, .ref aC, .ref aH, .int (nI mn), .ref aA, .ref aL, .ref aB, .int (nI l0), .int (nI r)])), (aL, .inl (dA, 48, .inl (rlf ds))), (aB, .inl (dA, 12, .inl (rnf bd)))] sz)) 0 0 (va_A [(m0, .inr (4, [.ref aS, .int (nI scn), .ref aO, .int (rb_z kn), .int (rb_z lg), .int (nI gr), .ref aR, .ref aC, .ref aH, .int (nI mn), .ref aA, .ref aL, .ref aB, .int (nI l0), .int (nI r)])), (aL, .inl (dA, 48, .inl (rlf ds))), (aB, .inl (dA, 12, .inl (rnf bd)))] sz) := by
  refine Met.ofW (cc := b_Mo_fitsItem) (maxL := 4) (ret := (some .boolean)) (by decide) rfl ?_
  intro p e s m args below meth c s₁ B hml hv
  obtain ⟨rfl, hsz, hP, hK, hD0⟩ := hv
  have hx := B.exec
  have hb := B.bytes
  have hr := B.returns
  have hts := atoms_spec (ws := (w_ y_Mo_fitsItem b_Mo_fitsItem 4 (some .boolean))) B.pre
  have hown : s.vm.findClass R_Mo = some m.cls := findClass_of_methodNamed B.named
  have hlocks := B.notSynchronized
  subst hsz
  have hD := hD0.self (sz := s.heap.size)
  generalize hAe : va_A [(m0, .inr (4, [.ref aS, .int (nI scn), .ref aO, .int (rb_z kn), .int (rb_z lg), .int (nI gr), .ref aR, .ref aC, .ref aH, .int (nI mn), .ref aA, .ref aL, .ref aB, .int (nI l0), .int (nI r)])), (aL, .inl (dA, 48, .inl (rlf ds))), (aB, .inl (dA, 12, .inl (rnf bd)))] s.heap.size = A at hD ⊢
  have hA : ∀ q : Nat, s.heap.size ≤ q → A q := fun q h => by rw [← hAe]; exact Or.inr h
  have hS : va_S A s.heap s.heap [] := va_S.rf
  have hl := lv_entry ([.ref m0, .int (nI k), .int (nI t0), .int (nI pl)]) (n := 4) (Nat.le_of_ble_eq_true rfl)
  rw [lg_entry_eq]
  generalize (lg_sl ([.ref m0, .int (nI k), .int (nI t0), .int (nI pl)]) ++ List.replicate (4 - (lg_sl ([.ref m0, .int (nI k), .int (nI t0), .int (nI pl)])).length) Slot.unset).toArray = ls at hl ⊢
  have hl : lv_has ls 4 [(0, .ref m0), (1, .int (nI k)), (2, .int (nI t0)), (3, .int (nI pl))] := hl
  rcases hq : rt_term k ds with _ | u
  · have hn := rt_none hq
    have hlen := hd.1
    have hE : mi_item k t0 (3 * l0 + pl) ds bd = ((ds.set (k - 32) (t0 + 1), ua bd (3 * l0 + pl) k), true) := by unfold mi_item; rw [hq]
    refine lv_iload_n hx hb d_Mo_fitsItem_0 rfl (lv_at hl 1 rfl) ?_
    refine lv_bipush (v := nI 32) hx hb d_Mo_fitsItem_1 (by decide) ?_
    refine rv_icmp_ge (tgt := 17) hx hb d_Mo_fitsItem_3 (by decide) (by omega) (by omega) (fun c_3 => ?_) (fun c_3 => absurd c_3 (by omega))
    refine lv_aload_n hx hb d_Mo_fitsItem_17 rfl (lv_at hl 0 rfl) ?_
    refine va_get (D := (dC, dI)) (ci := 4) (v := .ref aL) (C := R_Mo) (T := F_Mo) (N := 15) hx hb hts (rg_c i_Mo) hown hK hP 0 rfl rfl 11 (by decide) (hts _ (List.mem_cons_of_mem _ m_378)) (fun _ h9 => h9) rfl d_Mo_fitsItem_18 ?_
    refine lv_iload_n hx hb d_Mo_fitsItem_21 rfl (lv_at hl 1 rfl) ?_
    refine rm_lld (k := k) hx hb hK hP 1 0 rfl rfl (by omega) (by decide) (by omega) d_Mo_fitsItem_22 ?_
    refine rv_eq (y := nI 0) (by rw [hn.2]) ?_
    refine rv_if_le (tgt := 44) hx hb d_Mo_fitsItem_23 (by decide) (by omega) (fun c_23 => ?_) (fun c_23 => absurd c_23 (by omega))
    refine lv_aload_n hx hb d_Mo_fitsItem_44 rfl (lv_at hl 0 rfl) ?_
    refine va_get (D := (dC, dI)) (ci := 4) (v := .ref aL) (C := R_Mo) (T := F_Mo) (N := 15) hx hb hts (rg_c i_Mo) hown hK hP 0 rfl rfl 11 (by decide) (hts _ (List.mem_cons_of_mem _ m_378)) (fun _ h9 => h9) rfl d_Mo_fitsItem_45 ?_
    refine lv_iload_n hx hb d_Mo_fitsItem_48 rfl (lv_at hl 1 rfl) ?_
    refine lv_iload_n hx hb d_Mo_fitsItem_49 rfl (lv_at hl 2 rfl) ?_
    refine lv_iconst (v := nI 1) hx hb d_Mo_fitsItem_50 (by decide) ?_
    refine rv_iadd hx hb d_Mo_fitsItem_51 ?_
    refine rm_lst (k := k) (v := (t0 + 1)) hx hb hK hP hD hS 1 0 rfl rfl (by omega) (by decide) (by omega) (by omega) d_Mo_fitsItem_52 (fun H locs hP hD hS => ?_)
    have hP : va_P (dC, dI) classes [(m0, .inr (4, [.ref aS, .int (nI scn), .ref aO, .int (rb_z kn), .int (rb_z lg), .int (nI gr), .ref aR, .ref aC, .ref aH, .int (nI mn), .ref aA, .ref aL, .ref aB, .int (nI l0), .int (nI r)])), (aL, .inl (dA, 48, .inl (rlf (ds.set (k - 32) (t0 + 1))))), (aB, .inl (dA, 12, .inl (rnf bd)))] H := hP
    have hD : va_D A [(m0, .inr (4, [.ref aS, .int (nI scn), .ref aO, .int (rb_z kn), .int (rb_z lg), .int (nI gr), .ref aR, .ref aC, .ref aH, .int (nI mn), .ref aA, .ref aL, .ref aB, .int (nI l0), .int (nI r)])), (aL, .inl (dA, 48, .inl (rlf (ds.set (k - 32) (t0 + 1))))), (aB, .inl (dA, 12, .inl (rnf bd)))] := hD
    refine lv_aload_n hx hb d_Mo_fitsItem_53 rfl (lv_at hl 0 rfl) ?_
    refine va_get (D := (dC, dI)) (ci := 4) (v := .ref aB) (C := R_Mo) (T := F_Mo) (N := 15) hx hb hts (rg_c i_Mo) hown hK hP 0 rfl rfl 12 (by decide) (hts _ (List.mem_cons_of_mem _ m_379)) (fun _ h9 => h9) rfl d_Mo_fitsItem_54 ?_
    refine lv_iconst (v := nI 3) hx hb d_Mo_fitsItem_57 (by decide) ?_
    refine lv_aload_n hx hb d_Mo_fitsItem_58 rfl (lv_at hl 0 rfl) ?_
    refine va_get (D := (dC, dI)) (ci := 4) (v := .int (nI l0)) (C := R_Mo) (T := F_Mo) (N := 15) hx hb hts (rg_c i_Mo) hown hK hP 0 rfl rfl 13 (by decide) (hts _ (List.mem_cons_of_mem _ m_380)) (fun _ h9 => h9) rfl d_Mo_fitsItem_59 ?_
    refine rv_imul hx hb d_Mo_fitsItem_62 ?_
    refine lv_iload_n hx hb d_Mo_fitsItem_63 rfl (lv_at hl 3 rfl) ?_
    refine rv_iadd hx hb d_Mo_fitsItem_64 ?_
    refine lv_iload_n hx hb d_Mo_fitsItem_65 rfl (lv_at hl 1 rfl) ?_
    refine rm_nst (k := ((3 * l0) + pl)) (v := k) hx hb hK hP hD hS 2 0 rfl rfl (by omega) (by decide) d_Mo_fitsItem_66 (fun H locs hP hD hS => ?_)
    have hP : va_P (dC, dI) classes [(m0, .inr (4, [.ref aS, .int (nI scn), .ref aO, .int (rb_z kn), .int (rb_z lg), .int (nI gr), .ref aR, .ref aC, .ref aH, .int (nI mn), .ref aA, .ref aL, .ref aB, .int (nI l0), .int (nI r)])), (aL, .inl (dA, 48, .inl (rlf (ds.set (k - 32) (t0 + 1))))), (aB, .inl (dA, 12, .inl (rnf (ua bd ((3 * l0) + pl) k))))] H := hP
    have hD : va_D A [(m0, .inr (4, [.ref aS, .int (nI scn), .ref aO, .int (rb_z kn), .int (rb_z lg), .int (nI gr), .ref aR, .ref aC, .ref aH, .int (nI mn), .ref aA, .ref aL, .ref aB, .int (nI l0), .int (nI r)])), (aL, .inl (dA, 48, .inl (rlf (ds.set (k - 32) (t0 + 1))))), (aB, .inl (dA, 12, .inl (rnf (ua bd ((3 * l0) + pl) k))))] := hD
    refine lv_iconst (v := nI 1) hx hb d_Mo_fitsItem_67 (by decide) ?_
    exact W.zret (v := nI 1) hx hb hr (by rfl) (fun t ht hW => ⟨⟨nI 1, (), rfl, by rw [hE]; rfl, by rw [ht]; rw [hE]; exact hP, by rw [hE]; exact hD⟩, hS.F ht⟩) hS.2.2 d_Mo_fitsItem_68
  · have hu := rt_term_lt hd hq
    have hE : mi_item k t0 (3 * l0 + pl) ds bd = ((ds, bd), decide (u = t0)) := by unfold mi_item; rw [hq]
    refine lv_iload_n hx hb d_Mo_fitsItem_0 rfl (lv_at hl 1 rfl) ?_
    refine lv_bipush (v := nI 32) hx hb d_Mo_fitsItem_1 (by decide) ?_
    refine rv_icmp_ge (tgt := 17) hx hb d_Mo_fitsItem_3 (by decide) (by omega) (by omega) (fun c_3 => ?_) (fun c_3 => ?_)
    · have hu2 : ds.getD (k - 32) 0 = u + 1 := by
        unfold rt_term at hq; rw [if_neg (by omega)] at hq
        split at hq
        · cases hq
        · rename_i hz; cases hq; exact hz
      refine lv_aload_n hx hb d_Mo_fitsItem_17 rfl (lv_at hl 0 rfl) ?_
      refine va_get (D := (dC, dI)) (ci := 4) (v := .ref aL) (C := R_Mo) (T := F_Mo) (N := 15) hx hb hts (rg_c i_Mo) hown hK hP 0 rfl rfl 11 (by decide) (hts _ (List.mem_cons_of_mem _ m_378)) (fun _ h9 => h9) rfl d_Mo_fitsItem_18 ?_
      refine lv_iload_n hx hb d_Mo_fitsItem_21 rfl (lv_at hl 1 rfl) ?_
      refine rm_lld (k := k) hx hb hK hP 1 0 rfl rfl (by omega) (by decide) (by omega) d_Mo_fitsItem_22 ?_
      refine rv_eq (y := nI (u + 1)) (by rw [hu2]) ?_
      refine rv_if_le (tgt := 44) hx hb d_Mo_fitsItem_23 (by decide) (by omega) (fun c_23 => absurd c_23 (by omega)) (fun c_23 => ?_)
      refine lv_aload_n hx hb d_Mo_fitsItem_26 rfl (lv_at hl 0 rfl) ?_
      refine va_get (D := (dC, dI)) (ci := 4) (v := .ref aL) (C := R_Mo) (T := F_Mo) (N := 15) hx hb hts (rg_c i_Mo) hown hK hP 0 rfl rfl 11 (by decide) (hts _ (List.mem_cons_of_mem _ m_378)) (fun _ h9 => h9) rfl d_Mo_fitsItem_27 ?_
      refine lv_iload_n hx hb d_Mo_fitsItem_30 rfl (lv_at hl 1 rfl) ?_
      refine rm_lld (k := k) hx hb hK hP 1 0 rfl rfl (by omega) (by decide) (by omega) d_Mo_fitsItem_31 ?_
      refine rv_eq (y := nI (u + 1)) (by rw [hu2]) ?_
      refine lv_iload_n hx hb d_Mo_fitsItem_32 rfl (lv_at hl 2 rfl) ?_
      refine lv_iconst (v := nI 1) hx hb d_Mo_fitsItem_33 (by decide) ?_
      refine rv_iadd hx hb d_Mo_fitsItem_34 ?_
      refine rv_icmp_ne (tgt := 42) hx hb d_Mo_fitsItem_35 (by decide) (by omega) (by omega) (fun c_35 => ?_) (fun c_35 => ?_)
      · refine lv_iconst (v := nI 0) hx hb d_Mo_fitsItem_42 (by decide) ?_
        exact W.zret (v := nI 0) hx hb hr (by rfl) (fun t ht hW => ⟨⟨nI 0, (), rfl, by rw [hE]; show _ = rb_z (decide (u = t0)); rw [decide_eq_false (by omega)]; rfl, by rw [ht]; rw [hE]; exact hP, by rw [hE]; exact hD⟩, hS.F ht⟩) hS.2.2 d_Mo_fitsItem_43
      · refine lv_iconst (v := nI 1) hx hb d_Mo_fitsItem_38 (by decide) ?_
        refine lv_goto (tgt := 43) hx hb d_Mo_fitsItem_39 (by decide) ?_
        exact W.zret (v := nI 1) hx hb hr (by rfl) (fun t ht hW => ⟨⟨nI 1, (), rfl, by rw [hE]; show _ = rb_z (decide (u = t0)); rw [decide_eq_true (by omega)]; rfl, by rw [ht]; rw [hE]; exact hP, by rw [hE]; exact hD⟩, hS.F ht⟩) hS.2.2 d_Mo_fitsItem_43
    · have hu2 : u = k := by unfold rt_term at hq; rw [if_pos (by omega)] at hq; exact (Option.some.inj hq).symm
      refine lv_iload_n hx hb d_Mo_fitsItem_6 rfl (lv_at hl 1 rfl) ?_
      refine lv_iload_n hx hb d_Mo_fitsItem_7 rfl (lv_at hl 2 rfl) ?_
      refine rv_icmp_ne (tgt := 15) hx hb d_Mo_fitsItem_8 (by decide) (by omega) (by omega) (fun c_8 => ?_) (fun c_8 => ?_)
      · refine lv_iconst (v := nI 0) hx hb d_Mo_fitsItem_15 (by decide) ?_
        exact W.zret (v := nI 0) hx hb hr (by rfl) (fun t ht hW => ⟨⟨nI 0, (), rfl, by rw [hE]; show _ = rb_z (decide (u = t0)); rw [decide_eq_false (by omega)]; rfl, by rw [ht]; rw [hE]; exact hP, by rw [hE]; exact hD⟩, hS.F ht⟩) hS.2.2 d_Mo_fitsItem_16
      · refine lv_iconst (v := nI 1) hx hb d_Mo_fitsItem_11 (by decide) ?_
        refine lv_goto (tgt := 16) hx hb d_Mo_fitsItem_12 (by decide) ?_
        exact W.zret (v := nI 1) hx hb hr (by rfl) (fun t ht hW => ⟨⟨nI 1, (), rfl, by rw [hE]; show _ = rb_z (decide (u = t0)); rw [decide_eq_true (by omega)]; rfl, by rw [ht]; rw [hE]; exact hP, by rw [hE]; exact hD⟩, hS.F ht⟩) hS.2.2 d_Mo_fitsItem_16

set_option maxHeartbeats 4000000 in
set_option maxRecDepth 100000 in
theorem c_Mo_fits (l : Launch) (dC : Nat → ClassId) (dI : Nat → Nat → Nat) (dA dZ : ClassId) (m0 aS aO aR aC aH aA aL aB scn gr mn r : Nat) (kn lg : Bool) (l0 c0 : Nat) (ds : List Nat) (bd : Nat → Nat) (sz : Nat) (hr0 : r < 24) (hl1 : l0 < rq_cnts.getD r 0) (hc : c0 < 32768) (hd : rt_ok ds) (hb0 : mb_ok bd) : Met l y_Mo_fits (w_ y_Mo_fits b_Mo_fits 3 (some .boolean)) (rm_ 2) (va_Pc [.ref m0, .int (nI c0)] (fun U => U.heap.size = sz ∧ va_P (dC, dI) classes [(m0, .inr (4, [.ref aS, .int (nI scn), .ref aO, .int (rb_z kn), .int (rb_z lg), .int (nI gr), .ref aR, .ref aC, .ref aH, .int (nI mn), .ref aA, .ref aL, .ref aB, .int (nI l0), .int (nI r)])), (aL, .inl (dA, 48, .inl (rlf ds))), (aB, .inl (dA, 12, .inl (rnf bd)))] U.heap ∧ va_K (dC, dI) classes [(dA, .int), (dZ, .boolean)] U ∧ va_D (fun _ => True) [(m0, .inr (4, [.ref aS, .int (nI scn), .ref aO, .int (rb_z kn), .int (rb_z lg), .int (nI gr), .ref aR, .ref aC, .ref aH, .int (nI mn), .ref aA, .ref aL, .ref aB, .int (nI l0), .int (nI r)])), (aL, .inl (dA, 48, .inl (rlf ds))), (aB, .inl (dA, 12, .inl (rnf bd)))])) (va_Qi (fun (z9 : Int32) (_ : Unit) => z9 = rb_z (mi_fits r l0 c0 ds bd).2) (fun (_ : Unit) t => va_P (dC, dI) classes [(m0, .inr (4, [.ref aS, .int (nI scn), .ref aO, .int (rb_z kn), .int (rb_z lg), .int (nI gr), .ref aR, .ref aC, .ref aH, .int (nI mn), .ref aA, .ref aL, .ref aB, .int (nI l0), .int (nI r)])), (aL, .inl (dA, 48, .inl (rlf ((mi_fits r l0 c0 ds bd).1.1)))), (aB, .inl (dA, 12, .inl (rnf ((mi_fits r l0 c0 ds bd).1.2))))] t.heap ∧ va_D (va_A [(m0, .inr (4, [.ref aS, .int (nI scn), .ref aO, .int (rb_z kn), .int (rb_z lg), .int (nI gr), .ref aR, .ref aC, .ref aH, .int (nI mn), .ref aA, .ref aL, .ref aB, .int (nI l0), .int (nI r)])), (aL, .inl (dA, 48, .inl (rlf ds))), (aB, .inl (dA, 12, .inl (rnf bd)))] sz) [(m0, .inr (4, [.ref aS, .int (nI scn), .ref aO, .int (rb_z kn), .int (rb_z lg), .int (nI gr), .ref aR, .ref aC, .ref aH, .int (nI mn), .ref aA, .ref aL, .ref aB, .int (nI l0), .int (nI r)])), (aL, .inl (dA, 48, .inl (rlf ((mi_fits r l0 c0 ds bd).1.1)))), (aB, .inl (dA, 12, .inl (rnf ((mi_fits r l0 c0 ds bd).1.2))))]) (va_A [(m0, .inr (4, [.ref aS, .int (nI scn), .ref aO, .int (rb_z kn), .int (rb_z lg), .int (nI gr), .ref aR, .ref aC, .ref aH, .int (nI mn), .ref aA, .ref aL, .ref aB, .int (nI l0), .int (nI r)])), (aL, .inl (dA, 48, .inl (rlf ds))), (aB, .inl (dA, 12, .inl (rnf bd)))] sz)) 0 0 (va_A [(m0, .inr (4, [.ref aS, .int (nI scn), .ref aO, .int (rb_z kn), .int (rb_z lg), .int (nI gr), .ref aR, .ref aC, .ref aH, .int (nI mn), .ref aA, .ref aL, .ref aB, .int (nI l0), .int (nI r)])), (aL, .inl (dA, 48, .inl (rlf ds))), (aB, .inl (dA, 12, .inl (rnf bd)))] sz) := by
  refine Met.ofW (cc := b_Mo_fits) (maxL := 3) (ret := (some .boolean)) (by decide) rfl ?_
  have hcl := rq_cnts_le r hr0
  have hl0 : l0 < 4 := by omega
  intro p e s m args below meth c s₁ B hml hv
  obtain ⟨rfl, hsz, hP, hK, hD0⟩ := hv
  have hx := B.exec
  have hb := B.bytes
  have hr := B.returns
  have hts := atoms_spec (ws := (w_ y_Mo_fits b_Mo_fits 3 (some .boolean))) B.pre
  have hown : s.vm.findClass R_Mo = some m.cls := findClass_of_methodNamed B.named
  have hlocks := B.notSynchronized
  subst hsz
  have hD := hD0.self (sz := s.heap.size)
  generalize hAe : va_A [(m0, .inr (4, [.ref aS, .int (nI scn), .ref aO, .int (rb_z kn), .int (rb_z lg), .int (nI gr), .ref aR, .ref aC, .ref aH, .int (nI mn), .ref aA, .ref aL, .ref aB, .int (nI l0), .int (nI r)])), (aL, .inl (dA, 48, .inl (rlf ds))), (aB, .inl (dA, 12, .inl (rnf bd)))] s.heap.size = A at hD ⊢
  have hA : ∀ q : Nat, s.heap.size ≤ q → A q := fun q h => by rw [← hAe]; exact Or.inr h
  have hS : va_S A s.heap s.heap [] := va_S.rf
  have hl := lv_entry ([.ref m0, .int (nI c0)]) (n := 3) (Nat.le_of_ble_eq_true rfl)
  rw [lg_entry_eq]
  generalize (lg_sl ([.ref m0, .int (nI c0)]) ++ List.replicate (3 - (lg_sl ([.ref m0, .int (nI c0)])).length) Slot.unset).toArray = ls at hl ⊢
  have hl : lv_has ls 3 [(0, .ref m0), (1, .int (nI c0))] := hl
  refine lv_iconst (v := nI 5) hx hb d_Mo_fits_0 (by decide) ?_
  refine lv_aload_n hx hb d_Mo_fits_1 rfl (lv_at hl 0 rfl) ?_
  refine va_get (D := (dC, dI)) (ci := 4) (v := .int (nI r)) (C := R_Mo) (T := F_Mo) (N := 15) hx hb hts (rg_c i_Mo) hown hK hP 0 rfl rfl 14 (by decide) (hts _ (List.mem_cons_of_mem _ m_381)) (fun _ h9 => h9) rfl d_Mo_fits_2 ?_
  refine rv_imul hx hb d_Mo_fits_5 ?_
  refine lv_aload_n hx hb d_Mo_fits_6 rfl (lv_at hl 0 rfl) ?_
  refine va_get (D := (dC, dI)) (ci := 4) (v := .int (nI l0)) (C := R_Mo) (T := F_Mo) (N := 15) hx hb hts (rg_c i_Mo) hown hK hP 0 rfl rfl 13 (by decide) (hts _ (List.mem_cons_of_mem _ m_380)) (fun _ h9 => h9) rfl d_Mo_fits_7 ?_
  refine rv_iadd hx hb d_Mo_fits_10 ?_
  refine rv_calli (r := rp_tab.getD ((5 * r) + l0) (-1)) (va_runS (As := [.int (nI ((5 * r) + l0))]) (rest := []) ⟨hx, hb, hml, hown, hts⟩ (c_Mo_pattern l ((5 * r) + l0) (by omega)) (va_cwS 1 hts (rg_S (rg3 m_458 m_459 m_6) k_Mo_pattern) rfl rfl rfl (by decide +kernel) ⟨Nat.le_of_ble_eq_true rfl, Nat.le_of_ble_eq_true rfl⟩) ⟨fun _ _ _ _ q => q, fun U hU hW => ⟨rfl, trivial⟩⟩ rfl rfl hl.1 rfl (lv_room (Nat.le_of_ble_eq_true rfl)) d_Mo_fits_11 ⟨Nat.zero_le _, Nat.zero_le _⟩) hS (fun _ h => h.elim) (fun H locs hk hS => ?_)
  have hP := rv_kept hP hk
  obtain ⟨k0, ek0⟩ : ∃ y, y = rq_prem.getD (12 * r + 3 * l0) 0 := ⟨_, rfl⟩
  have hk0 : k0 < 42 := by rw [ek0]; exact rq_prem_lt _
  obtain ⟨k1, ek1⟩ : ∃ y, y = rq_prem.getD (12 * r + 3 * l0 + 1) 0 := ⟨_, rfl⟩
  have hk1 : k1 < 42 := by rw [ek1]; exact rq_prem_lt _
  obtain ⟨k2, ek2⟩ : ∃ y, y = rq_prem.getD (12 * r + 3 * l0 + 2) 0 := ⟨_, rfl⟩
  have hk2 : k2 < 42 := by rw [ek2]; exact rq_prem_lt _
  refine rv_eq (y := nI (4096 * k0 + 64 * k1 + k2)) (by rw [rp_prem r hr0 l0 hl1, ek0, ek1, ek2]) ?_
  have hE : mi_fits r l0 c0 ds bd = if (mi_item k0 (c0 / 1024) (3 * l0 + 0) ds bd).2 = true then (if (mi_item k1 (c0 / 32 % 32) (3 * l0 + 1) (mi_item k0 (c0 / 1024) (3 * l0 + 0) ds bd).1.1 (mi_item k0 (c0 / 1024) (3 * l0 + 0) ds bd).1.2).2 = true then mi_item k2 (c0 % 32) (3 * l0 + 2) (mi_item k1 (c0 / 32 % 32) (3 * l0 + 1) (mi_item k0 (c0 / 1024) (3 * l0 + 0) ds bd).1.1 (mi_item k0 (c0 / 1024) (3 * l0 + 0) ds bd).1.2).1.1 (mi_item k1 (c0 / 32 % 32) (3 * l0 + 1) (mi_item k0 (c0 / 1024) (3 * l0 + 0) ds bd).1.1 (mi_item k0 (c0 / 1024) (3 * l0 + 0) ds bd).1.2).1.2 else ((mi_item k1 (c0 / 32 % 32) (3 * l0 + 1) (mi_item k0 (c0 / 1024) (3 * l0 + 0) ds bd).1.1 (mi_item k0 (c0 / 1024) (3 * l0 + 0) ds bd).1.2).1, false)) else ((mi_item k0 (c0 / 1024) (3 * l0 + 0) ds bd).1, false) := by rw [ek0, ek1, ek2]; rfl
  clear ek0 ek1 ek2
  refine lv_istore_n (lv' := [(2, .int (nI (4096 * k0 + 64 * k1 + k2))), (0, .ref m0), (1, .int (nI c0))]) hx hb d_Mo_fits_14 rfl hl (by decide) rfl (fun ls hl => ?_)
  refine lv_aload_n hx hb d_Mo_fits_15 rfl (lv_at hl 1 rfl) ?_
  refine lv_iload_n hx hb d_Mo_fits_16 rfl (lv_at hl 0 rfl) ?_
  refine lv_sipush (v := nI 4096) hx hb d_Mo_fits_17 (by decide) ?_
  refine rv_idiv hx hb d_Mo_fits_20 (by omega) (by omega) (by omega) ?_
  refine rv_eq (y := nI k0) (congrArg nI (by omega)) ?_
  refine lv_iload_n hx hb d_Mo_fits_21 rfl (lv_at hl 2 rfl) ?_
  refine lv_sipush (v := nI 1024) hx hb d_Mo_fits_22 (by decide) ?_
  refine rv_idiv hx hb d_Mo_fits_25 (by omega) (by omega) (by omega) ?_
  refine lv_iconst (v := nI 0) hx hb d_Mo_fits_26 (by decide) ?_
  have hPc := hP.sub (ws' := [(m0, .inr (4, [.ref aS, .int (nI scn), .ref aO, .int (rb_z kn), .int (rb_z lg), .int (nI gr), .ref aR, .ref aC, .ref aH, .int (nI mn), .ref aA, .ref aL, .ref aB, .int (nI l0), .int (nI r)])), (aL, .inl (dA, 48, .inl (rlf ds))), (aB, .inl (dA, 12, .inl (rnf bd)))]) [0, 1, 2] rfl
  have hDc := hD.sub (ws' := [(m0, .inr (4, [.ref aS, .int (nI scn), .ref aO, .int (rb_z kn), .int (rb_z lg), .int (nI gr), .ref aR, .ref aC, .ref aH, .int (nI mn), .ref aA, .ref aL, .ref aB, .int (nI l0), .int (nI r)])), (aL, .inl (dA, 48, .inl (rlf ds))), (aB, .inl (dA, 12, .inl (rnf bd)))]) [0, 1, 2] (by decide) rfl
  have hFc := va_free (wc := [(m0, .inr (4, [.ref aS, .int (nI scn), .ref aO, .int (rb_z kn), .int (rb_z lg), .int (nI gr), .ref aR, .ref aC, .ref aH, .int (nI mn), .ref aA, .ref aL, .ref aB, .int (nI l0), .int (nI r)])), (aL, .inl (dA, 48, .inl (rlf ds))), (aB, .inl (dA, 12, .inl (rnf bd)))]) hD hS hA [0, 1, 2] rfl
  refine va_calli (va_runV (As := [.int (nI k0), .int (nI (c0 / 1024)), .int (nI 0)]) (rest := []) ⟨hx, hb, hml, hown, hts⟩ (c_Mo_fitsItem l dC dI dA dZ m0 aS aO aR aC aH aA aL aB scn gr mn r kn lg l0 k0 (c0 / 1024) 0 ds bd H.size hl0 (hk0) (by omega) (by omega) (hd)) (cwV 3 hts (rg_V (rg4 m_515 m_517 s_11 m_6) k_Mo_fitsItem) rfl rfl rfl (by decide +kernel) ⟨Nat.le_of_ble_eq_true rfl, Nat.le_of_ble_eq_true rfl⟩) ⟨fun a U g mk q => ⟨q.1, q.2.1, q.2.2.1, va_K.moved (u := U) (U := U.calling g mk a) (Vm.Alike.refl U.vm) q.2.2.2.1, q.2.2.2.2⟩, va_recv hK hPc (ci := 4) (q0 := 0) rfl rfl, fun U hU hW => ⟨rfl, by rw [hU], by rw [hU]; exact hPc, va_K.moved hW.alike hK, hDc.weaken (fun _ _ _ _ => trivial)⟩⟩ rfl rfl hl.1 rfl (lv_room (Nat.le_of_ble_eq_true rfl)) d_Mo_fits_27 ⟨Nat.zero_le _, Nat.zero_le _⟩) hS (fun q _ h => hFc q h) hFc (fun r9 u t H1 locs ht hvm hw hB hz1 hk1 hS => ?_)
  subst hw
  obtain ⟨hP1, hD1⟩ := hB
  rw [ht] at hP1
  obtain ⟨hP, hD⟩ := va_join (wr := []) (w1 := [(m0, .inr (4, [.ref aS, .int (nI scn), .ref aO, .int (rb_z kn), .int (rb_z lg), .int (nI gr), .ref aR, .ref aC, .ref aH, .int (nI mn), .ref aA, .ref aL, .ref aB, .int (nI l0), .int (nI r)])), (aL, .inl (dA, 48, .inl (rlf ((mi_item k0 (c0 / 1024) (3 * l0 + 0) ds bd).1.1)))), (aB, .inl (dA, 12, .inl (rnf ((mi_item k0 (c0 / 1024) (3 * l0 + 0) ds bd).1.2))))]) hP hD [0, 1, 2] [] rfl rfl (by decide) (by decide) hk1 hFc hP1 hD1
  clear hk1 hFc hPc hDc hP1 hD1
  generalize H1 = H at hP hS ⊢
  have hP : va_P (dC, dI) classes [(m0, .inr (4, [.ref aS, .int (nI scn), .ref aO, .int (rb_z kn), .int (rb_z lg), .int (nI gr), .ref aR, .ref aC, .ref aH, .int (nI mn), .ref aA, .ref aL, .ref aB, .int (nI l0), .int (nI r)])), (aL, .inl (dA, 48, .inl (rlf ((mi_item k0 (c0 / 1024) (3 * l0 + 0) ds bd).1.1)))), (aB, .inl (dA, 12, .inl (rnf ((mi_item k0 (c0 / 1024) (3 * l0 + 0) ds bd).1.2))))] H := hP.sub [0, 1, 2] rfl
  have hD : va_D A [(m0, .inr (4, [.ref aS, .int (nI scn), .ref aO, .int (rb_z kn), .int (rb_z lg), .int (nI gr), .ref aR, .ref aC, .ref aH, .int (nI mn), .ref aA, .ref aL, .ref aB, .int (nI l0), .int (nI r)])), (aL, .inl (dA, 48, .inl (rlf ((mi_item k0 (c0 / 1024) (3 * l0 + 0) ds bd).1.1)))), (aB, .inl (dA, 12, .inl (rnf ((mi_item k0 (c0 / 1024) (3 * l0 + 0) ds bd).1.2))))] := hD.sub [0, 1, 2] (by decide) rfl
  generalize hI0 : mi_item k0 (c0 / 1024) (3 * l0 + 0) ds bd = I0 at hP hD hE ⊢
  have hok0 := mi_item_ok (q := 3 * l0 + 0) hk0 (show c0 / 1024 < 32 by omega) hd hb0
  rw [hI0] at hok0
  rcases hf0 : I0.2 with _ | _
  · refine rv_eq (y := nI 0) (rfl) ?_
    rw [if_neg (by rw [hf0]; simp)] at hE
    refine rv_if_eq (tgt := 75) hx hb d_Mo_fits_30 (by decide) (by omega) (fun c_30 => ?_) (fun c_30 => absurd c_30 (by omega))
    refine lv_iconst (v := nI 0) hx hb d_Mo_fits_75 (by decide) ?_
    exact W.zret (v := nI 0) hx hb hr (by rfl) (fun t ht hW => ⟨⟨nI 0, (), rfl, by rw [hE]; rfl, by rw [ht]; rw [hE]; exact hP, by rw [hE]; exact hD⟩, hS.F ht⟩) hS.2.2 d_Mo_fits_76
  · refine rv_eq (y := nI 1) (rfl) ?_
    refine rv_if_eq (tgt := 75) hx hb d_Mo_fits_30 (by decide) (by omega) (fun c_30 => absurd c_30 (by omega)) (fun c_30 => ?_)
    refine lv_aload_n hx hb d_Mo_fits_33 rfl (lv_at hl 1 rfl) ?_
    refine lv_iload_n hx hb d_Mo_fits_34 rfl (lv_at hl 0 rfl) ?_
    refine lv_bipush (v := nI 64) hx hb d_Mo_fits_35 (by decide) ?_
    refine rv_idiv hx hb d_Mo_fits_37 (by omega) (by omega) (by omega) ?_
    refine lv_bipush (v := nI 64) hx hb d_Mo_fits_38 (by decide) ?_
    refine rv_irem hx hb d_Mo_fits_40 (by omega) (by omega) (by omega) ?_
    refine rv_eq (y := nI k1) (congrArg nI (by omega)) ?_
    refine lv_iload_n hx hb d_Mo_fits_41 rfl (lv_at hl 2 rfl) ?_
    refine lv_bipush (v := nI 32) hx hb d_Mo_fits_42 (by decide) ?_
    refine rv_idiv hx hb d_Mo_fits_44 (by omega) (by omega) (by omega) ?_
    refine lv_bipush (v := nI 32) hx hb d_Mo_fits_45 (by decide) ?_
    refine rv_irem hx hb d_Mo_fits_47 (by omega) (by omega) (by omega) ?_
    refine lv_iconst (v := nI 1) hx hb d_Mo_fits_48 (by decide) ?_
    have hPc := hP.sub (ws' := [(m0, .inr (4, [.ref aS, .int (nI scn), .ref aO, .int (rb_z kn), .int (rb_z lg), .int (nI gr), .ref aR, .ref aC, .ref aH, .int (nI mn), .ref aA, .ref aL, .ref aB, .int (nI l0), .int (nI r)])), (aL, .inl (dA, 48, .inl (rlf I0.1.1))), (aB, .inl (dA, 12, .inl (rnf I0.1.2)))]) [0, 1, 2] rfl
    have hDc := hD.sub (ws' := [(m0, .inr (4, [.ref aS, .int (nI scn), .ref aO, .int (rb_z kn), .int (rb_z lg), .int (nI gr), .ref aR, .ref aC, .ref aH, .int (nI mn), .ref aA, .ref aL, .ref aB, .int (nI l0), .int (nI r)])), (aL, .inl (dA, 48, .inl (rlf I0.1.1))), (aB, .inl (dA, 12, .inl (rnf I0.1.2)))]) [0, 1, 2] (by decide) rfl
    have hFc := va_free (wc := [(m0, .inr (4, [.ref aS, .int (nI scn), .ref aO, .int (rb_z kn), .int (rb_z lg), .int (nI gr), .ref aR, .ref aC, .ref aH, .int (nI mn), .ref aA, .ref aL, .ref aB, .int (nI l0), .int (nI r)])), (aL, .inl (dA, 48, .inl (rlf I0.1.1))), (aB, .inl (dA, 12, .inl (rnf I0.1.2)))]) hD hS hA [0, 1, 2] rfl
    refine va_calli (va_runV (As := [.int (nI k1), .int (nI ((c0 / 32) % 32)), .int (nI 1)]) (rest := []) ⟨hx, hb, hml, hown, hts⟩ (c_Mo_fitsItem l dC dI dA dZ m0 aS aO aR aC aH aA aL aB scn gr mn r kn lg l0 k1 ((c0 / 32) % 32) 1 I0.1.1 I0.1.2 H.size hl0 (hk1) (by omega) (by omega) (hok0.1)) (cwV 3 hts (rg_V (rg4 m_515 m_517 s_11 m_6) k_Mo_fitsItem) rfl rfl rfl (by decide +kernel) ⟨Nat.le_of_ble_eq_true rfl, Nat.le_of_ble_eq_true rfl⟩) ⟨fun a U g mk q => ⟨q.1, q.2.1, q.2.2.1, va_K.moved (u := U) (U := U.calling g mk a) (Vm.Alike.refl U.vm) q.2.2.2.1, q.2.2.2.2⟩, va_recv hK hPc (ci := 4) (q0 := 0) rfl rfl, fun U hU hW => ⟨rfl, by rw [hU], by rw [hU]; exact hPc, va_K.moved hW.alike hK, hDc.weaken (fun _ _ _ _ => trivial)⟩⟩ rfl rfl hl.1 rfl (lv_room (Nat.le_of_ble_eq_true rfl)) d_Mo_fits_49 ⟨Nat.zero_le _, Nat.zero_le _⟩) hS (fun q _ h => hFc q h) hFc (fun r9 u t H1 locs ht hvm hw hB hz1 hk1 hS => ?_)
    subst hw
    obtain ⟨hP1, hD1⟩ := hB
    rw [ht] at hP1
    obtain ⟨hP, hD⟩ := va_join (wr := []) (w1 := [(m0, .inr (4, [.ref aS, .int (nI scn), .ref aO, .int (rb_z kn), .int (rb_z lg), .int (nI gr), .ref aR, .ref aC, .ref aH, .int (nI mn), .ref aA, .ref aL, .ref aB, .int (nI l0), .int (nI r)])), (aL, .inl (dA, 48, .inl (rlf ((mi_item k1 ((c0 / 32) % 32) (3 * l0 + 1) I0.1.1 I0.1.2).1.1)))), (aB, .inl (dA, 12, .inl (rnf ((mi_item k1 ((c0 / 32) % 32) (3 * l0 + 1) I0.1.1 I0.1.2).1.2))))]) hP hD [0, 1, 2] [] rfl rfl (by decide) (by decide) hk1 hFc hP1 hD1
    clear hk1 hFc hPc hDc hP1 hD1
    generalize H1 = H at hP hS ⊢
    have hP : va_P (dC, dI) classes [(m0, .inr (4, [.ref aS, .int (nI scn), .ref aO, .int (rb_z kn), .int (rb_z lg), .int (nI gr), .ref aR, .ref aC, .ref aH, .int (nI mn), .ref aA, .ref aL, .ref aB, .int (nI l0), .int (nI r)])), (aL, .inl (dA, 48, .inl (rlf ((mi_item k1 ((c0 / 32) % 32) (3 * l0 + 1) I0.1.1 I0.1.2).1.1)))), (aB, .inl (dA, 12, .inl (rnf ((mi_item k1 ((c0 / 32) % 32) (3 * l0 + 1) I0.1.1 I0.1.2).1.2))))] H := hP.sub [0, 1, 2] rfl
    have hD : va_D A [(m0, .inr (4, [.ref aS, .int (nI scn), .ref aO, .int (rb_z kn), .int (rb_z lg), .int (nI gr), .ref aR, .ref aC, .ref aH, .int (nI mn), .ref aA, .ref aL, .ref aB, .int (nI l0), .int (nI r)])), (aL, .inl (dA, 48, .inl (rlf ((mi_item k1 ((c0 / 32) % 32) (3 * l0 + 1) I0.1.1 I0.1.2).1.1)))), (aB, .inl (dA, 12, .inl (rnf ((mi_item k1 ((c0 / 32) % 32) (3 * l0 + 1) I0.1.1 I0.1.2).1.2))))] := hD.sub [0, 1, 2] (by decide) rfl
    generalize hI1 : mi_item k1 ((c0 / 32) % 32) (3 * l0 + 1) I0.1.1 I0.1.2 = I1 at hP hD hE ⊢
    have hok1 := mi_item_ok (q := 3 * l0 + 1) hk1 (show c0 / 32 % 32 < 32 by omega) hok0.1 hok0.2
    rw [hI1] at hok1
    rcases hf1 : I1.2 with _ | _
    · refine rv_eq (y := nI 0) (rfl) ?_
      rw [if_pos hf0, if_neg (by rw [hf1]; simp)] at hE
      refine rv_if_eq (tgt := 75) hx hb d_Mo_fits_52 (by decide) (by omega) (fun c_52 => ?_) (fun c_52 => absurd c_52 (by omega))
      refine lv_iconst (v := nI 0) hx hb d_Mo_fits_75 (by decide) ?_
      exact W.zret (v := nI 0) hx hb hr (by rfl) (fun t ht hW => ⟨⟨nI 0, (), rfl, by rw [hE]; rfl, by rw [ht]; rw [hE]; exact hP, by rw [hE]; exact hD⟩, hS.F ht⟩) hS.2.2 d_Mo_fits_76
    · refine rv_eq (y := nI 1) (rfl) ?_
      refine rv_if_eq (tgt := 75) hx hb d_Mo_fits_52 (by decide) (by omega) (fun c_52 => absurd c_52 (by omega)) (fun c_52 => ?_)
      refine lv_aload_n hx hb d_Mo_fits_55 rfl (lv_at hl 1 rfl) ?_
      refine lv_iload_n hx hb d_Mo_fits_56 rfl (lv_at hl 0 rfl) ?_
      refine lv_bipush (v := nI 64) hx hb d_Mo_fits_57 (by decide) ?_
      refine rv_irem hx hb d_Mo_fits_59 (by omega) (by omega) (by omega) ?_
      refine rv_eq (y := nI k2) (congrArg nI (by omega)) ?_
      refine lv_iload_n hx hb d_Mo_fits_60 rfl (lv_at hl 2 rfl) ?_
      refine lv_bipush (v := nI 32) hx hb d_Mo_fits_61 (by decide) ?_
      refine rv_irem hx hb d_Mo_fits_63 (by omega) (by omega) (by omega) ?_
      refine lv_iconst (v := nI 2) hx hb d_Mo_fits_64 (by decide) ?_
      have hPc := hP.sub (ws' := [(m0, .inr (4, [.ref aS, .int (nI scn), .ref aO, .int (rb_z kn), .int (rb_z lg), .int (nI gr), .ref aR, .ref aC, .ref aH, .int (nI mn), .ref aA, .ref aL, .ref aB, .int (nI l0), .int (nI r)])), (aL, .inl (dA, 48, .inl (rlf I1.1.1))), (aB, .inl (dA, 12, .inl (rnf I1.1.2)))]) [0, 1, 2] rfl
      have hDc := hD.sub (ws' := [(m0, .inr (4, [.ref aS, .int (nI scn), .ref aO, .int (rb_z kn), .int (rb_z lg), .int (nI gr), .ref aR, .ref aC, .ref aH, .int (nI mn), .ref aA, .ref aL, .ref aB, .int (nI l0), .int (nI r)])), (aL, .inl (dA, 48, .inl (rlf I1.1.1))), (aB, .inl (dA, 12, .inl (rnf I1.1.2)))]) [0, 1, 2] (by decide) rfl
      have hFc := va_free (wc := [(m0, .inr (4, [.ref aS, .int (nI scn), .ref aO, .int (rb_z kn), .int (rb_z lg), .int (nI gr), .ref aR, .ref aC, .ref aH, .int (nI mn), .ref aA, .ref aL, .ref aB, .int (nI l0), .int (nI r)])), (aL, .inl (dA, 48, .inl (rlf I1.1.1))), (aB, .inl (dA, 12, .inl (rnf I1.1.2)))]) hD hS hA [0, 1, 2] rfl
      refine va_calli (va_runV (As := [.int (nI k2), .int (nI (c0 % 32)), .int (nI 2)]) (rest := []) ⟨hx, hb, hml, hown, hts⟩ (c_Mo_fitsItem l dC dI dA dZ m0 aS aO aR aC aH aA aL aB scn gr mn r kn lg l0 k2 (c0 % 32) 2 I1.1.1 I1.1.2 H.size hl0 (hk2) (by omega) (by omega) (hok1.1)) (cwV 3 hts (rg_V (rg4 m_515 m_517 s_11 m_6) k_Mo_fitsItem) rfl rfl rfl (by decide +kernel) ⟨Nat.le_of_ble_eq_true rfl, Nat.le_of_ble_eq_true rfl⟩) ⟨fun a U g mk q => ⟨q.1, q.2.1, q.2.2.1, va_K.moved (u := U) (U := U.calling g mk a) (Vm.Alike.refl U.vm) q.2.2.2.1, q.2.2.2.2⟩, va_recv hK hPc (ci := 4) (q0 := 0) rfl rfl, fun U hU hW => ⟨rfl, by rw [hU], by rw [hU]; exact hPc, va_K.moved hW.alike hK, hDc.weaken (fun _ _ _ _ => trivial)⟩⟩ rfl rfl hl.1 rfl (lv_room (Nat.le_of_ble_eq_true rfl)) d_Mo_fits_65 ⟨Nat.zero_le _, Nat.zero_le _⟩) hS (fun q _ h => hFc q h) hFc (fun r9 u t H1 locs ht hvm hw hB hz1 hk1 hS => ?_)
      subst hw
      obtain ⟨hP1, hD1⟩ := hB
      rw [ht] at hP1
      obtain ⟨hP, hD⟩ := va_join (wr := []) (w1 := [(m0, .inr (4, [.ref aS, .int (nI scn), .ref aO, .int (rb_z kn), .int (rb_z lg), .int (nI gr), .ref aR, .ref aC, .ref aH, .int (nI mn), .ref aA, .ref aL, .ref aB, .int (nI l0), .int (nI r)])), (aL, .inl (dA, 48, .inl (rlf ((mi_item k2 (c0 % 32) (3 * l0 + 2) I1.1.1 I1.1.2).1.1)))), (aB, .inl (dA, 12, .inl (rnf ((mi_item k2 (c0 % 32) (3 * l0 + 2) I1.1.1 I1.1.2).1.2))))]) hP hD [0, 1, 2] [] rfl rfl (by decide) (by decide) hk1 hFc hP1 hD1
      clear hk1 hFc hPc hDc hP1 hD1
      generalize H1 = H at hP hS ⊢
      have hP : va_P (dC, dI) classes [(m0, .inr (4, [.ref aS, .int (nI scn), .ref aO, .int (rb_z kn), .int (rb_z lg), .int (nI gr), .ref aR, .ref aC, .ref aH, .int (nI mn), .ref aA, .ref aL, .ref aB, .int (nI l0), .int (nI r)])), (aL, .inl (dA, 48, .inl (rlf ((mi_item k2 (c0 % 32) (3 * l0 + 2) I1.1.1 I1.1.2).1.1)))), (aB, .inl (dA, 12, .inl (rnf ((mi_item k2 (c0 % 32) (3 * l0 + 2) I1.1.1 I1.1.2).1.2))))] H := hP.sub [0, 1, 2] rfl
      have hD : va_D A [(m0, .inr (4, [.ref aS, .int (nI scn), .ref aO, .int (rb_z kn), .int (rb_z lg), .int (nI gr), .ref aR, .ref aC, .ref aH, .int (nI mn), .ref aA, .ref aL, .ref aB, .int (nI l0), .int (nI r)])), (aL, .inl (dA, 48, .inl (rlf ((mi_item k2 (c0 % 32) (3 * l0 + 2) I1.1.1 I1.1.2).1.1)))), (aB, .inl (dA, 12, .inl (rnf ((mi_item k2 (c0 % 32) (3 * l0 + 2) I1.1.1 I1.1.2).1.2))))] := hD.sub [0, 1, 2] (by decide) rfl
      generalize hI2 : mi_item k2 (c0 % 32) (3 * l0 + 2) I1.1.1 I1.1.2 = I2 at hP hD hE ⊢
      have hok2 := mi_item_ok (q := 3 * l0 + 2) hk2 (show c0 % 32 < 32 by omega) hok1.1 hok1.2
      rw [hI2] at hok2
      rcases hf2 : I2.2 with _ | _
      · refine rv_eq (y := nI 0) (rfl) ?_
        rw [if_pos hf0, if_pos hf1] at hE
        refine rv_if_eq (tgt := 75) hx hb d_Mo_fits_68 (by decide) (by omega) (fun c_68 => ?_) (fun c_68 => absurd c_68 (by omega))
        refine lv_iconst (v := nI 0) hx hb d_Mo_fits_75 (by decide) ?_
        exact W.zret (v := nI 0) hx hb hr (by rfl) (fun t ht hW => ⟨⟨nI 0, (), rfl, by rw [hE, hf2]; rfl, by rw [ht]; rw [hE]; exact hP, by rw [hE]; exact hD⟩, hS.F ht⟩) hS.2.2 d_Mo_fits_76
      · refine rv_eq (y := nI 1) (rfl) ?_
        rw [if_pos hf0, if_pos hf1] at hE
        refine rv_if_eq (tgt := 75) hx hb d_Mo_fits_68 (by decide) (by omega) (fun c_68 => absurd c_68 (by omega)) (fun c_68 => ?_)
        refine lv_iconst (v := nI 1) hx hb d_Mo_fits_71 (by decide) ?_
        refine lv_goto (tgt := 76) hx hb d_Mo_fits_72 (by decide) ?_
        exact W.zret (v := nI 1) hx hb hr (by rfl) (fun t ht hW => ⟨⟨nI 1, (), rfl, by rw [hE, hf2]; rfl, by rw [ht]; rw [hE]; exact hP, by rw [hE]; exact hD⟩, hS.F ht⟩) hS.2.2 d_Mo_fits_76
