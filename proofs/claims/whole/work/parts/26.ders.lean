set_option maxHeartbeats 4000000 in
set_option maxRecDepth 100000 in
theorem c_De_rulesInReach (l : Launch) (dC : Nat → ClassId) (dI : Nat → Nat → Nat) (dA : ClassId) (tP tG tC d0 qc aT t1 t2 t3 aU u1 u2 u3 qk qr : Nat) (he : sT) (now : Nat) (st : sD) : Met l y_De_rulesInReach (w_ y_De_rulesInReach b_De_rulesInReach 4 (some .int)) (rm_ 2) (va_Pc [.ref d0] (fun U => va_K (dC, dI) classes [(dA, .int)] U ∧ va_P (dC, dI) classes [(d0, .inr (2, [.ref aT, .ref qc, .ref aU, .ref qk, .ref qr, .int (nI now), .int (nI st.2.2.2.2.1), .int (rb_z st.2.2.2.2.2)])), (aT, .inr (1, [.ref t1, .ref t2, .ref t3, .int he.2.2.2])), (t1, .inl (dA, 1024, .inl he.1)), (t2, .inl (dA, 32, .inl he.2.1)), (t3, .inl (dA, 32, .inl he.2.2.1))] U.heap ∧ rn_ U ∧ rz_ tP tG tC (fun _ => False) U)) (va_Qi (fun (z9 : Int32) (_ : Unit) => z9 = rd_reach he.2.1 21 0 (nI 0)) (fun _ _ => True) (fun _ => False)) 0 0 (fun _ => False) := by
  refine Met.ofW (cc := b_De_rulesInReach) (maxL := 4) (ret := (some .int)) (by decide) rfl ?_
  intro p e s m args below meth c s₁ B hml hv
  obtain ⟨rfl, hK, hP, hN, hZ⟩ := hv
  have hx := B.exec
  have hb := B.bytes
  have hr := B.returns
  have hts := atoms_spec (ws := (w_ y_De_rulesInReach b_De_rulesInReach 4 (some .int))) B.pre
  have hown : s.vm.findClass R_De = some m.cls := findClass_of_methodNamed B.named
  have hlocks := B.notSynchronized
  have hS : va_S (fun _ => False) s.heap s.heap [] := va_S.rf
  have hl := lv_entry ([.ref d0]) (n := 4) (Nat.le_of_ble_eq_true rfl)
  rw [lg_entry_eq]
  generalize (lg_sl ([.ref d0]) ++ List.replicate (4 - (lg_sl ([.ref d0])).length) Slot.unset).toArray = ls at hl ⊢
  have hl : lv_has ls 4 [(0, .ref d0)] := hl
  refine lv_iconst (v := nI 0) hx hb d_De_rulesInReach_0 (by decide) ?_
  refine lv_istore_n (lv' := [(1, .int (nI 0)), (0, .ref d0)]) hx hb d_De_rulesInReach_1 rfl hl (by decide) rfl (fun ls hl => ?_)
  refine lv_iconst (v := nI 0) hx hb d_De_rulesInReach_2 (by decide) ?_
  refine lv_istore_n (lv' := [(2, .int (nI 0)), (1, .int (nI 0)), (0, .ref d0)]) hx hb d_De_rulesInReach_3 rfl hl (by decide) rfl (fun ls hl => ?_)
  refine rv_Q (fun Q hQ => ?_)
  have lp : ∀ (n : Nat) (row : Nat) (mm : Int32) (H : Heap) (locs : List Loc) (ls : Array Slot), row + n = 21 → rd_reach he.2.1 n row mm = rd_reach he.2.1 21 0 (nI 0) → va_P (dC, dI) classes [(d0, .inr (2, [.ref aT, .ref qc, .ref aU, .ref qk, .ref qr, .int (nI now), .int (nI st.2.2.2.2.1), .int (rb_z st.2.2.2.2.2)])), (aT, .inr (1, [.ref t1, .ref t2, .ref t3, .int he.2.2.2])), (t1, .inl (dA, 1024, .inl he.1)), (t2, .inl (dA, 32, .inl he.2.1)), (t3, .inl (dA, 32, .inl he.2.2.1))] H → va_S (fun _ => False) s.heap H locs → lv_has ls 4 [(2, .int (nI row)), (1, .int mm), (0, .ref d0)] → W p l e (headSpec (w_ y_De_rulesInReach b_De_rulesInReach 4 (some .int)) (rm_ 2)).room s m ([.ref d0] : List Value).toArray below meth c H locs 0 0 Q (F0 m 4 ls []) := by
    intro n
    induction n with
    | zero =>
      intro row mm H locs ls hn hR hP hS hl
      refine lv_iload_n hx hb d_De_rulesInReach_4 rfl (lv_at hl 0 rfl) ?_
      refine lv_bipush (v := nI 21) hx hb d_De_rulesInReach_5 (by decide) ?_
      refine rv_icmp_ge (tgt := 46) hx hb d_De_rulesInReach_7 (by decide) (by omega) (by omega) (fun c_7 => ?_) (fun c_7 => absurd c_7 (by omega))
      refine lv_iload_n hx hb d_De_rulesInReach_46 rfl (lv_at hl 1 rfl) ?_
      subst hQ
      exact W.iret (v := mm) hx hb hr (fun t ht hW => ⟨⟨mm, (), rfl, hR, trivial⟩, hS.F ht⟩) hS.2.2 d_De_rulesInReach_47
    | succ n ih =>
      intro row mm H locs ls hn hR hP hS hl
      have hpp := rq_prem_p row (by omega)
      refine lv_iload_n hx hb d_De_rulesInReach_4 rfl (lv_at hl 0 rfl) ?_
      refine lv_bipush (v := nI 21) hx hb d_De_rulesInReach_5 (by decide) ?_
      refine rv_icmp_ge (tgt := 46) hx hb d_De_rulesInReach_7 (by decide) (by omega) (by omega) (fun c_7 => absurd c_7 (by omega)) (fun c_7 => ?_)
      refine va_gets hx hb hZ.1.1 hS hown (hts _ (List.mem_cons_of_mem _ m_188)) (fun _ h9 => h9) d_De_rulesInReach_10 ?_
      refine lv_iload_n hx hb d_De_rulesInReach_13 rfl (lv_at hl 0 rfl) ?_
      refine lv_iconst (v := nI 0) hx hb d_De_rulesInReach_14 (by decide) ?_
      refine rv_calli (r := nI (12 * row + 3 * 0)) (va_runS (As := [.int (nI row), .int (nI 0)]) (rest := [.ref tP]) ⟨hx, hb, hml, hown, hts⟩ (c_Tb_premiseAt l row 0) (va_cwS 2 hts (rg_S (rg3 m_190 m_191 m_8) k_Tb_premiseAt) rfl rfl rfl (by decide +kernel) ⟨Nat.le_of_ble_eq_true rfl, Nat.le_of_ble_eq_true rfl⟩) ⟨fun _ _ _ _ q => q, fun U hU hW => ⟨rfl, trivial⟩⟩ rfl rfl hl.1 rfl (lv_room (Nat.le_of_ble_eq_true rfl)) d_De_rulesInReach_15 ⟨Nat.zero_le _, Nat.zero_le _⟩) hS (fun _ h => h.elim) (fun H locs hk hS => ?_)
      have hP := rv_kept hP hk
      refine lv_iconst (v := nI 1) hx hb d_De_rulesInReach_18 (by decide) ?_
      refine rv_iadd hx hb d_De_rulesInReach_19 ?_
      refine rv_ti (k := ((12 * row + 3 * 0) + 1)) hx hb hZ.1.2 hS (by omega) (by decide) (v := .int (nI (rq_prem.getD ((12 * row + 3 * 0) + 1) 0))) rfl d_De_rulesInReach_20 ?_
      refine lv_istore_n (lv' := [(3, .int (nI (rq_prem.getD ((12 * row + 3 * 0) + 1) 0))), (2, .int (nI row)), (1, .int mm), (0, .ref d0)]) hx hb d_De_rulesInReach_21 rfl hl (by decide) rfl (fun ls hl => ?_)
      refine lv_aload_n hx hb d_De_rulesInReach_22 rfl (lv_at hl 3 rfl) ?_
      refine va_get (D := (dC, dI)) (ci := 2) (v := .ref aT) (C := R_De) (T := F_De) (N := 8) hx hb hts (rg_c i_De) hown hK hP 0 rfl rfl 0 (by decide) (hts _ (List.mem_cons_of_mem _ m_61)) (fun x9 h9 => u_same (hts _ (List.mem_cons_of_mem _ m_62)) x9 h9) rfl d_De_rulesInReach_23 ?_
      refine lv_iconst (v := (-1)) hx hb d_De_rulesInReach_26 (by decide) ?_
      refine lv_iload_n hx hb d_De_rulesInReach_27 rfl (lv_at hl 0 rfl) ?_
      refine rv_calli (r := rx_ss he.2.1 he.2.2.2 none (some (rq_prem.getD ((12 * row + 3 * 0) + 1) 0))) (va_runV (As := [.int (-1), .int (nI (rq_prem.getD ((12 * row + 3 * 0) + 1) 0))]) (rest := []) ⟨hx, hb, hml, hown, hts⟩ (c_Tr_subjectsFor l dC dI dA aT t1 t2 t3 he.1 he.2.1 he.2.2.1 he.2.2.2 none (some (rq_prem.getD ((12 * row + 3 * 0) + 1) 0)) (fun _ h => by cases h) (fun x hx => by cases hx; exact hpp)) (cwV 2 hts (rg_V (rg4 m_193 m_194 m_195 m_2) k_Tr_subjectsFor) rfl rfl rfl (by decide +kernel) ⟨Nat.le_of_ble_eq_true rfl, Nat.le_of_ble_eq_true rfl⟩) ⟨fun a U g mk q => ⟨q.1, va_K.moved (u := U) (U := U.calling g mk a) (Vm.Alike.refl U.vm) q.2.1, q.2.2.1, rn_same (u := U) (U := U.calling g mk a) rfl q.2.2.2⟩, va_recv hK hP (ci := 1) (q0 := 1) rfl rfl, fun U hU hW => ⟨rfl, va_K.moved hW.alike hK, by rw [hU]; exact hP.sub (ws' := [(aT, .inr (1, [.ref t1, .ref t2, .ref t3, .int he.2.2.2])), (t1, .inl (dA, 1024, .inl he.1)), (t2, .inl (dA, 32, .inl he.2.1)), (t3, .inl (dA, 32, .inl he.2.2.1))]) [1, 2, 3, 4] rfl, rn_warm hW hN⟩⟩ rfl rfl hl.1 rfl (lv_room (Nat.le_of_ble_eq_true rfl)) d_De_rulesInReach_28 ⟨Nat.zero_le _, Nat.zero_le _⟩) hS (fun _ h => h.elim) (fun H locs hk hS => ?_)
      have hP := rv_kept hP hk
      refine rv_eq (y := he.2.1 (rq_prem.getD (12 * row + 3 * 0 + 1) 0)) (rfl) ?_
      refine lv_if_eq (tgt := 40) hx hb d_De_rulesInReach_31 (by decide) (fun c_31 => ?_) (fun c_31 => ?_)
      · have hR2 : rd_reach he.2.1 n (row + 1) mm = rd_reach he.2.1 21 0 (nI 0) := by rw [← hR]; show _ = rd_reach _ n (row + 1) (if _ then _ else _); rw [if_pos c_31]
        refine rv_inc (k := 1) (lv' := [(2, .int (nI (row + 1))), (3, .int (nI (rq_prem.getD ((12 * row + 3 * 0) + 1) 0))), (1, .int mm), (0, .ref d0)]) hx hb d_De_rulesInReach_40 hl rfl (by decide) rfl (fun ls hl => ?_)
        refine lv_goto (tgt := 4) hx hb d_De_rulesInReach_43 (by decide) ?_
        exact ih (row + 1) mm _ _ _ (by omega) (hR2) hP hS (lv_sub hl [0, 2, 3] rfl)
      · have hR2 : rd_reach he.2.1 n (row + 1) (mm ||| (nI 1) <<< (nI row &&& 31)) = rd_reach he.2.1 21 0 (nI 0) := by rw [← hR]; show _ = rd_reach _ n (row + 1) (if _ then _ else _); rw [if_neg c_31]
        refine lv_iload_n hx hb d_De_rulesInReach_34 rfl (lv_at hl 2 rfl) ?_
        refine lv_iconst (v := nI 1) hx hb d_De_rulesInReach_35 (by decide) ?_
        refine lv_iload_n hx hb d_De_rulesInReach_36 rfl (lv_at hl 1 rfl) ?_
        refine lv_ishl hx hb d_De_rulesInReach_37 ?_
        refine lv_ior hx hb d_De_rulesInReach_38 ?_
        refine lv_istore_n (lv' := [(1, .int (mm ||| ((nI 1) <<< ((nI row) &&& 31)))), (3, .int (nI (rq_prem.getD ((12 * row + 3 * 0) + 1) 0))), (2, .int (nI row)), (0, .ref d0)]) hx hb d_De_rulesInReach_39 rfl hl (by decide) rfl (fun ls hl => ?_)
        refine rv_inc (k := 2) (lv' := [(2, .int (nI (row + 1))), (1, .int (mm ||| ((nI 1) <<< ((nI row) &&& 31)))), (3, .int (nI (rq_prem.getD ((12 * row + 3 * 0) + 1) 0))), (0, .ref d0)]) hx hb d_De_rulesInReach_40 hl rfl (by decide) rfl (fun ls hl => ?_)
        refine lv_goto (tgt := 4) hx hb d_De_rulesInReach_43 (by decide) ?_
        exact ih (row + 1) (mm ||| (nI 1) <<< (nI row &&& 31)) _ _ _ (by omega) (hR2) hP hS (lv_sub hl [0, 1, 3] rfl)
  exact lp 21 0 (nI 0) _ _ _ (by omega) (rfl) hP hS (lv_sub hl [0, 1, 2] rfl)

set_option maxHeartbeats 4000000 in
set_option maxRecDepth 100000 in
theorem c_De_applyRules (l : Launch) (dC : Nat → ClassId) (dI : Nat → Nat → Nat) (dA : ClassId) (tP tG tC d0 qc aT t1 t2 t3 aU u1 u2 u3 qk qr : Nat) (he : sT) (now c0 : Nat) (x : Int32) (st : sD) (sz : Nat) (hc : c0 < 32768) (hok : rd_ok st) : Met l y_De_applyRules (w_ y_De_applyRules b_De_applyRules 9 none) (rm_ 8) (va_Pc [.ref d0, .int (nI c0), .int x] (fun U => U.heap.size = sz ∧ va_P (dC, dI) classes [(d0, .inr (2, [.ref aT, .ref qc, .ref aU, .ref qk, .ref qr, .int (nI now), .int (nI st.2.2.2.2.1), .int (rb_z st.2.2.2.2.2)])), (qc, .inl (dA, 4, .inl st.1)), (aT, .inr (1, [.ref t1, .ref t2, .ref t3, .int he.2.2.2])), (t1, .inl (dA, 1024, .inl he.1)), (t2, .inl (dA, 32, .inl he.2.1)), (t3, .inl (dA, 32, .inl he.2.2.1)), (aU, .inr (1, [.ref u1, .ref u2, .ref u3, .int st.2.1.2.2.2])), (u1, .inl (dA, 1024, .inl st.2.1.1)), (u2, .inl (dA, 32, .inl st.2.1.2.1)), (u3, .inl (dA, 32, .inl st.2.1.2.2.1)), (qk, .inl (dA, 400, .inl st.2.2.1)), (qr, .inl (dA, 400, .inl st.2.2.2.1))] U.heap ∧ va_K (dC, dI) classes [(dA, .int)] U ∧ va_D (fun _ => True) [(d0, .inr (2, [.ref aT, .ref qc, .ref aU, .ref qk, .ref qr, .int (nI now), .int (nI st.2.2.2.2.1), .int (rb_z st.2.2.2.2.2)])), (qc, .inl (dA, 4, .inl st.1)), (aT, .inr (1, [.ref t1, .ref t2, .ref t3, .int he.2.2.2])), (t1, .inl (dA, 1024, .inl he.1)), (t2, .inl (dA, 32, .inl he.2.1)), (t3, .inl (dA, 32, .inl he.2.2.1)), (aU, .inr (1, [.ref u1, .ref u2, .ref u3, .int st.2.1.2.2.2])), (u1, .inl (dA, 1024, .inl st.2.1.1)), (u2, .inl (dA, 32, .inl st.2.1.2.1)), (u3, .inl (dA, 32, .inl st.2.1.2.2.1)), (qk, .inl (dA, 400, .inl st.2.2.1)), (qr, .inl (dA, 400, .inl st.2.2.2.1))] ∧ rn_ U ∧ rz_ tP tG tC (va_A [(d0, .inr (2, [.ref aT, .ref qc, .ref aU, .ref qk, .ref qr, .int (nI now), .int (nI st.2.2.2.2.1), .int (rb_z st.2.2.2.2.2)])), (qc, .inl (dA, 4, .inl st.1)), (aT, .inr (1, [.ref t1, .ref t2, .ref t3, .int he.2.2.2])), (t1, .inl (dA, 1024, .inl he.1)), (t2, .inl (dA, 32, .inl he.2.1)), (t3, .inl (dA, 32, .inl he.2.2.1)), (aU, .inr (1, [.ref u1, .ref u2, .ref u3, .int st.2.1.2.2.2])), (u1, .inl (dA, 1024, .inl st.2.1.1)), (u2, .inl (dA, 32, .inl st.2.1.2.1)), (u3, .inl (dA, 32, .inl st.2.1.2.2.1)), (qk, .inl (dA, 400, .inl st.2.2.1)), (qr, .inl (dA, 400, .inl st.2.2.2.1))] sz) U)) (va_Qv (fun (_ : Unit) => True) (fun (_ : Unit) t => va_P (dC, dI) classes [(d0, .inr (2, [.ref aT, .ref qc, .ref aU, .ref qk, .ref qr, .int (nI now), .int (nI (rd_apply he now x c0 st).2.2.2.2.1), .int (rb_z (rd_apply he now x c0 st).2.2.2.2.2)])), (qc, .inl (dA, 4, .inl (rd_apply he now x c0 st).1)), (aT, .inr (1, [.ref t1, .ref t2, .ref t3, .int he.2.2.2])), (t1, .inl (dA, 1024, .inl he.1)), (t2, .inl (dA, 32, .inl he.2.1)), (t3, .inl (dA, 32, .inl he.2.2.1)), (aU, .inr (1, [.ref u1, .ref u2, .ref u3, .int ((rd_apply he now x c0 st).2.1.2.2.2)])), (u1, .inl (dA, 1024, .inl ((rd_apply he now x c0 st).2.1.1))), (u2, .inl (dA, 32, .inl ((rd_apply he now x c0 st).2.1.2.1))), (u3, .inl (dA, 32, .inl ((rd_apply he now x c0 st).2.1.2.2.1))), (qk, .inl (dA, 400, .inl (rd_apply he now x c0 st).2.2.1)), (qr, .inl (dA, 400, .inl (rd_apply he now x c0 st).2.2.2.1))] t.heap ∧ va_D (va_A [(d0, .inr (2, [.ref aT, .ref qc, .ref aU, .ref qk, .ref qr, .int (nI now), .int (nI st.2.2.2.2.1), .int (rb_z st.2.2.2.2.2)])), (qc, .inl (dA, 4, .inl st.1)), (aT, .inr (1, [.ref t1, .ref t2, .ref t3, .int he.2.2.2])), (t1, .inl (dA, 1024, .inl he.1)), (t2, .inl (dA, 32, .inl he.2.1)), (t3, .inl (dA, 32, .inl he.2.2.1)), (aU, .inr (1, [.ref u1, .ref u2, .ref u3, .int st.2.1.2.2.2])), (u1, .inl (dA, 1024, .inl st.2.1.1)), (u2, .inl (dA, 32, .inl st.2.1.2.1)), (u3, .inl (dA, 32, .inl st.2.1.2.2.1)), (qk, .inl (dA, 400, .inl st.2.2.1)), (qr, .inl (dA, 400, .inl st.2.2.2.1))] sz) [(d0, .inr (2, [.ref aT, .ref qc, .ref aU, .ref qk, .ref qr, .int (nI now), .int (nI (rd_apply he now x c0 st).2.2.2.2.1), .int (rb_z (rd_apply he now x c0 st).2.2.2.2.2)])), (qc, .inl (dA, 4, .inl (rd_apply he now x c0 st).1)), (aT, .inr (1, [.ref t1, .ref t2, .ref t3, .int he.2.2.2])), (t1, .inl (dA, 1024, .inl he.1)), (t2, .inl (dA, 32, .inl he.2.1)), (t3, .inl (dA, 32, .inl he.2.2.1)), (aU, .inr (1, [.ref u1, .ref u2, .ref u3, .int ((rd_apply he now x c0 st).2.1.2.2.2)])), (u1, .inl (dA, 1024, .inl ((rd_apply he now x c0 st).2.1.1))), (u2, .inl (dA, 32, .inl ((rd_apply he now x c0 st).2.1.2.1))), (u3, .inl (dA, 32, .inl ((rd_apply he now x c0 st).2.1.2.2.1))), (qk, .inl (dA, 400, .inl (rd_apply he now x c0 st).2.2.1)), (qr, .inl (dA, 400, .inl (rd_apply he now x c0 st).2.2.2.1))]) (va_A [(d0, .inr (2, [.ref aT, .ref qc, .ref aU, .ref qk, .ref qr, .int (nI now), .int (nI st.2.2.2.2.1), .int (rb_z st.2.2.2.2.2)])), (qc, .inl (dA, 4, .inl st.1)), (aT, .inr (1, [.ref t1, .ref t2, .ref t3, .int he.2.2.2])), (t1, .inl (dA, 1024, .inl he.1)), (t2, .inl (dA, 32, .inl he.2.1)), (t3, .inl (dA, 32, .inl he.2.2.1)), (aU, .inr (1, [.ref u1, .ref u2, .ref u3, .int st.2.1.2.2.2])), (u1, .inl (dA, 1024, .inl st.2.1.1)), (u2, .inl (dA, 32, .inl st.2.1.2.1)), (u3, .inl (dA, 32, .inl st.2.1.2.2.1)), (qk, .inl (dA, 400, .inl st.2.2.1)), (qr, .inl (dA, 400, .inl st.2.2.2.1))] sz)) 0 0 (va_A [(d0, .inr (2, [.ref aT, .ref qc, .ref aU, .ref qk, .ref qr, .int (nI now), .int (nI st.2.2.2.2.1), .int (rb_z st.2.2.2.2.2)])), (qc, .inl (dA, 4, .inl st.1)), (aT, .inr (1, [.ref t1, .ref t2, .ref t3, .int he.2.2.2])), (t1, .inl (dA, 1024, .inl he.1)), (t2, .inl (dA, 32, .inl he.2.1)), (t3, .inl (dA, 32, .inl he.2.2.1)), (aU, .inr (1, [.ref u1, .ref u2, .ref u3, .int st.2.1.2.2.2])), (u1, .inl (dA, 1024, .inl st.2.1.1)), (u2, .inl (dA, 32, .inl st.2.1.2.1)), (u3, .inl (dA, 32, .inl st.2.1.2.2.1)), (qk, .inl (dA, 400, .inl st.2.2.1)), (qr, .inl (dA, 400, .inl st.2.2.2.1))] sz) := by
  refine Met.ofW (cc := b_De_applyRules) (maxL := 9) (ret := none) (by decide) rfl ?_
  intro p e s m args below meth c s₁ B hml hv
  obtain ⟨rfl, hsz, hP, hK, hD0, hN, hZ⟩ := hv
  have hx := B.exec
  have hb := B.bytes
  have hr := B.returns
  have hts := atoms_spec (ws := (w_ y_De_applyRules b_De_applyRules 9 none)) B.pre
  have hown : s.vm.findClass R_De = some m.cls := findClass_of_methodNamed B.named
  have hlocks := B.notSynchronized
  subst hsz
  have hD := hD0.self (sz := s.heap.size)
  generalize hAe : va_A [(d0, .inr (2, [.ref aT, .ref qc, .ref aU, .ref qk, .ref qr, .int (nI now), .int (nI st.2.2.2.2.1), .int (rb_z st.2.2.2.2.2)])), (qc, .inl (dA, 4, .inl st.1)), (aT, .inr (1, [.ref t1, .ref t2, .ref t3, .int he.2.2.2])), (t1, .inl (dA, 1024, .inl he.1)), (t2, .inl (dA, 32, .inl he.2.1)), (t3, .inl (dA, 32, .inl he.2.2.1)), (aU, .inr (1, [.ref u1, .ref u2, .ref u3, .int st.2.1.2.2.2])), (u1, .inl (dA, 1024, .inl st.2.1.1)), (u2, .inl (dA, 32, .inl st.2.1.2.1)), (u3, .inl (dA, 32, .inl st.2.1.2.2.1)), (qk, .inl (dA, 400, .inl st.2.2.1)), (qr, .inl (dA, 400, .inl st.2.2.2.1))] s.heap.size = A at hD hZ ⊢
  have hA : ∀ q : Nat, s.heap.size ≤ q → A q := fun q h => by rw [← hAe]; exact Or.inr h
  have hS : va_S A s.heap s.heap [] := va_S.rf
  have hl := lv_entry ([.ref d0, .int (nI c0), .int x]) (n := 9) (Nat.le_of_ble_eq_true rfl)
  rw [lg_entry_eq]
  generalize (lg_sl ([.ref d0, .int (nI c0), .int x]) ++ List.replicate (9 - (lg_sl ([.ref d0, .int (nI c0), .int x])).length) Slot.unset).toArray = ls at hl ⊢
  have hl : lv_has ls 9 [(0, .ref d0), (1, .int (nI c0)), (2, .int x)] := hl
  refine lv_iconst (v := nI 0) hx hb d_De_applyRules_0 (by decide) ?_
  refine lv_istore_n (lv' := [(3, .int (nI 0)), (0, .ref d0), (1, .int (nI c0)), (2, .int x)]) hx hb d_De_applyRules_1 rfl hl (by decide) rfl (fun ls hl => ?_)
  obtain ⟨RES, hRES⟩ : ∃ R, R = rj_fold (rd_F he now c0) st ((List.range' 0 21).flatMap (rd_row x)) := ⟨_, rfl⟩
  rw [show rd_apply he now x c0 st = RES.1 from by rw [hRES]; rfl]
  refine rv_Q (fun Q hQ => ?_)
  have lp : ∀ (n : Nat) (row : Nat) (st : sD) (H : Heap) (locs : List Loc) (ls : Array Slot), row + n = 21 → rd_ok st → rj_fold (rd_F he now c0) st ((List.range' row n).flatMap (rd_row x)) = RES → va_P (dC, dI) classes [(d0, .inr (2, [.ref aT, .ref qc, .ref aU, .ref qk, .ref qr, .int (nI now), .int (nI st.2.2.2.2.1), .int (rb_z st.2.2.2.2.2)])), (qc, .inl (dA, 4, .inl st.1)), (aT, .inr (1, [.ref t1, .ref t2, .ref t3, .int he.2.2.2])), (t1, .inl (dA, 1024, .inl he.1)), (t2, .inl (dA, 32, .inl he.2.1)), (t3, .inl (dA, 32, .inl he.2.2.1)), (aU, .inr (1, [.ref u1, .ref u2, .ref u3, .int st.2.1.2.2.2])), (u1, .inl (dA, 1024, .inl st.2.1.1)), (u2, .inl (dA, 32, .inl st.2.1.2.1)), (u3, .inl (dA, 32, .inl st.2.1.2.2.1)), (qk, .inl (dA, 400, .inl st.2.2.1)), (qr, .inl (dA, 400, .inl st.2.2.2.1))] H → va_D A [(d0, .inr (2, [.ref aT, .ref qc, .ref aU, .ref qk, .ref qr, .int (nI now), .int (nI st.2.2.2.2.1), .int (rb_z st.2.2.2.2.2)])), (qc, .inl (dA, 4, .inl st.1)), (aT, .inr (1, [.ref t1, .ref t2, .ref t3, .int he.2.2.2])), (t1, .inl (dA, 1024, .inl he.1)), (t2, .inl (dA, 32, .inl he.2.1)), (t3, .inl (dA, 32, .inl he.2.2.1)), (aU, .inr (1, [.ref u1, .ref u2, .ref u3, .int st.2.1.2.2.2])), (u1, .inl (dA, 1024, .inl st.2.1.1)), (u2, .inl (dA, 32, .inl st.2.1.2.1)), (u3, .inl (dA, 32, .inl st.2.1.2.2.1)), (qk, .inl (dA, 400, .inl st.2.2.1)), (qr, .inl (dA, 400, .inl st.2.2.2.1))] → va_S A s.heap H locs → lv_has ls 9 [(3, .int (nI row)), (0, .ref d0), (1, .int (nI c0)), (2, .int x)] → W p l e (headSpec (w_ y_De_applyRules b_De_applyRules 9 none) (rm_ 8)).room s m ([.ref d0, .int (nI c0), .int x] : List Value).toArray below meth c H locs 0 0 Q (F0 m 2 ls []) := by
    intro n
    induction n with
    | zero =>
      intro row st H locs ls hn hok hR hP hD hS hl
      refine lv_iload_n hx hb d_De_applyRules_2 rfl (lv_at hl 0 rfl) ?_
      refine lv_bipush (v := nI 21) hx hb d_De_applyRules_3 (by decide) ?_
      refine rv_icmp_ge (tgt := 91) hx hb d_De_applyRules_5 (by decide) (by omega) (by omega) (fun c_5 => ?_) (fun c_5 => absurd c_5 (by omega))
      subst hQ
      exact W.vret hx hb hr (fun t ht hW => ⟨⟨(), rfl, trivial, by rw [ht]; rw [← hR]; exact hP, by rw [← hR]; exact hD⟩, hS.F ht⟩) hS.2.2 d_De_applyRules_91
    | succ n ih =>
      intro row st H locs ls hn hok hR hP hD hS hl
      have hcl := rq_cnts_le row (by omega)
      rw [List.range'_succ, List.flatMap_cons] at hR
      refine lv_iload_n hx hb d_De_applyRules_2 rfl (lv_at hl 0 rfl) ?_
      refine lv_bipush (v := nI 21) hx hb d_De_applyRules_3 (by decide) ?_
      refine rv_icmp_ge (tgt := 91) hx hb d_De_applyRules_5 (by decide) (by omega) (by omega) (fun c_5 => absurd c_5 (by omega)) (fun c_5 => ?_)
      refine lv_iload_n hx hb d_De_applyRules_8 rfl (lv_at hl 3 rfl) ?_
      refine lv_iload_n hx hb d_De_applyRules_9 rfl (lv_at hl 0 rfl) ?_
      refine rv_calli (r := if rb_b x row then nI 1 else nI 0) (va_runSN (As := [.int x, .int (nI row)]) (rest := []) ⟨hx, hb, hml, hown, hts⟩ (c_Rl_contains l x row (by omega)) ⟨va_cnB 2 hts (rg_G k_Rl_contains) rfl rfl rfl (hN _ rn_4) (hts _ (List.mem_cons_of_mem _ m_1)) (by decide +kernel) ⟨by show 0 + 1 ≤ 8; omega, by show 8 + (2 + 11) + 64 * 0 ≤ 64 * (8); omega⟩, hts _ (List.mem_cons_of_mem _ m_150), trivial⟩ ⟨fun _ _ _ _ q => q, fun U hU hW => ⟨rfl, trivial⟩⟩ rfl rfl hl.1 rfl (lv_room (Nat.le_of_ble_eq_true rfl)) d_De_applyRules_10 ⟨Nat.zero_le _, Nat.zero_le _⟩) hS (fun _ h => h.elim) (fun H locs hk hS => ?_)
      have hP := rv_kept hP hk
      rcases hq0 : rb_b x row with _ | _
      · refine rv_eq (y := nI 0) (rfl) ?_
        rw [show rd_row x row = [] from by unfold rd_row; rw [hq0]; rfl, List.nil_append] at hR
        refine rv_if_eq (tgt := 23) hx hb d_De_applyRules_13 (by decide) (by omega) (fun c_13 => ?_) (fun c_13 => absurd c_13 (by omega))
        refine lv_iconst (v := nI 0) hx hb d_De_applyRules_23 (by decide) ?_
        refine lv_istore (lv' := [(4, .int (nI 0)), (3, .int (nI row)), (0, .ref d0), (1, .int (nI c0)), (2, .int x)]) hx hb d_De_applyRules_24 hl (by decide) rfl (fun ls hl => ?_)
        refine lv_iconst (v := nI 0) hx hb d_De_applyRules_26 (by decide) ?_
        refine lv_istore (lv' := [(5, .int (nI 0)), (4, .int (nI 0)), (3, .int (nI row)), (0, .ref d0), (1, .int (nI c0)), (2, .int x)]) hx hb d_De_applyRules_27 hl (by decide) rfl (fun ls hl => ?_)
        refine lv_iload hx hb d_De_applyRules_29 (lv_at hl 0 rfl) ?_
        refine lv_iload hx hb d_De_applyRules_31 (lv_at hl 1 rfl) ?_
        refine rv_icmp_ge (tgt := 85) hx hb d_De_applyRules_33 (by decide) (by omega) (by omega) (fun c_33 => ?_) (fun c_33 => absurd c_33 (by omega))
        refine rv_inc (k := 2) (lv' := [(3, .int (nI (row + 1))), (5, .int (nI 0)), (4, .int (nI 0)), (0, .ref d0), (1, .int (nI c0)), (2, .int x)]) hx hb d_De_applyRules_85 hl rfl (by decide) rfl (fun ls hl => ?_)
        refine lv_goto (tgt := 2) hx hb d_De_applyRules_88 (by decide) ?_
        exact ih (row + 1) st _ _ _ (by omega) (hok) (hR) hP hD hS (lv_sub hl [0, 3, 4, 5] rfl)
      · refine rv_eq (y := nI 1) (rfl) ?_
        rw [show rd_row x row = (List.range' 0 (rq_cnts.getD row 0)).map (fun f => (row, f)) from by unfold rd_row; rw [hq0]; rfl] at hR
        refine rv_if_eq (tgt := 23) hx hb d_De_applyRules_13 (by decide) (by omega) (fun c_13 => absurd c_13 (by omega)) (fun c_13 => ?_)
        refine lv_iload_n hx hb d_De_applyRules_16 rfl (lv_at hl 0 rfl) ?_
        refine rv_calli (r := nI (rq_cnts.getD row 0)) (va_runS (As := [.int (nI row)]) (rest := []) ⟨hx, hb, hml, hown, hts⟩ (c_Tb_premiseCount l tP tG tC row (by omega)) (va_cwS 1 hts (rg_S (rg3 m_203 m_204 m_8) k_Tb_premiseCount) rfl rfl rfl (by decide +kernel) ⟨by show 0 + 1 ≤ 8; omega, by show 8 + (1 + 11) + 64 * 0 ≤ 64 * (8); omega⟩) ⟨fun a U g mk q => ⟨q.1, rz_same q.2⟩, fun U hU hW => ⟨rfl, rz_at hZ hS hU hW (fun _ h => h.elim)⟩⟩ rfl rfl hl.1 rfl (lv_room (Nat.le_of_ble_eq_true rfl)) d_De_applyRules_17 ⟨Nat.zero_le _, Nat.zero_le _⟩) hS (fun _ h => h.elim) (fun H locs hk hS => ?_)
        have hP := rv_kept hP hk
        refine lv_goto (tgt := 24) hx hb d_De_applyRules_20 (by decide) ?_
        refine lv_istore (lv' := [(4, .int (nI (rq_cnts.getD row 0))), (3, .int (nI row)), (0, .ref d0), (1, .int (nI c0)), (2, .int x)]) hx hb d_De_applyRules_24 hl (by decide) rfl (fun ls hl => ?_)
        refine lv_iconst (v := nI 0) hx hb d_De_applyRules_26 (by decide) ?_
        refine lv_istore (lv' := [(5, .int (nI 0)), (4, .int (nI (rq_cnts.getD row 0))), (3, .int (nI row)), (0, .ref d0), (1, .int (nI c0)), (2, .int x)]) hx hb d_De_applyRules_27 hl (by decide) rfl (fun ls hl => ?_)
        have lp2 : ∀ (m2 : Nat) (fx : Nat) (st : sD) (H : Heap) (locs : List Loc) (ls : Array Slot), fx + m2 = rq_cnts.getD row 0 → rd_ok st → rj_fold (rd_F he now c0) st ((List.range' fx m2).map (fun f => (row, f)) ++ (List.range' (row + 1) n).flatMap (rd_row x)) = RES → va_P (dC, dI) classes [(d0, .inr (2, [.ref aT, .ref qc, .ref aU, .ref qk, .ref qr, .int (nI now), .int (nI st.2.2.2.2.1), .int (rb_z st.2.2.2.2.2)])), (qc, .inl (dA, 4, .inl st.1)), (aT, .inr (1, [.ref t1, .ref t2, .ref t3, .int he.2.2.2])), (t1, .inl (dA, 1024, .inl he.1)), (t2, .inl (dA, 32, .inl he.2.1)), (t3, .inl (dA, 32, .inl he.2.2.1)), (aU, .inr (1, [.ref u1, .ref u2, .ref u3, .int st.2.1.2.2.2])), (u1, .inl (dA, 1024, .inl st.2.1.1)), (u2, .inl (dA, 32, .inl st.2.1.2.1)), (u3, .inl (dA, 32, .inl st.2.1.2.2.1)), (qk, .inl (dA, 400, .inl st.2.2.1)), (qr, .inl (dA, 400, .inl st.2.2.2.1))] H → va_D A [(d0, .inr (2, [.ref aT, .ref qc, .ref aU, .ref qk, .ref qr, .int (nI now), .int (nI st.2.2.2.2.1), .int (rb_z st.2.2.2.2.2)])), (qc, .inl (dA, 4, .inl st.1)), (aT, .inr (1, [.ref t1, .ref t2, .ref t3, .int he.2.2.2])), (t1, .inl (dA, 1024, .inl he.1)), (t2, .inl (dA, 32, .inl he.2.1)), (t3, .inl (dA, 32, .inl he.2.2.1)), (aU, .inr (1, [.ref u1, .ref u2, .ref u3, .int st.2.1.2.2.2])), (u1, .inl (dA, 1024, .inl st.2.1.1)), (u2, .inl (dA, 32, .inl st.2.1.2.1)), (u3, .inl (dA, 32, .inl st.2.1.2.2.1)), (qk, .inl (dA, 400, .inl st.2.2.1)), (qr, .inl (dA, 400, .inl st.2.2.2.1))] → va_S A s.heap H locs → lv_has ls 9 [(5, .int (nI fx)), (4, .int (nI (rq_cnts.getD row 0))), (3, .int (nI row)), (0, .ref d0), (1, .int (nI c0)), (2, .int x)] → W p l e (headSpec (w_ y_De_applyRules b_De_applyRules 9 none) (rm_ 8)).room s m ([.ref d0, .int (nI c0), .int x] : List Value).toArray below meth c H locs 0 0 Q (F0 m 29 ls []) := by
          intro m2
          induction m2 with
          | zero =>
            intro fx st H locs ls hm hok hR hP hD hS hl
            refine lv_iload hx hb d_De_applyRules_29 (lv_at hl 0 rfl) ?_
            refine lv_iload hx hb d_De_applyRules_31 (lv_at hl 1 rfl) ?_
            refine rv_icmp_ge (tgt := 85) hx hb d_De_applyRules_33 (by decide) (by omega) (by omega) (fun c_33 => ?_) (fun c_33 => absurd c_33 (by omega))
            refine rv_inc (k := 2) (lv' := [(3, .int (nI (row + 1))), (5, .int (nI fx)), (4, .int (nI (rq_cnts.getD row 0))), (0, .ref d0), (1, .int (nI c0)), (2, .int x)]) hx hb d_De_applyRules_85 hl rfl (by decide) rfl (fun ls hl => ?_)
            refine lv_goto (tgt := 2) hx hb d_De_applyRules_88 (by decide) ?_
            exact ih (row + 1) st _ _ _ (by omega) (hok) (hR) hP hD hS (lv_sub hl [0, 3, 4, 5] rfl)
          | succ m2 ih2 =>
            intro fx st H locs ls hm hok hR hP hD hS hl
            rw [List.range'_succ, List.map_cons, List.cons_append] at hR
            refine lv_iload hx hb d_De_applyRules_29 (lv_at hl 0 rfl) ?_
            refine lv_iload hx hb d_De_applyRules_31 (lv_at hl 1 rfl) ?_
            refine rv_icmp_ge (tgt := 85) hx hb d_De_applyRules_33 (by decide) (by omega) (by omega) (fun c_33 => absurd c_33 (by omega)) (fun c_33 => ?_)
            refine lv_iload_n hx hb d_De_applyRules_36 rfl (lv_at hl 2 rfl) ?_
            refine lv_iload hx hb d_De_applyRules_37 (lv_at hl 0 rfl) ?_
            refine rv_calli (r := nI (12 * row + 3 * fx)) (va_runS (As := [.int (nI row), .int (nI fx)]) (rest := []) ⟨hx, hb, hml, hown, hts⟩ (c_Tb_premiseAt l row fx) (va_cwS 2 hts (rg_S (rg3 m_190 m_191 m_8) k_Tb_premiseAt) rfl rfl rfl (by decide +kernel) ⟨by show 0 + 1 ≤ 8; omega, by show 8 + (2 + 11) + 64 * 0 ≤ 64 * (8); omega⟩) ⟨fun _ _ _ _ q => q, fun U hU hW => ⟨rfl, trivial⟩⟩ rfl rfl hl.1 rfl (lv_room (Nat.le_of_ble_eq_true rfl)) d_De_applyRules_39 ⟨Nat.zero_le _, Nat.zero_le _⟩) hS (fun _ h => h.elim) (fun H locs hk hS => ?_)
            have hP := rv_kept hP hk
            refine lv_istore (lv' := [(6, .int (nI (12 * row + 3 * fx))), (5, .int (nI fx)), (4, .int (nI (rq_cnts.getD row 0))), (3, .int (nI row)), (0, .ref d0), (1, .int (nI c0)), (2, .int x)]) hx hb d_De_applyRules_42 hl (by decide) rfl (fun ls hl => ?_)
            refine va_gets hx hb hZ.1.1 hS hown (hts _ (List.mem_cons_of_mem _ m_188)) (fun _ h9 => h9) d_De_applyRules_44 ?_
            refine lv_iload hx hb d_De_applyRules_47 (lv_at hl 0 rfl) ?_
            refine lv_iload_n hx hb d_De_applyRules_49 rfl (lv_at hl 5 rfl) ?_
            refine lv_lconst (v := lN 0) hx hb d_De_applyRules_50 (by decide) ?_
            refine rv_eql (y := lN (rt_pk rt_free)) (congrArg lN rt_free_pk.symm) ?_
            refine rv_calll (r := rt_l (rt_fit (rq_prem.getD (12 * row + 3 * fx) 0) (rq_prem.getD ((12 * row + 3 * fx) + 1) 0) (rq_prem.getD ((12 * row + 3 * fx) + 2) 0) c0 rt_free)) (va_runS (As := [.ref tP, .int (nI (12 * row + 3 * fx)), .int (nI c0), .long (lN (rt_pk rt_free))]) (rest := []) ⟨hx, hb, hml, hown, hts⟩ (c_Le_fit l tP 288 (12 * row + 3 * fx) c0 rq_prem rt_free (by decide) (by omega) (rq_prem_lt _) (rq_prem_lt _) (rq_prem_lt _) (hc) (rt_free_ok)) (va_cwS 4 hts (rg_S (rg3 m_208 m_209 m_9) k_Le_fit) rfl rfl rfl (by decide +kernel) ⟨by show 2 + 1 ≤ 8; omega, by show 8 + (7 + 11) + 64 * 2 ≤ 64 * (8); omega⟩) ⟨fun a U g mk q => ⟨q.1, q.2.moved (Vm.Alike.refl U.vm)⟩, fun U hU hW => ⟨rfl, rv_T hZ.1.2 hS hU hW (fun _ h => h.elim)⟩⟩ rfl rfl hl.1 rfl (lv_room (Nat.le_of_ble_eq_true rfl)) d_De_applyRules_51 ⟨Nat.zero_le _, Nat.zero_le _⟩) hS (fun _ h => h.elim) (fun H locs hk hS => ?_)
            have hP := rv_kept hP hk
            rcases hq : rt_fit (rq_prem.getD (12 * row + 3 * fx) 0) (rq_prem.getD (12 * row + 3 * fx + 1) 0) (rq_prem.getD (12 * row + 3 * fx + 2) 0) c0 rt_free with _ | ds
            · refine rv_eql (y := (-1)) (rfl) ?_
              have hFq : (rd_F he now c0) st (row, fx) = (st, false) := by unfold rd_F; simp only; rw [hq]
              refine lv_lstore (lv' := [(7, .long (-1)), (6, .int (nI (12 * row + 3 * fx))), (5, .int (nI fx)), (4, .int (nI (rq_cnts.getD row 0))), (3, .int (nI row)), (0, .ref d0), (1, .int (nI c0)), (2, .int x)]) hx hb d_De_applyRules_54 hl (by decide) rfl (fun ls hl => ?_)
              refine lv_lload hx hb d_De_applyRules_56 (lv_at hl 0 rfl) ?_
              refine lv_ldc2 (v := (-1)) hx hb hown (hts _ (List.mem_cons_of_mem _ m_219)) d_De_applyRules_58 ?_
              refine W.lcmp hx hb d_De_applyRules_61 ?_
              refine rv_eq (y := nI 0) (rt_cmp0 _) ?_
              refine rv_if_eq (tgt := 79) hx hb d_De_applyRules_62 (by decide) (by omega) (fun c_62 => ?_) (fun c_62 => absurd c_62 (by omega))
              refine rv_inc (k := 2) (lv' := [(5, .int (nI (fx + 1))), (7, .long (-1)), (6, .int (nI (12 * row + 3 * fx))), (4, .int (nI (rq_cnts.getD row 0))), (3, .int (nI row)), (0, .ref d0), (1, .int (nI c0)), (2, .int x)]) hx hb d_De_applyRules_79 hl rfl (by decide) rfl (fun ls hl => ?_)
              refine lv_goto (tgt := 29) hx hb d_De_applyRules_82 (by decide) ?_
              have hR2 := rj_fold_go hR (by rw [hFq])
              rw [hFq] at hR2
              exact ih2 (fx + 1) st _ _ _ (by omega) (hok) (hR2) hP hD hS (lv_sub hl [0, 3, 4, 5, 6, 7] rfl)
            · have hd2 := rt_fit_ok rt_free_ok hc hq
              refine rv_eql (y := lN (rt_pk ds)) (rfl) ?_
              have hFq : (rd_F he now c0) st (row, fx) = rj_join (rx_trav he.1 he.2.1 he.2.2.1 he.2.2.2) (rd_meet now row) rd_ch row (some fx) (rq_cnts.getD row 0) 0 ds st := by unfold rd_F; simp only; rw [hq]
              refine lv_lstore (lv' := [(7, .long (lN (rt_pk ds))), (6, .int (nI (12 * row + 3 * fx))), (5, .int (nI fx)), (4, .int (nI (rq_cnts.getD row 0))), (3, .int (nI row)), (0, .ref d0), (1, .int (nI c0)), (2, .int x)]) hx hb d_De_applyRules_54 hl (by decide) rfl (fun ls hl => ?_)
              refine lv_lload hx hb d_De_applyRules_56 (lv_at hl 0 rfl) ?_
              refine lv_ldc2 (v := (-1)) hx hb hown (hts _ (List.mem_cons_of_mem _ m_219)) d_De_applyRules_58 ?_
              refine W.lcmp hx hb d_De_applyRules_61 ?_
              refine lv_if_eq (tgt := 79) hx hb d_De_applyRules_62 (by decide) (fun c_62 => absurd c_62 (rt_cmp_ne hd2)) (fun c_62 => ?_)
              refine lv_aload_n hx hb d_De_applyRules_65 rfl (lv_at hl 5 rfl) ?_
              refine lv_iload_n hx hb d_De_applyRules_66 rfl (lv_at hl 4 rfl) ?_
              refine lv_iconst (v := nI 0) hx hb d_De_applyRules_67 (by decide) ?_
              refine lv_iload hx hb d_De_applyRules_68 (lv_at hl 2 rfl) ?_
              refine lv_lload hx hb d_De_applyRules_70 (lv_at hl 0 rfl) ?_
              have hPc := hP.sub (ws' := [(d0, .inr (2, [.ref aT, .ref qc, .ref aU, .ref qk, .ref qr, .int (nI now), .int (nI st.2.2.2.2.1), .int (rb_z st.2.2.2.2.2)])), (qc, .inl (dA, 4, .inl st.1)), (aT, .inr (1, [.ref t1, .ref t2, .ref t3, .int he.2.2.2])), (t1, .inl (dA, 1024, .inl he.1)), (t2, .inl (dA, 32, .inl he.2.1)), (t3, .inl (dA, 32, .inl he.2.2.1)), (aU, .inr (1, [.ref u1, .ref u2, .ref u3, .int st.2.1.2.2.2])), (u1, .inl (dA, 1024, .inl st.2.1.1)), (u2, .inl (dA, 32, .inl st.2.1.2.1)), (u3, .inl (dA, 32, .inl st.2.1.2.2.1)), (qk, .inl (dA, 400, .inl st.2.2.1)), (qr, .inl (dA, 400, .inl st.2.2.2.1))]) [0, 1, 2, 3, 4, 5, 6, 7, 8, 9, 10, 11] rfl
              have hDc := hD.sub (ws' := [(d0, .inr (2, [.ref aT, .ref qc, .ref aU, .ref qk, .ref qr, .int (nI now), .int (nI st.2.2.2.2.1), .int (rb_z st.2.2.2.2.2)])), (qc, .inl (dA, 4, .inl st.1)), (aT, .inr (1, [.ref t1, .ref t2, .ref t3, .int he.2.2.2])), (t1, .inl (dA, 1024, .inl he.1)), (t2, .inl (dA, 32, .inl he.2.1)), (t3, .inl (dA, 32, .inl he.2.2.1)), (aU, .inr (1, [.ref u1, .ref u2, .ref u3, .int st.2.1.2.2.2])), (u1, .inl (dA, 1024, .inl st.2.1.1)), (u2, .inl (dA, 32, .inl st.2.1.2.1)), (u3, .inl (dA, 32, .inl st.2.1.2.2.1)), (qk, .inl (dA, 400, .inl st.2.2.1)), (qr, .inl (dA, 400, .inl st.2.2.2.1))]) [0, 1, 2, 3, 4, 5, 6, 7, 8, 9, 10, 11] (by decide) rfl
              have hFc := va_free (wc := [(d0, .inr (2, [.ref aT, .ref qc, .ref aU, .ref qk, .ref qr, .int (nI now), .int (nI st.2.2.2.2.1), .int (rb_z st.2.2.2.2.2)])), (qc, .inl (dA, 4, .inl st.1)), (aT, .inr (1, [.ref t1, .ref t2, .ref t3, .int he.2.2.2])), (t1, .inl (dA, 1024, .inl he.1)), (t2, .inl (dA, 32, .inl he.2.1)), (t3, .inl (dA, 32, .inl he.2.2.1)), (aU, .inr (1, [.ref u1, .ref u2, .ref u3, .int st.2.1.2.2.2])), (u1, .inl (dA, 1024, .inl st.2.1.1)), (u2, .inl (dA, 32, .inl st.2.1.2.1)), (u3, .inl (dA, 32, .inl st.2.1.2.2.1)), (qk, .inl (dA, 400, .inl st.2.2.1)), (qr, .inl (dA, 400, .inl st.2.2.2.1))]) hD hS hA [0, 1, 2, 3, 4, 5, 6, 7, 8, 9, 10, 11] rfl
              refine va_calli (va_runSN (As := [.ref d0, .int (nI row), .int (nI 0), .int (nI fx), .long (lN (rt_pk ds))]) (rest := []) ⟨hx, hb, hml, hown, hts⟩ (c_Ma_joinD l (rq_cnts.getD row 0) dC dI dA tP tG tC d0 qc aT t1 t2 t3 aU u1 u2 u3 qk qr he now row 0 (some fx) ds st H.size (by omega) (fun u hu => by cases hu; omega) hd2 hok.1 (rj_cov_init hc hq) (by omega)) ⟨va_cnB 5 hts (rg_G k_Ma_join) rfl rfl rfl (hN _ rn_5) (hts _ (List.mem_cons_of_mem _ m_3)) (by decide +kernel) ⟨by show 3 + rq_cnts.getD row 0 + 1 ≤ 8; omega, by show 8 + (21 + 11) + 64 * (3 + rq_cnts.getD row 0) ≤ 64 * (8); omega⟩, hts _ (List.mem_cons_of_mem _ m_221), trivial⟩ ⟨fun a U g mk q => ⟨q.1, q.2.1, q.2.2.1, va_K.moved (u := U) (U := U.calling g mk a) (Vm.Alike.refl U.vm) q.2.2.2.1, q.2.2.2.2.1, rn_same (u := U) (U := U.calling g mk a) rfl q.2.2.2.2.2.1, rz_same q.2.2.2.2.2.2⟩, fun U hU hW => ⟨rfl, by rw [hU], by rw [hU]; exact hPc, va_K.moved hW.alike hK, hDc.weaken (fun _ _ _ _ => trivial), rn_warm hW hN, rz_at hZ hS hU hW hFc⟩⟩ rfl rfl hl.1 rfl (lv_room (Nat.le_of_ble_eq_true rfl)) d_De_applyRules_72 ⟨Nat.zero_le _, Nat.zero_le _⟩) hS (fun q _ h => hFc q h) hFc (fun r9 u t H1 locs ht hvm hw hB hz1 hk1 hS => ?_)
              subst hw
              obtain ⟨hP1, hD1⟩ := hB
              rw [ht] at hP1
              obtain ⟨hP, hD⟩ := va_join (wr := []) (w1 := [(d0, .inr (2, [.ref aT, .ref qc, .ref aU, .ref qk, .ref qr, .int (nI now), .int (nI ((rj_join (rx_trav he.1 he.2.1 he.2.2.1 he.2.2.2) (rd_meet now row) rd_ch row (some fx) (rq_cnts.getD row 0) 0 ds st).1).2.2.2.2.1), .int (rb_z ((rj_join (rx_trav he.1 he.2.1 he.2.2.1 he.2.2.2) (rd_meet now row) rd_ch row (some fx) (rq_cnts.getD row 0) 0 ds st).1).2.2.2.2.2)])), (qc, .inl (dA, 4, .inl ((rj_join (rx_trav he.1 he.2.1 he.2.2.1 he.2.2.2) (rd_meet now row) rd_ch row (some fx) (rq_cnts.getD row 0) 0 ds st).1).1)), (aT, .inr (1, [.ref t1, .ref t2, .ref t3, .int he.2.2.2])), (t1, .inl (dA, 1024, .inl he.1)), (t2, .inl (dA, 32, .inl he.2.1)), (t3, .inl (dA, 32, .inl he.2.2.1)), (aU, .inr (1, [.ref u1, .ref u2, .ref u3, .int (((rj_join (rx_trav he.1 he.2.1 he.2.2.1 he.2.2.2) (rd_meet now row) rd_ch row (some fx) (rq_cnts.getD row 0) 0 ds st).1).2.1.2.2.2)])), (u1, .inl (dA, 1024, .inl (((rj_join (rx_trav he.1 he.2.1 he.2.2.1 he.2.2.2) (rd_meet now row) rd_ch row (some fx) (rq_cnts.getD row 0) 0 ds st).1).2.1.1))), (u2, .inl (dA, 32, .inl (((rj_join (rx_trav he.1 he.2.1 he.2.2.1 he.2.2.2) (rd_meet now row) rd_ch row (some fx) (rq_cnts.getD row 0) 0 ds st).1).2.1.2.1))), (u3, .inl (dA, 32, .inl (((rj_join (rx_trav he.1 he.2.1 he.2.2.1 he.2.2.2) (rd_meet now row) rd_ch row (some fx) (rq_cnts.getD row 0) 0 ds st).1).2.1.2.2.1))), (qk, .inl (dA, 400, .inl ((rj_join (rx_trav he.1 he.2.1 he.2.2.1 he.2.2.2) (rd_meet now row) rd_ch row (some fx) (rq_cnts.getD row 0) 0 ds st).1).2.2.1)), (qr, .inl (dA, 400, .inl ((rj_join (rx_trav he.1 he.2.1 he.2.2.1 he.2.2.2) (rd_meet now row) rd_ch row (some fx) (rq_cnts.getD row 0) 0 ds st).1).2.2.2.1))]) hP hD [0, 1, 2, 3, 4, 5, 6, 7, 8, 9, 10, 11] [] rfl rfl (by decide) (by decide) hk1 hFc hP1 hD1
              clear hk1 hFc hPc hDc hP1 hD1
              generalize H1 = H at hP hS ⊢
              have hP : va_P (dC, dI) classes [(d0, .inr (2, [.ref aT, .ref qc, .ref aU, .ref qk, .ref qr, .int (nI now), .int (nI ((rj_join (rx_trav he.1 he.2.1 he.2.2.1 he.2.2.2) (rd_meet now row) rd_ch row (some fx) (rq_cnts.getD row 0) 0 ds st).1).2.2.2.2.1), .int (rb_z ((rj_join (rx_trav he.1 he.2.1 he.2.2.1 he.2.2.2) (rd_meet now row) rd_ch row (some fx) (rq_cnts.getD row 0) 0 ds st).1).2.2.2.2.2)])), (qc, .inl (dA, 4, .inl ((rj_join (rx_trav he.1 he.2.1 he.2.2.1 he.2.2.2) (rd_meet now row) rd_ch row (some fx) (rq_cnts.getD row 0) 0 ds st).1).1)), (aT, .inr (1, [.ref t1, .ref t2, .ref t3, .int he.2.2.2])), (t1, .inl (dA, 1024, .inl he.1)), (t2, .inl (dA, 32, .inl he.2.1)), (t3, .inl (dA, 32, .inl he.2.2.1)), (aU, .inr (1, [.ref u1, .ref u2, .ref u3, .int (((rj_join (rx_trav he.1 he.2.1 he.2.2.1 he.2.2.2) (rd_meet now row) rd_ch row (some fx) (rq_cnts.getD row 0) 0 ds st).1).2.1.2.2.2)])), (u1, .inl (dA, 1024, .inl (((rj_join (rx_trav he.1 he.2.1 he.2.2.1 he.2.2.2) (rd_meet now row) rd_ch row (some fx) (rq_cnts.getD row 0) 0 ds st).1).2.1.1))), (u2, .inl (dA, 32, .inl (((rj_join (rx_trav he.1 he.2.1 he.2.2.1 he.2.2.2) (rd_meet now row) rd_ch row (some fx) (rq_cnts.getD row 0) 0 ds st).1).2.1.2.1))), (u3, .inl (dA, 32, .inl (((rj_join (rx_trav he.1 he.2.1 he.2.2.1 he.2.2.2) (rd_meet now row) rd_ch row (some fx) (rq_cnts.getD row 0) 0 ds st).1).2.1.2.2.1))), (qk, .inl (dA, 400, .inl ((rj_join (rx_trav he.1 he.2.1 he.2.2.1 he.2.2.2) (rd_meet now row) rd_ch row (some fx) (rq_cnts.getD row 0) 0 ds st).1).2.2.1)), (qr, .inl (dA, 400, .inl ((rj_join (rx_trav he.1 he.2.1 he.2.2.1 he.2.2.2) (rd_meet now row) rd_ch row (some fx) (rq_cnts.getD row 0) 0 ds st).1).2.2.2.1))] H := hP.sub [0, 1, 2, 3, 4, 5, 6, 7, 8, 9, 10, 11] rfl
              have hD : va_D A [(d0, .inr (2, [.ref aT, .ref qc, .ref aU, .ref qk, .ref qr, .int (nI now), .int (nI ((rj_join (rx_trav he.1 he.2.1 he.2.2.1 he.2.2.2) (rd_meet now row) rd_ch row (some fx) (rq_cnts.getD row 0) 0 ds st).1).2.2.2.2.1), .int (rb_z ((rj_join (rx_trav he.1 he.2.1 he.2.2.1 he.2.2.2) (rd_meet now row) rd_ch row (some fx) (rq_cnts.getD row 0) 0 ds st).1).2.2.2.2.2)])), (qc, .inl (dA, 4, .inl ((rj_join (rx_trav he.1 he.2.1 he.2.2.1 he.2.2.2) (rd_meet now row) rd_ch row (some fx) (rq_cnts.getD row 0) 0 ds st).1).1)), (aT, .inr (1, [.ref t1, .ref t2, .ref t3, .int he.2.2.2])), (t1, .inl (dA, 1024, .inl he.1)), (t2, .inl (dA, 32, .inl he.2.1)), (t3, .inl (dA, 32, .inl he.2.2.1)), (aU, .inr (1, [.ref u1, .ref u2, .ref u3, .int (((rj_join (rx_trav he.1 he.2.1 he.2.2.1 he.2.2.2) (rd_meet now row) rd_ch row (some fx) (rq_cnts.getD row 0) 0 ds st).1).2.1.2.2.2)])), (u1, .inl (dA, 1024, .inl (((rj_join (rx_trav he.1 he.2.1 he.2.2.1 he.2.2.2) (rd_meet now row) rd_ch row (some fx) (rq_cnts.getD row 0) 0 ds st).1).2.1.1))), (u2, .inl (dA, 32, .inl (((rj_join (rx_trav he.1 he.2.1 he.2.2.1 he.2.2.2) (rd_meet now row) rd_ch row (some fx) (rq_cnts.getD row 0) 0 ds st).1).2.1.2.1))), (u3, .inl (dA, 32, .inl (((rj_join (rx_trav he.1 he.2.1 he.2.2.1 he.2.2.2) (rd_meet now row) rd_ch row (some fx) (rq_cnts.getD row 0) 0 ds st).1).2.1.2.2.1))), (qk, .inl (dA, 400, .inl ((rj_join (rx_trav he.1 he.2.1 he.2.2.1 he.2.2.2) (rd_meet now row) rd_ch row (some fx) (rq_cnts.getD row 0) 0 ds st).1).2.2.1)), (qr, .inl (dA, 400, .inl ((rj_join (rx_trav he.1 he.2.1 he.2.2.1 he.2.2.2) (rd_meet now row) rd_ch row (some fx) (rq_cnts.getD row 0) 0 ds st).1).2.2.2.1))] := hD.sub [0, 1, 2, 3, 4, 5, 6, 7, 8, 9, 10, 11] (by decide) rfl
              have hok2 : rd_ok (rj_join (rx_trav he.1 he.2.1 he.2.2.1 he.2.2.2) (rd_meet now row) rd_ch row (some fx) (rq_cnts.getD row 0) 0 ds st).1 := rd_ok_join _ _ _ _ hd2 hok
              generalize hJ : rj_join (rx_trav he.1 he.2.1 he.2.2.1 he.2.2.2) (rd_meet now row) rd_ch row (some fx) (rq_cnts.getD row 0) 0 ds st = J at hP hD hFq hok2 ⊢
              rcases hj2 : J.2 with _ | _
              · refine rv_eq (y := nI 0) (rfl) ?_
                have hR2 := rj_fold_go hR (by rw [hFq]; exact hj2)
                rw [hFq] at hR2
                refine rv_if_eq (tgt := 79) hx hb d_De_applyRules_75 (by decide) (by omega) (fun c_75 => ?_) (fun c_75 => absurd c_75 (by omega))
                refine rv_inc (k := 2) (lv' := [(5, .int (nI (fx + 1))), (7, .long (lN (rt_pk ds))), (6, .int (nI (12 * row + 3 * fx))), (4, .int (nI (rq_cnts.getD row 0))), (3, .int (nI row)), (0, .ref d0), (1, .int (nI c0)), (2, .int x)]) hx hb d_De_applyRules_79 hl rfl (by decide) rfl (fun ls hl => ?_)
                refine lv_goto (tgt := 29) hx hb d_De_applyRules_82 (by decide) ?_
                exact ih2 (fx + 1) J.1 _ _ _ (by omega) (hok2) (hR2) hP hD hS (lv_sub hl [0, 3, 4, 5, 6, 7] rfl)
              · refine rv_eq (y := nI 1) (rfl) ?_
                have hR2 := rj_fold_stop hR (by rw [hFq]; exact hj2)
                rw [hFq] at hR2
                refine rv_if_eq (tgt := 79) hx hb d_De_applyRules_75 (by decide) (by omega) (fun c_75 => absurd c_75 (by omega)) (fun c_75 => ?_)
                subst hQ
                exact W.vret hx hb hr (fun t ht hW => ⟨⟨(), rfl, trivial, by rw [ht]; rw [← hR2]; exact hP, by rw [← hR2]; exact hD⟩, hS.F ht⟩) hS.2.2 d_De_applyRules_78
        exact lp2 (rq_cnts.getD row 0) 0 st _ _ _ (by omega) (hok) (hR) hP hD hS (lv_sub hl [0, 1, 2, 3, 4, 5] rfl)
  exact lp 21 0 st _ _ _ (by omega) (hok) (hRES.symm) hP hD hS (lv_sub hl [0, 1, 2, 3] rfl)

def rd_last (st : sD) : Int32 := if 0 < st.2.2.2.2.1 then st.2.2.2.1 (st.2.2.2.2.1 - 1) else nI 0
def rd_find (k r : Nat → Int32) (c : Int32) : Nat → Nat → Int32
  | 0, _ => -2
  | n + 1, i => if k i = c then r i else rd_find k r c n (i + 1)

set_option maxHeartbeats 4000000 in
set_option maxRecDepth 100000 in
theorem c_De_lastRound (l : Launch) (dC : Nat → ClassId) (dI : Nat → Nat → Nat) (dA : ClassId) (tP tG tC d0 qc aT t1 t2 t3 aU u1 u2 u3 qk qr : Nat) (he : sT) (now : Nat) (st : sD) (hcnt : st.2.2.2.2.1 ≤ 400) : Met l y_De_lastRound (w_ y_De_lastRound b_De_lastRound 1 (some .int)) (rm_ 0) (va_Pc [.ref d0] (fun U => va_K (dC, dI) classes [(dA, .int)] U ∧ va_P (dC, dI) classes [(d0, .inr (2, [.ref aT, .ref qc, .ref aU, .ref qk, .ref qr, .int (nI now), .int (nI st.2.2.2.2.1), .int (rb_z st.2.2.2.2.2)])), (qk, .inl (dA, 400, .inl st.2.2.1)), (qr, .inl (dA, 400, .inl st.2.2.2.1))] U.heap)) (va_Qi (fun (z9 : Int32) (_ : Unit) => z9 = rd_last st) (fun _ _ => True) (fun _ => False)) 0 0 (fun _ => False) := by
  refine Met.ofW (cc := b_De_lastRound) (maxL := 1) (ret := (some .int)) (by decide) rfl ?_
  intro p e s m args below meth c s₁ B hml hv
  obtain ⟨rfl, hK, hP⟩ := hv
  have hx := B.exec
  have hb := B.bytes
  have hr := B.returns
  have hts := atoms_spec (ws := (w_ y_De_lastRound b_De_lastRound 1 (some .int))) B.pre
  have hown : s.vm.findClass R_De = some m.cls := findClass_of_methodNamed B.named
  have hlocks := B.notSynchronized
  have hS : va_S (fun _ => False) s.heap s.heap [] := va_S.rf
  have hl := lv_entry ([.ref d0]) (n := 1) (Nat.le_of_ble_eq_true rfl)
  rw [lg_entry_eq]
  generalize (lg_sl ([.ref d0]) ++ List.replicate (1 - (lg_sl ([.ref d0])).length) Slot.unset).toArray = ls at hl ⊢
  have hl : lv_has ls 1 [(0, .ref d0)] := hl
  refine lv_aload_n hx hb d_De_lastRound_0 rfl (lv_at hl 0 rfl) ?_
  refine va_get (D := (dC, dI)) (ci := 2) (v := .int (nI st.2.2.2.2.1)) (C := R_De) (T := F_De) (N := 8) hx hb hts (rg_c i_De) hown hK hP 0 rfl rfl 6 (by decide) (hts _ (List.mem_cons_of_mem _ m_56)) (fun _ h9 => h9) rfl d_De_lastRound_1 ?_
  refine rv_if_le (tgt := 31) hx hb d_De_lastRound_4 (by decide) (by omega) (fun c_4 => ?_) (fun c_4 => ?_)
  · refine lv_iconst (v := nI 0) hx hb d_De_lastRound_31 (by decide) ?_
    exact W.iret (v := nI 0) hx hb hr (fun t ht hW => ⟨⟨nI 0, (), rfl, by unfold rd_last; rw [if_neg (by omega)], trivial⟩, hS.F ht⟩) hS.2.2 d_De_lastRound_32
  · refine lv_aload_n hx hb d_De_lastRound_7 rfl (lv_at hl 0 rfl) ?_
    refine va_get (D := (dC, dI)) (ci := 2) (v := .int (nI st.2.2.2.2.1)) (C := R_De) (T := F_De) (N := 8) hx hb hts (rg_c i_De) hown hK hP 0 rfl rfl 6 (by decide) (hts _ (List.mem_cons_of_mem _ m_56)) (fun _ h9 => h9) rfl d_De_lastRound_8 ?_
    refine lv_sipush (v := nI 400) hx hb d_De_lastRound_11 (by decide) ?_
    refine rv_icmp_gt (tgt := 31) hx hb d_De_lastRound_14 (by decide) (by omega) (by omega) (fun c_14 => absurd c_14 (by omega)) (fun c_14 => ?_)
    refine lv_aload_n hx hb d_De_lastRound_17 rfl (lv_at hl 0 rfl) ?_
    refine va_get (D := (dC, dI)) (ci := 2) (v := .ref qr) (C := R_De) (T := F_De) (N := 8) hx hb hts (rg_c i_De) hown hK hP 0 rfl rfl 4 (by decide) (hts _ (List.mem_cons_of_mem _ m_54)) (fun _ h9 => h9) rfl d_De_lastRound_18 ?_
    refine lv_aload_n hx hb d_De_lastRound_21 rfl (lv_at hl 0 rfl) ?_
    refine va_get (D := (dC, dI)) (ci := 2) (v := .int (nI st.2.2.2.2.1)) (C := R_De) (T := F_De) (N := 8) hx hb hts (rg_c i_De) hown hK hP 0 rfl rfl 6 (by decide) (hts _ (List.mem_cons_of_mem _ m_56)) (fun _ h9 => h9) rfl d_De_lastRound_22 ?_
    refine lv_iconst (v := nI 1) hx hb d_De_lastRound_25 (by decide) ?_
    refine rv_isub hx hb d_De_lastRound_26 (by omega) ?_
    refine rv_ald (k := (st.2.2.2.2.1 - 1)) hx hb hK hP 2 0 rfl rfl (by omega) (by decide) d_De_lastRound_27 ?_
    refine lv_goto (tgt := 32) hx hb d_De_lastRound_28 (by decide) ?_
    exact W.iret (v := st.2.2.2.1 (st.2.2.2.2.1 - 1)) hx hb hr (fun t ht hW => ⟨⟨st.2.2.2.1 (st.2.2.2.2.1 - 1), (), rfl, by unfold rd_last; rw [if_pos (by omega)], trivial⟩, hS.F ht⟩) hS.2.2 d_De_lastRound_32

set_option maxHeartbeats 4000000 in
set_option maxRecDepth 100000 in
theorem c_De_roundOf (l : Launch) (dC : Nat → ClassId) (dI : Nat → Nat → Nat) (dA : ClassId) (tP tG tC d0 qc aT t1 t2 t3 aU u1 u2 u3 qk qr : Nat) (he : sT) (now : Nat) (cc0 : Int32) (st : sD) (hcnt : st.2.2.2.2.1 ≤ 400) : Met l y_De_roundOf (w_ y_De_roundOf b_De_roundOf 3 (some .int)) (rm_ 0) (va_Pc [.ref d0, .int cc0] (fun U => va_K (dC, dI) classes [(dA, .int)] U ∧ va_P (dC, dI) classes [(d0, .inr (2, [.ref aT, .ref qc, .ref aU, .ref qk, .ref qr, .int (nI now), .int (nI st.2.2.2.2.1), .int (rb_z st.2.2.2.2.2)])), (qk, .inl (dA, 400, .inl st.2.2.1)), (qr, .inl (dA, 400, .inl st.2.2.2.1))] U.heap)) (va_Qi (fun (z9 : Int32) (_ : Unit) => z9 = rd_find st.2.2.1 st.2.2.2.1 cc0 st.2.2.2.2.1 0) (fun _ _ => True) (fun _ => False)) 0 0 (fun _ => False) := by
  refine Met.ofW (cc := b_De_roundOf) (maxL := 3) (ret := (some .int)) (by decide) rfl ?_
  intro p e s m args below meth c s₁ B hml hv
  obtain ⟨rfl, hK, hP⟩ := hv
  have hx := B.exec
  have hb := B.bytes
  have hr := B.returns
  have hts := atoms_spec (ws := (w_ y_De_roundOf b_De_roundOf 3 (some .int))) B.pre
  have hown : s.vm.findClass R_De = some m.cls := findClass_of_methodNamed B.named
  have hlocks := B.notSynchronized
  have hS : va_S (fun _ => False) s.heap s.heap [] := va_S.rf
  have hl := lv_entry ([.ref d0, .int cc0]) (n := 3) (Nat.le_of_ble_eq_true rfl)
  rw [lg_entry_eq]
  generalize (lg_sl ([.ref d0, .int cc0]) ++ List.replicate (3 - (lg_sl ([.ref d0, .int cc0])).length) Slot.unset).toArray = ls at hl ⊢
  have hl : lv_has ls 3 [(0, .ref d0), (1, .int cc0)] := hl
  refine lv_iconst (v := nI 0) hx hb d_De_roundOf_0 (by decide) ?_
  refine lv_istore_n (lv' := [(2, .int (nI 0)), (0, .ref d0), (1, .int cc0)]) hx hb d_De_roundOf_1 rfl hl (by decide) rfl (fun ls hl => ?_)
  refine rv_Q (fun Q hQ => ?_)
  have lp : ∀ (n : Nat) (j : Nat) (H : Heap) (locs : List Loc) (ls : Array Slot), j + n = st.2.2.2.2.1 → rd_find st.2.2.1 st.2.2.2.1 cc0 n j = rd_find st.2.2.1 st.2.2.2.1 cc0 st.2.2.2.2.1 0 → va_P (dC, dI) classes [(d0, .inr (2, [.ref aT, .ref qc, .ref aU, .ref qk, .ref qr, .int (nI now), .int (nI st.2.2.2.2.1), .int (rb_z st.2.2.2.2.2)])), (qk, .inl (dA, 400, .inl st.2.2.1)), (qr, .inl (dA, 400, .inl st.2.2.2.1))] H → va_S (fun _ => False) s.heap H locs → lv_has ls 3 [(2, .int (nI j)), (0, .ref d0), (1, .int cc0)] → W p l e (headSpec (w_ y_De_roundOf b_De_roundOf 3 (some .int)) (rm_ 0)).room s m ([.ref d0, .int cc0] : List Value).toArray below meth c H locs 0 0 Q (F0 m 2 ls []) := by
    intro n
    induction n with
    | zero =>
      intro j H locs ls hn hR hP hS hl
      refine lv_iload_n hx hb d_De_roundOf_2 rfl (lv_at hl 0 rfl) ?_
      refine lv_aload_n hx hb d_De_roundOf_3 rfl (lv_at hl 1 rfl) ?_
      refine va_get (D := (dC, dI)) (ci := 2) (v := .int (nI st.2.2.2.2.1)) (C := R_De) (T := F_De) (N := 8) hx hb hts (rg_c i_De) hown hK hP 0 rfl rfl 6 (by decide) (hts _ (List.mem_cons_of_mem _ m_56)) (fun _ h9 => h9) rfl d_De_roundOf_4 ?_
      refine rv_icmp_ge (tgt := 33) hx hb d_De_roundOf_7 (by decide) (by omega) (by omega) (fun c_7 => ?_) (fun c_7 => absurd c_7 (by omega))
      refine lv_bipush (v := (-2)) hx hb d_De_roundOf_33 (by decide) ?_
      subst hQ
      exact W.iret (v := (-2)) hx hb hr (fun t ht hW => ⟨⟨(-2), (), rfl, hR, trivial⟩, hS.F ht⟩) hS.2.2 d_De_roundOf_35
    | succ n ih =>
      intro j H locs ls hn hR hP hS hl
      refine lv_iload_n hx hb d_De_roundOf_2 rfl (lv_at hl 0 rfl) ?_
      refine lv_aload_n hx hb d_De_roundOf_3 rfl (lv_at hl 1 rfl) ?_
      refine va_get (D := (dC, dI)) (ci := 2) (v := .int (nI st.2.2.2.2.1)) (C := R_De) (T := F_De) (N := 8) hx hb hts (rg_c i_De) hown hK hP 0 rfl rfl 6 (by decide) (hts _ (List.mem_cons_of_mem _ m_56)) (fun _ h9 => h9) rfl d_De_roundOf_4 ?_
      refine rv_icmp_ge (tgt := 33) hx hb d_De_roundOf_7 (by decide) (by omega) (by omega) (fun c_7 => absurd c_7 (by omega)) (fun c_7 => ?_)
      refine lv_aload_n hx hb d_De_roundOf_10 rfl (lv_at hl 1 rfl) ?_
      refine va_get (D := (dC, dI)) (ci := 2) (v := .ref qk) (C := R_De) (T := F_De) (N := 8) hx hb hts (rg_c i_De) hown hK hP 0 rfl rfl 3 (by decide) (hts _ (List.mem_cons_of_mem _ m_53)) (fun _ h9 => h9) rfl d_De_roundOf_11 ?_
      refine lv_iload_n hx hb d_De_roundOf_14 rfl (lv_at hl 0 rfl) ?_
      refine rv_ald (k := j) hx hb hK hP 1 0 rfl rfl (by omega) (by decide) d_De_roundOf_15 ?_
      refine lv_iload_n hx hb d_De_roundOf_16 rfl (lv_at hl 2 rfl) ?_
      refine lv_icmp_ne (tgt := 27) hx hb d_De_roundOf_17 (by decide) (fun c_17 => ?_) (fun c_17 => ?_)
      · have hR2 : rd_find st.2.2.1 st.2.2.2.1 cc0 n (j + 1) = rd_find st.2.2.1 st.2.2.2.1 cc0 st.2.2.2.2.1 0 := by rw [← hR]; show _ = if _ then _ else _; rw [if_neg c_17]
        refine rv_inc (k := 0) (lv' := [(2, .int (nI (j + 1))), (0, .ref d0), (1, .int cc0)]) hx hb d_De_roundOf_27 hl rfl (by decide) rfl (fun ls hl => ?_)
        refine lv_goto (tgt := 2) hx hb d_De_roundOf_30 (by decide) ?_
        exact ih (j + 1) _ _ _ (by omega) (hR2) hP hS (lv_sub hl [0, 1, 2] rfl)
      · refine lv_aload_n hx hb d_De_roundOf_20 rfl (lv_at hl 1 rfl) ?_
        refine va_get (D := (dC, dI)) (ci := 2) (v := .ref qr) (C := R_De) (T := F_De) (N := 8) hx hb hts (rg_c i_De) hown hK hP 0 rfl rfl 4 (by decide) (hts _ (List.mem_cons_of_mem _ m_54)) (fun _ h9 => h9) rfl d_De_roundOf_21 ?_
        refine lv_iload_n hx hb d_De_roundOf_24 rfl (lv_at hl 0 rfl) ?_
        refine rv_ald (k := j) hx hb hK hP 2 0 rfl rfl (by omega) (by decide) d_De_roundOf_25 ?_
        subst hQ
        exact W.iret (v := st.2.2.2.1 j) hx hb hr (fun t ht hW => ⟨⟨st.2.2.2.1 j, (), rfl, by rw [← hR]; show _ = if _ then _ else _; rw [if_pos (by assumption)], trivial⟩, hS.F ht⟩) hS.2.2 d_De_roundOf_26
  exact lp st.2.2.2.2.1 0 _ _ _ (by omega) (rfl) hP hS (lv_sub hl [0, 1, 2] rfl)
