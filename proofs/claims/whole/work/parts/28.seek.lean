set_option maxHeartbeats 4000000 in
set_option maxRecDepth 100000 in
theorem c_Se_seekWay (l : Launch) (dC : Nat → ClassId) (dI : Nat → Nat → Nat) (dA : ClassId) (tP tG tC s0 qc aT t1 t2 t3 : Nat) (he : sT) (c0 : Nat) (x wt w0 : Int32) (st : sS) (sz : Nat) (hc : c0 < 32768) : Met l y_Se_seekWay (w_ y_Se_seekWay b_Se_seekWay 7 (some .boolean)) (rm_ 8) (va_Pc [.ref s0, .int (nI c0), .int x, .int wt] (fun U => U.heap.size = sz ∧ va_P (dC, dI) classes [(s0, .inr (3, [.ref aT, .ref qc, .int w0, .int st.2.1, .int st.2.2])), (qc, .inl (dA, 4, .inl st.1)), (aT, .inr (1, [.ref t1, .ref t2, .ref t3, .int he.2.2.2])), (t1, .inl (dA, 1024, .inl he.1)), (t2, .inl (dA, 32, .inl he.2.1)), (t3, .inl (dA, 32, .inl he.2.2.1))] U.heap ∧ va_K (dC, dI) classes [(dA, .int)] U ∧ va_D (fun _ => True) [(s0, .inr (3, [.ref aT, .ref qc, .int w0, .int st.2.1, .int st.2.2])), (qc, .inl (dA, 4, .inl st.1)), (aT, .inr (1, [.ref t1, .ref t2, .ref t3, .int he.2.2.2])), (t1, .inl (dA, 1024, .inl he.1)), (t2, .inl (dA, 32, .inl he.2.1)), (t3, .inl (dA, 32, .inl he.2.2.1))] ∧ rn_ U ∧ rz_ tP tG tC (va_A [(s0, .inr (3, [.ref aT, .ref qc, .int w0, .int st.2.1, .int st.2.2])), (qc, .inl (dA, 4, .inl st.1)), (aT, .inr (1, [.ref t1, .ref t2, .ref t3, .int he.2.2.2])), (t1, .inl (dA, 1024, .inl he.1)), (t2, .inl (dA, 32, .inl he.2.1)), (t3, .inl (dA, 32, .inl he.2.2.1))] sz) U)) (va_Qi (fun (z9 : Int32) (_ : Unit) => z9 = rb_z (rs_way he wt c0 x st).2) (fun (_ : Unit) t => va_P (dC, dI) classes [(s0, .inr (3, [.ref aT, .ref qc, .int wt, .int ((rs_way he wt c0 x st).1).2.1, .int ((rs_way he wt c0 x st).1).2.2])), (qc, .inl (dA, 4, .inl ((rs_way he wt c0 x st).1).1)), (aT, .inr (1, [.ref t1, .ref t2, .ref t3, .int he.2.2.2])), (t1, .inl (dA, 1024, .inl he.1)), (t2, .inl (dA, 32, .inl he.2.1)), (t3, .inl (dA, 32, .inl he.2.2.1))] t.heap ∧ va_D (va_A [(s0, .inr (3, [.ref aT, .ref qc, .int w0, .int st.2.1, .int st.2.2])), (qc, .inl (dA, 4, .inl st.1)), (aT, .inr (1, [.ref t1, .ref t2, .ref t3, .int he.2.2.2])), (t1, .inl (dA, 1024, .inl he.1)), (t2, .inl (dA, 32, .inl he.2.1)), (t3, .inl (dA, 32, .inl he.2.2.1))] sz) [(s0, .inr (3, [.ref aT, .ref qc, .int wt, .int ((rs_way he wt c0 x st).1).2.1, .int ((rs_way he wt c0 x st).1).2.2])), (qc, .inl (dA, 4, .inl ((rs_way he wt c0 x st).1).1)), (aT, .inr (1, [.ref t1, .ref t2, .ref t3, .int he.2.2.2])), (t1, .inl (dA, 1024, .inl he.1)), (t2, .inl (dA, 32, .inl he.2.1)), (t3, .inl (dA, 32, .inl he.2.2.1))]) (va_A [(s0, .inr (3, [.ref aT, .ref qc, .int w0, .int st.2.1, .int st.2.2])), (qc, .inl (dA, 4, .inl st.1)), (aT, .inr (1, [.ref t1, .ref t2, .ref t3, .int he.2.2.2])), (t1, .inl (dA, 1024, .inl he.1)), (t2, .inl (dA, 32, .inl he.2.1)), (t3, .inl (dA, 32, .inl he.2.2.1))] sz)) 0 0 (va_A [(s0, .inr (3, [.ref aT, .ref qc, .int w0, .int st.2.1, .int st.2.2])), (qc, .inl (dA, 4, .inl st.1)), (aT, .inr (1, [.ref t1, .ref t2, .ref t3, .int he.2.2.2])), (t1, .inl (dA, 1024, .inl he.1)), (t2, .inl (dA, 32, .inl he.2.1)), (t3, .inl (dA, 32, .inl he.2.2.1))] sz) := by
  refine Met.ofW (cc := b_Se_seekWay) (maxL := 7) (ret := (some .boolean)) (by decide) rfl ?_
  intro p e s m args below meth c s₁ B hml hv
  obtain ⟨rfl, hsz, hP, hK, hD0, hN, hZ⟩ := hv
  have hx := B.exec
  have hb := B.bytes
  have hr := B.returns
  have hts := atoms_spec (ws := (w_ y_Se_seekWay b_Se_seekWay 7 (some .boolean))) B.pre
  have hown : s.vm.findClass R_Se = some m.cls := findClass_of_methodNamed B.named
  have hlocks := B.notSynchronized
  subst hsz
  have hD := hD0.self (sz := s.heap.size)
  generalize hAe : va_A [(s0, .inr (3, [.ref aT, .ref qc, .int w0, .int st.2.1, .int st.2.2])), (qc, .inl (dA, 4, .inl st.1)), (aT, .inr (1, [.ref t1, .ref t2, .ref t3, .int he.2.2.2])), (t1, .inl (dA, 1024, .inl he.1)), (t2, .inl (dA, 32, .inl he.2.1)), (t3, .inl (dA, 32, .inl he.2.2.1))] s.heap.size = A at hD hZ ⊢
  have hA : ∀ q : Nat, s.heap.size ≤ q → A q := fun q h => by rw [← hAe]; exact Or.inr h
  have hS : va_S A s.heap s.heap [] := va_S.rf
  have hl := lv_entry ([.ref s0, .int (nI c0), .int x, .int wt]) (n := 7) (Nat.le_of_ble_eq_true rfl)
  rw [lg_entry_eq]
  generalize (lg_sl ([.ref s0, .int (nI c0), .int x, .int wt]) ++ List.replicate (7 - (lg_sl ([.ref s0, .int (nI c0), .int x, .int wt])).length) Slot.unset).toArray = ls at hl ⊢
  have hl : lv_has ls 7 [(0, .ref s0), (1, .int (nI c0)), (2, .int x), (3, .int wt)] := hl
  refine lv_aload_n hx hb d_Se_seekWay_0 rfl (lv_at hl 0 rfl) ?_
  refine lv_iload_n hx hb d_Se_seekWay_1 rfl (lv_at hl 3 rfl) ?_
  refine va_put (D := (dC, dI)) (ci := 3) (v := .int wt) (ty := .int) (C := R_Se) (T := F_Se) (N := 5) hx hb hts (rg_c i_Se) t_Se t_Se_ok n_Se hown hK hP hD hS 0 rfl rfl 2 (by decide) (hts _ (List.mem_cons_of_mem _ m_89)) (fun _ h9 => h9) rfl (by decide +kernel) (by rfl) (by rfl) (Nat.le_of_ble_eq_true rfl) d_Se_seekWay_2 (fun H locs hP hD hS => ?_)
  have hP : va_P (dC, dI) classes [(s0, .inr (3, [.ref aT, .ref qc, .int wt, .int st.2.1, .int st.2.2])), (qc, .inl (dA, 4, .inl st.1)), (aT, .inr (1, [.ref t1, .ref t2, .ref t3, .int he.2.2.2])), (t1, .inl (dA, 1024, .inl he.1)), (t2, .inl (dA, 32, .inl he.2.1)), (t3, .inl (dA, 32, .inl he.2.2.1))] H := hP
  have hD : va_D A [(s0, .inr (3, [.ref aT, .ref qc, .int wt, .int st.2.1, .int st.2.2])), (qc, .inl (dA, 4, .inl st.1)), (aT, .inr (1, [.ref t1, .ref t2, .ref t3, .int he.2.2.2])), (t1, .inl (dA, 1024, .inl he.1)), (t2, .inl (dA, 32, .inl he.2.1)), (t3, .inl (dA, 32, .inl he.2.2.1))] := hD
  refine lv_aload_n hx hb d_Se_seekWay_5 rfl (lv_at hl 0 rfl) ?_
  refine lv_iconst (v := nI 0) hx hb d_Se_seekWay_6 (by decide) ?_
  refine va_put (D := (dC, dI)) (ci := 3) (v := .int (nI 0)) (ty := .int) (C := R_Se) (T := F_Se) (N := 5) hx hb hts (rg_c i_Se) t_Se t_Se_ok n_Se hown hK hP hD hS 0 rfl rfl 3 (by decide) (hts _ (List.mem_cons_of_mem _ m_90)) (fun _ h9 => h9) rfl (by decide +kernel) (by rfl) (by rfl) (Nat.le_of_ble_eq_true rfl) d_Se_seekWay_7 (fun H locs hP hD hS => ?_)
  have hP : va_P (dC, dI) classes [(s0, .inr (3, [.ref aT, .ref qc, .int wt, .int (nI 0), .int st.2.2])), (qc, .inl (dA, 4, .inl st.1)), (aT, .inr (1, [.ref t1, .ref t2, .ref t3, .int he.2.2.2])), (t1, .inl (dA, 1024, .inl he.1)), (t2, .inl (dA, 32, .inl he.2.1)), (t3, .inl (dA, 32, .inl he.2.2.1))] H := hP
  have hD : va_D A [(s0, .inr (3, [.ref aT, .ref qc, .int wt, .int (nI 0), .int st.2.2])), (qc, .inl (dA, 4, .inl st.1)), (aT, .inr (1, [.ref t1, .ref t2, .ref t3, .int he.2.2.2])), (t1, .inl (dA, 1024, .inl he.1)), (t2, .inl (dA, 32, .inl he.2.1)), (t3, .inl (dA, 32, .inl he.2.2.1))] := hD
  refine lv_iconst (v := nI 0) hx hb d_Se_seekWay_10 (by decide) ?_
  refine lv_istore (lv' := [(4, .int (nI 0)), (0, .ref s0), (1, .int (nI c0)), (2, .int x), (3, .int wt)]) hx hb d_Se_seekWay_11 hl (by decide) rfl (fun ls hl => ?_)
  obtain ⟨RES, hRES⟩ : ∃ R, R = rs_way he wt c0 x st := ⟨_, rfl⟩
  rw [← hRES]
  have hP : va_P (dC, dI) classes [(s0, .inr (3, [.ref aT, .ref qc, .int wt, .int (st.1, nI 0, st.2.2).2.1, .int (st.1, nI 0, st.2.2).2.2])), (qc, .inl (dA, 4, .inl (st.1, nI 0, st.2.2).1)), (aT, .inr (1, [.ref t1, .ref t2, .ref t3, .int he.2.2.2])), (t1, .inl (dA, 1024, .inl he.1)), (t2, .inl (dA, 32, .inl he.2.1)), (t3, .inl (dA, 32, .inl he.2.2.1))] H := hP
  have hD : va_D A [(s0, .inr (3, [.ref aT, .ref qc, .int wt, .int (st.1, nI 0, st.2.2).2.1, .int (st.1, nI 0, st.2.2).2.2])), (qc, .inl (dA, 4, .inl (st.1, nI 0, st.2.2).1)), (aT, .inr (1, [.ref t1, .ref t2, .ref t3, .int he.2.2.2])), (t1, .inl (dA, 1024, .inl he.1)), (t2, .inl (dA, 32, .inl he.2.1)), (t3, .inl (dA, 32, .inl he.2.2.1))] := hD
  refine rv_Q (fun Q hQ => ?_)
  have lp : ∀ (n : Nat) (row : Nat) (st2 : sS) (H : Heap) (locs : List Loc) (ls : Array Slot), row + n = 21 → rj_fold (rs_G he wt c0 x) st2 (List.range' row n) = RES → va_P (dC, dI) classes [(s0, .inr (3, [.ref aT, .ref qc, .int wt, .int st2.2.1, .int st2.2.2])), (qc, .inl (dA, 4, .inl st2.1)), (aT, .inr (1, [.ref t1, .ref t2, .ref t3, .int he.2.2.2])), (t1, .inl (dA, 1024, .inl he.1)), (t2, .inl (dA, 32, .inl he.2.1)), (t3, .inl (dA, 32, .inl he.2.2.1))] H → va_D A [(s0, .inr (3, [.ref aT, .ref qc, .int wt, .int st2.2.1, .int st2.2.2])), (qc, .inl (dA, 4, .inl st2.1)), (aT, .inr (1, [.ref t1, .ref t2, .ref t3, .int he.2.2.2])), (t1, .inl (dA, 1024, .inl he.1)), (t2, .inl (dA, 32, .inl he.2.1)), (t3, .inl (dA, 32, .inl he.2.2.1))] → va_S A s.heap H locs → lv_has ls 7 [(4, .int (nI row)), (0, .ref s0), (1, .int (nI c0)), (2, .int x), (3, .int wt)] → W p l e (headSpec (w_ y_Se_seekWay b_Se_seekWay 7 (some .boolean)) (rm_ 8)).room s m ([.ref s0, .int (nI c0), .int x, .int wt] : List Value).toArray below meth c H locs 0 0 Q (F0 m 13 ls []) := by
    intro n
    induction n with
    | zero =>
      intro row st2 H locs ls hn hR hP hD hS hl
      refine lv_iload hx hb d_Se_seekWay_13 (lv_at hl 0 rfl) ?_
      refine lv_bipush (v := nI 21) hx hb d_Se_seekWay_15 (by decide) ?_
      refine rv_icmp_ge (tgt := 77) hx hb d_Se_seekWay_17 (by decide) (by omega) (by omega) (fun c_17 => ?_) (fun c_17 => absurd c_17 (by omega))
      refine lv_iconst (v := nI 0) hx hb d_Se_seekWay_77 (by decide) ?_
      subst hQ
      exact W.zret (v := nI 0) hx hb hr (by rfl) (fun t ht hW => ⟨⟨nI 0, (), rfl, by rw [← hR]; rfl, by rw [ht]; rw [← hR]; exact hP, by rw [← hR]; exact hD⟩, hS.F ht⟩) hS.2.2 d_Se_seekWay_78
    | succ n ih =>
      intro row st2 H locs ls hn hR hP hD hS hl
      have hcl := rq_cnts_le row (by omega)
      rw [List.range'_succ] at hR
      refine lv_iload hx hb d_Se_seekWay_13 (lv_at hl 0 rfl) ?_
      refine lv_bipush (v := nI 21) hx hb d_Se_seekWay_15 (by decide) ?_
      refine rv_icmp_ge (tgt := 77) hx hb d_Se_seekWay_17 (by decide) (by omega) (by omega) (fun c_17 => absurd c_17 (by omega)) (fun c_17 => ?_)
      refine lv_iload_n hx hb d_Se_seekWay_20 rfl (lv_at hl 3 rfl) ?_
      refine lv_iload hx hb d_Se_seekWay_21 (lv_at hl 0 rfl) ?_
      refine rv_calli (r := if rb_b x row then nI 1 else nI 0) (va_runSN (As := [.int x, .int (nI row)]) (rest := []) ⟨hx, hb, hml, hown, hts⟩ (c_Rl_contains l x row (by omega)) ⟨va_cnB 2 hts (rg_G k_Rl_contains) rfl rfl rfl (hN _ rn_13) (hts _ (List.mem_cons_of_mem _ m_1)) (by decide +kernel) ⟨by show 0 + 1 ≤ 8; omega, by show 8 + (2 + 11) + 64 * 0 ≤ 64 * (8); omega⟩, hts _ (List.mem_cons_of_mem _ m_150), trivial⟩ ⟨fun _ _ _ _ q => q, fun U hU hW => ⟨rfl, trivial⟩⟩ rfl rfl hl.1 rfl (lv_room (Nat.le_of_ble_eq_true rfl)) d_Se_seekWay_23 ⟨Nat.zero_le _, Nat.zero_le _⟩) hS (fun _ h => h.elim) (fun H locs hk hS => ?_)
      have hP := rv_kept hP hk
      rcases hq0 : rb_b x row with _ | _
      · refine rv_eq (y := nI 0) (rfl) ?_
        have hFq : (rs_G he wt c0 x) st2 row = (st2, false) := by unfold rs_G; rw [if_neg (by rw [hq0]; simp)]
        refine rv_if_ne (tgt := 32) hx hb d_Se_seekWay_26 (by decide) (by omega) (fun c_26 => absurd c_26 (by omega)) (fun c_26 => ?_)
        refine lv_goto (tgt := 71) hx hb d_Se_seekWay_29 (by decide) ?_
        refine rv_inc (k := 0) (lv' := [(4, .int (nI (row + 1))), (0, .ref s0), (1, .int (nI c0)), (2, .int x), (3, .int wt)]) hx hb d_Se_seekWay_71 hl rfl (by decide) rfl (fun ls hl => ?_)
        refine lv_goto (tgt := 13) hx hb d_Se_seekWay_74 (by decide) ?_
        have hR2 := rj_fold_go hR (by rw [hFq])
        rw [hFq] at hR2
        exact ih (row + 1) st2 _ _ _ (by omega) (hR2) hP hD hS (lv_sub hl [0, 1, 2, 3, 4] rfl)
      · refine rv_eq (y := nI 1) (rfl) ?_
        have hG : (rs_G he wt c0 x) st2 row = rs_F he wt c0 st2 row := by unfold rs_G; rw [if_pos hq0]
        refine rv_if_ne (tgt := 32) hx hb d_Se_seekWay_26 (by decide) (by omega) (fun c_26 => ?_) (fun c_26 => absurd c_26 (by omega))
        refine va_gets hx hb hZ.2.1.1 hS hown (hts _ (List.mem_cons_of_mem _ m_315)) (fun _ h9 => h9) d_Se_seekWay_32 ?_
        refine lv_iload hx hb d_Se_seekWay_35 (lv_at hl 0 rfl) ?_
        refine rv_calli (r := nI (3 * row)) (va_runS (As := [.int (nI row)]) (rest := [.ref tG]) ⟨hx, hb, hml, hown, hts⟩ (c_Tb_givenAt l row) (va_cwS 1 hts (rg_S (rg3 m_316 m_234 m_8) k_Tb_givenAt) rfl rfl rfl (by decide +kernel) ⟨by show 0 + 1 ≤ 8; omega, by show 8 + (1 + 11) + 64 * 0 ≤ 64 * (8); omega⟩) ⟨fun _ _ _ _ q => q, fun U hU hW => ⟨rfl, trivial⟩⟩ rfl rfl hl.1 rfl (lv_room (Nat.le_of_ble_eq_true rfl)) d_Se_seekWay_37 ⟨Nat.zero_le _, Nat.zero_le _⟩) hS (fun _ h => h.elim) (fun H locs hk hS => ?_)
        have hP := rv_kept hP hk
        refine lv_iload_n hx hb d_Se_seekWay_40 rfl (lv_at hl 2 rfl) ?_
        refine lv_lconst (v := lN 0) hx hb d_Se_seekWay_41 (by decide) ?_
        refine rv_eql (y := lN (rt_pk rt_free)) (congrArg lN rt_free_pk.symm) ?_
        refine rv_calll (r := rt_l (rt_fit (rq_given.getD (3 * row) 0) (rq_given.getD ((3 * row) + 1) 0) (rq_given.getD ((3 * row) + 2) 0) c0 rt_free)) (va_runS (As := [.ref tG, .int (nI (3 * row)), .int (nI c0), .long (lN (rt_pk rt_free))]) (rest := []) ⟨hx, hb, hml, hown, hts⟩ (c_Le_fit l tG 63 (3 * row) c0 rq_given rt_free (by decide) (by omega) (rq_given_lt _) (rq_given_lt _) (rq_given_lt _) (hc) (rt_free_ok)) (va_cwS 4 hts (rg_S (rg3 m_317 m_209 m_9) k_Le_fit) rfl rfl rfl (by decide +kernel) ⟨by show 2 + 1 ≤ 8; omega, by show 8 + (7 + 11) + 64 * 2 ≤ 64 * (8); omega⟩) ⟨fun a U g mk q => ⟨q.1, q.2.moved (Vm.Alike.refl U.vm)⟩, fun U hU hW => ⟨rfl, rv_T hZ.2.1.2 hS hU hW (fun _ h => h.elim)⟩⟩ rfl rfl hl.1 rfl (lv_room (Nat.le_of_ble_eq_true rfl)) d_Se_seekWay_42 ⟨Nat.zero_le _, Nat.zero_le _⟩) hS (fun _ h => h.elim) (fun H locs hk hS => ?_)
        have hP := rv_kept hP hk
        rcases hq : rt_fit (rq_given.getD (3 * row) 0) (rq_given.getD (3 * row + 1) 0) (rq_given.getD (3 * row + 2) 0) c0 rt_free with _ | ds
        · refine rv_eql (y := (-1)) (rfl) ?_
          have hFq : (rs_G he wt c0 x) st2 row = (st2, false) := by rw [hG]; unfold rs_F; rw [hq]
          refine lv_lstore (lv' := [(5, .long (-1)), (4, .int (nI row)), (0, .ref s0), (1, .int (nI c0)), (2, .int x), (3, .int wt)]) hx hb d_Se_seekWay_45 hl (by decide) rfl (fun ls hl => ?_)
          refine lv_lload hx hb d_Se_seekWay_47 (lv_at hl 0 rfl) ?_
          refine lv_ldc2 (v := (-1)) hx hb hown (hts _ (List.mem_cons_of_mem _ m_318)) d_Se_seekWay_49 ?_
          refine W.lcmp hx hb d_Se_seekWay_52 ?_
          refine rv_eq (y := nI 0) (rt_cmp0 _) ?_
          refine rv_if_eq (tgt := 71) hx hb d_Se_seekWay_53 (by decide) (by omega) (fun c_53 => ?_) (fun c_53 => absurd c_53 (by omega))
          refine rv_inc (k := 1) (lv' := [(4, .int (nI (row + 1))), (5, .long (-1)), (0, .ref s0), (1, .int (nI c0)), (2, .int x), (3, .int wt)]) hx hb d_Se_seekWay_71 hl rfl (by decide) rfl (fun ls hl => ?_)
          refine lv_goto (tgt := 13) hx hb d_Se_seekWay_74 (by decide) ?_
          have hR2 := rj_fold_go hR (by rw [hFq])
          rw [hFq] at hR2
          exact ih (row + 1) st2 _ _ _ (by omega) (hR2) hP hD hS (lv_sub hl [0, 2, 3, 4, 5] rfl)
        · have hd2 := rt_fit_ok rt_free_ok hc hq
          refine rv_eql (y := lN (rt_pk ds)) (rfl) ?_
          have hFq : (rs_G he wt c0 x) st2 row = rj_join (rx_trav he.1 he.2.1 he.2.2.1 he.2.2.2) (rs_meet wt row) rs_ch row none (rq_cnts.getD row 0) 0 ds st2 := by rw [hG]; unfold rs_F; rw [hq]
          refine lv_lstore (lv' := [(5, .long (lN (rt_pk ds))), (4, .int (nI row)), (0, .ref s0), (1, .int (nI c0)), (2, .int x), (3, .int wt)]) hx hb d_Se_seekWay_45 hl (by decide) rfl (fun ls hl => ?_)
          refine lv_lload hx hb d_Se_seekWay_47 (lv_at hl 0 rfl) ?_
          refine lv_ldc2 (v := (-1)) hx hb hown (hts _ (List.mem_cons_of_mem _ m_318)) d_Se_seekWay_49 ?_
          refine W.lcmp hx hb d_Se_seekWay_52 ?_
          refine lv_if_eq (tgt := 71) hx hb d_Se_seekWay_53 (by decide) (fun c_53 => absurd c_53 (rt_cmp_ne hd2)) (fun c_53 => ?_)
          refine lv_aload_n hx hb d_Se_seekWay_56 rfl (lv_at hl 2 rfl) ?_
          refine lv_iload hx hb d_Se_seekWay_57 (lv_at hl 1 rfl) ?_
          refine lv_iconst (v := nI 0) hx hb d_Se_seekWay_59 (by decide) ?_
          refine lv_iconst (v := (-1)) hx hb d_Se_seekWay_60 (by decide) ?_
          refine lv_lload hx hb d_Se_seekWay_61 (lv_at hl 0 rfl) ?_
          have hPc := hP.sub (ws' := [(s0, .inr (3, [.ref aT, .ref qc, .int wt, .int st2.2.1, .int st2.2.2])), (qc, .inl (dA, 4, .inl st2.1)), (aT, .inr (1, [.ref t1, .ref t2, .ref t3, .int he.2.2.2])), (t1, .inl (dA, 1024, .inl he.1)), (t2, .inl (dA, 32, .inl he.2.1)), (t3, .inl (dA, 32, .inl he.2.2.1))]) [0, 1, 2, 3, 4, 5] rfl
          have hDc := hD.sub (ws' := [(s0, .inr (3, [.ref aT, .ref qc, .int wt, .int st2.2.1, .int st2.2.2])), (qc, .inl (dA, 4, .inl st2.1)), (aT, .inr (1, [.ref t1, .ref t2, .ref t3, .int he.2.2.2])), (t1, .inl (dA, 1024, .inl he.1)), (t2, .inl (dA, 32, .inl he.2.1)), (t3, .inl (dA, 32, .inl he.2.2.1))]) [0, 1, 2, 3, 4, 5] (by decide) rfl
          have hFc := va_free (wc := [(s0, .inr (3, [.ref aT, .ref qc, .int wt, .int st2.2.1, .int st2.2.2])), (qc, .inl (dA, 4, .inl st2.1)), (aT, .inr (1, [.ref t1, .ref t2, .ref t3, .int he.2.2.2])), (t1, .inl (dA, 1024, .inl he.1)), (t2, .inl (dA, 32, .inl he.2.1)), (t3, .inl (dA, 32, .inl he.2.2.1))]) hD hS hA [0, 1, 2, 3, 4, 5] rfl
          refine va_calli (va_runSN (As := [.ref s0, .int (nI row), .int (nI 0), .int (-1), .long (lN (rt_pk ds))]) (rest := []) ⟨hx, hb, hml, hown, hts⟩ (c_Ma_joinS l (rq_cnts.getD row 0) dC dI dA tP tG tC s0 qc aT t1 t2 t3 he row 0 wt none ds st2 H.size (by omega) (fun u hu => by cases hu) hd2 (by omega)) ⟨va_cnB 5 hts (rg_G k_Ma_join) rfl rfl rfl (hN _ rn_14) (hts _ (List.mem_cons_of_mem _ m_3)) (by decide +kernel) ⟨by show 3 + rq_cnts.getD row 0 + 1 ≤ 8; omega, by show 8 + (21 + 11) + 64 * (3 + rq_cnts.getD row 0) ≤ 64 * (8); omega⟩, hts _ (List.mem_cons_of_mem _ m_221), trivial⟩ ⟨fun a U g mk q => ⟨q.1, q.2.1, q.2.2.1, va_K.moved (u := U) (U := U.calling g mk a) (Vm.Alike.refl U.vm) q.2.2.2.1, q.2.2.2.2.1, rn_same (u := U) (U := U.calling g mk a) rfl q.2.2.2.2.2.1, rz_same q.2.2.2.2.2.2⟩, fun U hU hW => ⟨rfl, by rw [hU], by rw [hU]; exact hPc, va_K.moved hW.alike hK, hDc.weaken (fun _ _ _ _ => trivial), rn_warm hW hN, rz_at hZ hS hU hW hFc⟩⟩ rfl rfl hl.1 rfl (lv_room (Nat.le_of_ble_eq_true rfl)) d_Se_seekWay_63 ⟨Nat.zero_le _, Nat.zero_le _⟩) hS (fun q _ h => hFc q h) hFc (fun r9 u t H1 locs ht hvm hw hB hz1 hk1 hS => ?_)
          subst hw
          obtain ⟨hP1, hD1⟩ := hB
          rw [ht] at hP1
          obtain ⟨hP, hD⟩ := va_join (wr := []) (w1 := [(s0, .inr (3, [.ref aT, .ref qc, .int wt, .int ((rj_join (rx_trav he.1 he.2.1 he.2.2.1 he.2.2.2) (rs_meet wt row) rs_ch row none (rq_cnts.getD row 0) 0 ds st2).1).2.1, .int ((rj_join (rx_trav he.1 he.2.1 he.2.2.1 he.2.2.2) (rs_meet wt row) rs_ch row none (rq_cnts.getD row 0) 0 ds st2).1).2.2])), (qc, .inl (dA, 4, .inl ((rj_join (rx_trav he.1 he.2.1 he.2.2.1 he.2.2.2) (rs_meet wt row) rs_ch row none (rq_cnts.getD row 0) 0 ds st2).1).1)), (aT, .inr (1, [.ref t1, .ref t2, .ref t3, .int he.2.2.2])), (t1, .inl (dA, 1024, .inl he.1)), (t2, .inl (dA, 32, .inl he.2.1)), (t3, .inl (dA, 32, .inl he.2.2.1))]) hP hD [0, 1, 2, 3, 4, 5] [] rfl rfl (by decide) (by decide) hk1 hFc hP1 hD1
          clear hk1 hFc hPc hDc hP1 hD1
          generalize H1 = H at hP hS ⊢
          have hP : va_P (dC, dI) classes [(s0, .inr (3, [.ref aT, .ref qc, .int wt, .int ((rj_join (rx_trav he.1 he.2.1 he.2.2.1 he.2.2.2) (rs_meet wt row) rs_ch row none (rq_cnts.getD row 0) 0 ds st2).1).2.1, .int ((rj_join (rx_trav he.1 he.2.1 he.2.2.1 he.2.2.2) (rs_meet wt row) rs_ch row none (rq_cnts.getD row 0) 0 ds st2).1).2.2])), (qc, .inl (dA, 4, .inl ((rj_join (rx_trav he.1 he.2.1 he.2.2.1 he.2.2.2) (rs_meet wt row) rs_ch row none (rq_cnts.getD row 0) 0 ds st2).1).1)), (aT, .inr (1, [.ref t1, .ref t2, .ref t3, .int he.2.2.2])), (t1, .inl (dA, 1024, .inl he.1)), (t2, .inl (dA, 32, .inl he.2.1)), (t3, .inl (dA, 32, .inl he.2.2.1))] H := hP.sub [0, 1, 2, 3, 4, 5] rfl
          have hD : va_D A [(s0, .inr (3, [.ref aT, .ref qc, .int wt, .int ((rj_join (rx_trav he.1 he.2.1 he.2.2.1 he.2.2.2) (rs_meet wt row) rs_ch row none (rq_cnts.getD row 0) 0 ds st2).1).2.1, .int ((rj_join (rx_trav he.1 he.2.1 he.2.2.1 he.2.2.2) (rs_meet wt row) rs_ch row none (rq_cnts.getD row 0) 0 ds st2).1).2.2])), (qc, .inl (dA, 4, .inl ((rj_join (rx_trav he.1 he.2.1 he.2.2.1 he.2.2.2) (rs_meet wt row) rs_ch row none (rq_cnts.getD row 0) 0 ds st2).1).1)), (aT, .inr (1, [.ref t1, .ref t2, .ref t3, .int he.2.2.2])), (t1, .inl (dA, 1024, .inl he.1)), (t2, .inl (dA, 32, .inl he.2.1)), (t3, .inl (dA, 32, .inl he.2.2.1))] := hD.sub [0, 1, 2, 3, 4, 5] (by decide) rfl
          generalize hJ : rj_join (rx_trav he.1 he.2.1 he.2.2.1 he.2.2.2) (rs_meet wt row) rs_ch row none (rq_cnts.getD row 0) 0 ds st2 = J at hP hD hFq ⊢
          rcases hj2 : J.2 with _ | _
          · refine rv_eq (y := nI 0) (rfl) ?_
            have hR2 := rj_fold_go hR (by rw [hFq]; exact hj2)
            rw [hFq] at hR2
            refine rv_if_eq (tgt := 71) hx hb d_Se_seekWay_66 (by decide) (by omega) (fun c_66 => ?_) (fun c_66 => absurd c_66 (by omega))
            refine rv_inc (k := 1) (lv' := [(4, .int (nI (row + 1))), (5, .long (lN (rt_pk ds))), (0, .ref s0), (1, .int (nI c0)), (2, .int x), (3, .int wt)]) hx hb d_Se_seekWay_71 hl rfl (by decide) rfl (fun ls hl => ?_)
            refine lv_goto (tgt := 13) hx hb d_Se_seekWay_74 (by decide) ?_
            exact ih (row + 1) J.1 _ _ _ (by omega) (hR2) hP hD hS (lv_sub hl [0, 2, 3, 4, 5] rfl)
          · refine rv_eq (y := nI 1) (rfl) ?_
            have hR2 := rj_fold_stop hR (by rw [hFq]; exact hj2)
            rw [hFq] at hR2
            refine rv_if_eq (tgt := 71) hx hb d_Se_seekWay_66 (by decide) (by omega) (fun c_66 => absurd c_66 (by omega)) (fun c_66 => ?_)
            refine lv_iconst (v := nI 1) hx hb d_Se_seekWay_69 (by decide) ?_
            subst hQ
            exact W.zret (v := nI 1) hx hb hr (by rfl) (fun t ht hW => ⟨⟨nI 1, (), rfl, by rw [← hR2, hj2]; rfl, by rw [ht]; rw [← hR2]; exact hP, by rw [← hR2]; exact hD⟩, hS.F ht⟩) hS.2.2 d_Se_seekWay_70
  exact lp 21 0 (st.1, nI 0, st.2.2) _ _ _ (by omega) (hRES.symm) hP hD hS (lv_sub hl [0, 1, 2, 3, 4] rfl)

set_option maxHeartbeats 4000000 in
set_option maxRecDepth 100000 in
theorem c_Se_countWays (l : Launch) (dC : Nat → ClassId) (dI : Nat → Nat → Nat) (dA : ClassId) (tP tG tC s0 qc aT t1 t2 t3 : Nat) (he : sT) (c0 : Nat) (x w0 : Int32) (st : sS) (sz : Nat) (hc : c0 < 32768) : Met l y_Se_countWays (w_ y_Se_countWays b_Se_countWays 3 (some .int)) (rm_ 9) (va_Pc [.ref s0, .int (nI c0), .int x] (fun U => U.heap.size = sz ∧ va_P (dC, dI) classes [(s0, .inr (3, [.ref aT, .ref qc, .int w0, .int st.2.1, .int st.2.2])), (qc, .inl (dA, 4, .inl st.1)), (aT, .inr (1, [.ref t1, .ref t2, .ref t3, .int he.2.2.2])), (t1, .inl (dA, 1024, .inl he.1)), (t2, .inl (dA, 32, .inl he.2.1)), (t3, .inl (dA, 32, .inl he.2.2.1))] U.heap ∧ va_K (dC, dI) classes [(dA, .int)] U ∧ va_D (fun _ => True) [(s0, .inr (3, [.ref aT, .ref qc, .int w0, .int st.2.1, .int st.2.2])), (qc, .inl (dA, 4, .inl st.1)), (aT, .inr (1, [.ref t1, .ref t2, .ref t3, .int he.2.2.2])), (t1, .inl (dA, 1024, .inl he.1)), (t2, .inl (dA, 32, .inl he.2.1)), (t3, .inl (dA, 32, .inl he.2.2.1))] ∧ rn_ U ∧ rz_ tP tG tC (va_A [(s0, .inr (3, [.ref aT, .ref qc, .int w0, .int st.2.1, .int st.2.2])), (qc, .inl (dA, 4, .inl st.1)), (aT, .inr (1, [.ref t1, .ref t2, .ref t3, .int he.2.2.2])), (t1, .inl (dA, 1024, .inl he.1)), (t2, .inl (dA, 32, .inl he.2.1)), (t3, .inl (dA, 32, .inl he.2.2.1))] sz) U)) (va_Qi (fun (z9 : Int32) (_ : Unit) => z9 = (rs_way he (-1) c0 x st).1.2.1) (fun (_ : Unit) t => va_P (dC, dI) classes [(s0, .inr (3, [.ref aT, .ref qc, .int (-1), .int ((rs_way he (-1) c0 x st).1).2.1, .int ((rs_way he (-1) c0 x st).1).2.2])), (qc, .inl (dA, 4, .inl ((rs_way he (-1) c0 x st).1).1)), (aT, .inr (1, [.ref t1, .ref t2, .ref t3, .int he.2.2.2])), (t1, .inl (dA, 1024, .inl he.1)), (t2, .inl (dA, 32, .inl he.2.1)), (t3, .inl (dA, 32, .inl he.2.2.1))] t.heap ∧ va_D (va_A [(s0, .inr (3, [.ref aT, .ref qc, .int w0, .int st.2.1, .int st.2.2])), (qc, .inl (dA, 4, .inl st.1)), (aT, .inr (1, [.ref t1, .ref t2, .ref t3, .int he.2.2.2])), (t1, .inl (dA, 1024, .inl he.1)), (t2, .inl (dA, 32, .inl he.2.1)), (t3, .inl (dA, 32, .inl he.2.2.1))] sz) [(s0, .inr (3, [.ref aT, .ref qc, .int (-1), .int ((rs_way he (-1) c0 x st).1).2.1, .int ((rs_way he (-1) c0 x st).1).2.2])), (qc, .inl (dA, 4, .inl ((rs_way he (-1) c0 x st).1).1)), (aT, .inr (1, [.ref t1, .ref t2, .ref t3, .int he.2.2.2])), (t1, .inl (dA, 1024, .inl he.1)), (t2, .inl (dA, 32, .inl he.2.1)), (t3, .inl (dA, 32, .inl he.2.2.1))]) (va_A [(s0, .inr (3, [.ref aT, .ref qc, .int w0, .int st.2.1, .int st.2.2])), (qc, .inl (dA, 4, .inl st.1)), (aT, .inr (1, [.ref t1, .ref t2, .ref t3, .int he.2.2.2])), (t1, .inl (dA, 1024, .inl he.1)), (t2, .inl (dA, 32, .inl he.2.1)), (t3, .inl (dA, 32, .inl he.2.2.1))] sz)) 0 0 (va_A [(s0, .inr (3, [.ref aT, .ref qc, .int w0, .int st.2.1, .int st.2.2])), (qc, .inl (dA, 4, .inl st.1)), (aT, .inr (1, [.ref t1, .ref t2, .ref t3, .int he.2.2.2])), (t1, .inl (dA, 1024, .inl he.1)), (t2, .inl (dA, 32, .inl he.2.1)), (t3, .inl (dA, 32, .inl he.2.2.1))] sz) := by
  refine Met.ofW (cc := b_Se_countWays) (maxL := 3) (ret := (some .int)) (by decide) rfl ?_
  intro p e s m args below meth c s₁ B hml hv
  obtain ⟨rfl, hsz, hP, hK, hD0, hN, hZ⟩ := hv
  have hx := B.exec
  have hb := B.bytes
  have hr := B.returns
  have hts := atoms_spec (ws := (w_ y_Se_countWays b_Se_countWays 3 (some .int))) B.pre
  have hown : s.vm.findClass R_Se = some m.cls := findClass_of_methodNamed B.named
  have hlocks := B.notSynchronized
  subst hsz
  have hD := hD0.self (sz := s.heap.size)
  generalize hAe : va_A [(s0, .inr (3, [.ref aT, .ref qc, .int w0, .int st.2.1, .int st.2.2])), (qc, .inl (dA, 4, .inl st.1)), (aT, .inr (1, [.ref t1, .ref t2, .ref t3, .int he.2.2.2])), (t1, .inl (dA, 1024, .inl he.1)), (t2, .inl (dA, 32, .inl he.2.1)), (t3, .inl (dA, 32, .inl he.2.2.1))] s.heap.size = A at hD hZ ⊢
  have hA : ∀ q : Nat, s.heap.size ≤ q → A q := fun q h => by rw [← hAe]; exact Or.inr h
  have hS : va_S A s.heap s.heap [] := va_S.rf
  have hl := lv_entry ([.ref s0, .int (nI c0), .int x]) (n := 3) (Nat.le_of_ble_eq_true rfl)
  rw [lg_entry_eq]
  generalize (lg_sl ([.ref s0, .int (nI c0), .int x]) ++ List.replicate (3 - (lg_sl ([.ref s0, .int (nI c0), .int x])).length) Slot.unset).toArray = ls at hl ⊢
  have hl : lv_has ls 3 [(0, .ref s0), (1, .int (nI c0)), (2, .int x)] := hl
  refine lv_aload_n hx hb d_Se_countWays_0 rfl (lv_at hl 0 rfl) ?_
  refine lv_iload_n hx hb d_Se_countWays_1 rfl (lv_at hl 1 rfl) ?_
  refine lv_iload_n hx hb d_Se_countWays_2 rfl (lv_at hl 2 rfl) ?_
  refine lv_iconst (v := (-1)) hx hb d_Se_countWays_3 (by decide) ?_
  have hPc := hP.sub (ws' := [(s0, .inr (3, [.ref aT, .ref qc, .int w0, .int st.2.1, .int st.2.2])), (qc, .inl (dA, 4, .inl st.1)), (aT, .inr (1, [.ref t1, .ref t2, .ref t3, .int he.2.2.2])), (t1, .inl (dA, 1024, .inl he.1)), (t2, .inl (dA, 32, .inl he.2.1)), (t3, .inl (dA, 32, .inl he.2.2.1))]) [0, 1, 2, 3, 4, 5] rfl
  have hDc := hD.sub (ws' := [(s0, .inr (3, [.ref aT, .ref qc, .int w0, .int st.2.1, .int st.2.2])), (qc, .inl (dA, 4, .inl st.1)), (aT, .inr (1, [.ref t1, .ref t2, .ref t3, .int he.2.2.2])), (t1, .inl (dA, 1024, .inl he.1)), (t2, .inl (dA, 32, .inl he.2.1)), (t3, .inl (dA, 32, .inl he.2.2.1))]) [0, 1, 2, 3, 4, 5] (by decide) rfl
  have hFc := va_free (wc := [(s0, .inr (3, [.ref aT, .ref qc, .int w0, .int st.2.1, .int st.2.2])), (qc, .inl (dA, 4, .inl st.1)), (aT, .inr (1, [.ref t1, .ref t2, .ref t3, .int he.2.2.2])), (t1, .inl (dA, 1024, .inl he.1)), (t2, .inl (dA, 32, .inl he.2.1)), (t3, .inl (dA, 32, .inl he.2.2.1))]) hD hS hA [0, 1, 2, 3, 4, 5] rfl
  refine va_calli (va_runV (As := [.int (nI c0), .int x, .int (-1)]) (rest := []) ⟨hx, hb, hml, hown, hts⟩ (c_Se_seekWay l dC dI dA tP tG tC s0 qc aT t1 t2 t3 he c0 x (-1) w0 st s.heap.size (hc)) (cwV 3 hts (rg_V (rg4 m_310 m_311 m_312 m_5) k_Se_seekWay) rfl rfl rfl (by decide +kernel) ⟨Nat.le_of_ble_eq_true rfl, Nat.le_of_ble_eq_true rfl⟩) ⟨fun a U g mk q => ⟨q.1, q.2.1, q.2.2.1, va_K.moved (u := U) (U := U.calling g mk a) (Vm.Alike.refl U.vm) q.2.2.2.1, q.2.2.2.2.1, rn_same (u := U) (U := U.calling g mk a) rfl q.2.2.2.2.2.1, rz_same q.2.2.2.2.2.2⟩, va_recv hK hPc (ci := 3) (q0 := 0) rfl rfl, fun U hU hW => ⟨rfl, by rw [hU], by rw [hU]; exact hPc, va_K.moved hW.alike hK, hDc.weaken (fun _ _ _ _ => trivial), rn_warm hW hN, rz_at hZ hS hU hW hFc⟩⟩ rfl rfl hl.1 rfl (lv_room (Nat.le_of_ble_eq_true rfl)) d_Se_countWays_4 ⟨Nat.zero_le _, Nat.zero_le _⟩) hS (fun q _ h => hFc q h) hFc (fun r9 u t H1 locs ht hvm hw hB hz1 hk1 hS => ?_)
  subst hw
  obtain ⟨hP1, hD1⟩ := hB
  rw [ht] at hP1
  obtain ⟨hP, hD⟩ := va_join (wr := []) (w1 := [(s0, .inr (3, [.ref aT, .ref qc, .int (-1), .int ((rs_way he (-1) c0 x st).1).2.1, .int ((rs_way he (-1) c0 x st).1).2.2])), (qc, .inl (dA, 4, .inl ((rs_way he (-1) c0 x st).1).1)), (aT, .inr (1, [.ref t1, .ref t2, .ref t3, .int he.2.2.2])), (t1, .inl (dA, 1024, .inl he.1)), (t2, .inl (dA, 32, .inl he.2.1)), (t3, .inl (dA, 32, .inl he.2.2.1))]) hP hD [0, 1, 2, 3, 4, 5] [] rfl rfl (by decide) (by decide) hk1 hFc hP1 hD1
  clear hk1 hFc hPc hDc hP1 hD1
  generalize H1 = H at hP hS ⊢
  have hP : va_P (dC, dI) classes [(s0, .inr (3, [.ref aT, .ref qc, .int (-1), .int ((rs_way he (-1) c0 x st).1).2.1, .int ((rs_way he (-1) c0 x st).1).2.2])), (qc, .inl (dA, 4, .inl ((rs_way he (-1) c0 x st).1).1)), (aT, .inr (1, [.ref t1, .ref t2, .ref t3, .int he.2.2.2])), (t1, .inl (dA, 1024, .inl he.1)), (t2, .inl (dA, 32, .inl he.2.1)), (t3, .inl (dA, 32, .inl he.2.2.1))] H := hP.sub [0, 1, 2, 3, 4, 5] rfl
  have hD : va_D A [(s0, .inr (3, [.ref aT, .ref qc, .int (-1), .int ((rs_way he (-1) c0 x st).1).2.1, .int ((rs_way he (-1) c0 x st).1).2.2])), (qc, .inl (dA, 4, .inl ((rs_way he (-1) c0 x st).1).1)), (aT, .inr (1, [.ref t1, .ref t2, .ref t3, .int he.2.2.2])), (t1, .inl (dA, 1024, .inl he.1)), (t2, .inl (dA, 32, .inl he.2.1)), (t3, .inl (dA, 32, .inl he.2.2.1))] := hD.sub [0, 1, 2, 3, 4, 5] (by decide) rfl
  refine lv_pop hx hb d_Se_countWays_7 rfl ?_
  refine lv_aload_n hx hb d_Se_countWays_8 rfl (lv_at hl 0 rfl) ?_
  refine va_get (D := (dC, dI)) (ci := 3) (v := .int ((rs_way he (-1) c0 x st).1).2.1) (C := R_Se) (T := F_Se) (N := 5) hx hb hts (rg_c i_Se) hown hK hP 0 rfl rfl 3 (by decide) (hts _ (List.mem_cons_of_mem _ m_90)) (fun _ h9 => h9) rfl d_Se_countWays_9 ?_
  exact W.iret (v := ((rs_way he (-1) c0 x st).1).2.1) hx hb hr (fun t ht hW => ⟨⟨((rs_way he (-1) c0 x st).1).2.1, (), rfl, rfl, by rw [ht]; exact hP, hD⟩, hS.F ht⟩) hS.2.2 d_Se_countWays_12

set_option maxHeartbeats 4000000 in
set_option maxRecDepth 100000 in
theorem c_Se_seekClash (l : Launch) (dC : Nat → ClassId) (dI : Nat → Nat → Nat) (dA : ClassId) (tP tG tC s0 qc aT t1 t2 t3 : Nat) (he : sT) (wt w0 : Int32) (st : sS) (sz : Nat) : Met l y_Se_seekClash (w_ y_Se_seekClash b_Se_seekClash 3 (some .boolean)) (rm_ 8) (va_Pc [.ref s0, .int wt] (fun U => U.heap.size = sz ∧ va_P (dC, dI) classes [(s0, .inr (3, [.ref aT, .ref qc, .int w0, .int st.2.1, .int st.2.2])), (qc, .inl (dA, 4, .inl st.1)), (aT, .inr (1, [.ref t1, .ref t2, .ref t3, .int he.2.2.2])), (t1, .inl (dA, 1024, .inl he.1)), (t2, .inl (dA, 32, .inl he.2.1)), (t3, .inl (dA, 32, .inl he.2.2.1))] U.heap ∧ va_K (dC, dI) classes [(dA, .int)] U ∧ va_D (fun _ => True) [(s0, .inr (3, [.ref aT, .ref qc, .int w0, .int st.2.1, .int st.2.2])), (qc, .inl (dA, 4, .inl st.1)), (aT, .inr (1, [.ref t1, .ref t2, .ref t3, .int he.2.2.2])), (t1, .inl (dA, 1024, .inl he.1)), (t2, .inl (dA, 32, .inl he.2.1)), (t3, .inl (dA, 32, .inl he.2.2.1))] ∧ rn_ U ∧ rz_ tP tG tC (va_A [(s0, .inr (3, [.ref aT, .ref qc, .int w0, .int st.2.1, .int st.2.2])), (qc, .inl (dA, 4, .inl st.1)), (aT, .inr (1, [.ref t1, .ref t2, .ref t3, .int he.2.2.2])), (t1, .inl (dA, 1024, .inl he.1)), (t2, .inl (dA, 32, .inl he.2.1)), (t3, .inl (dA, 32, .inl he.2.2.1))] sz) U)) (va_Qi (fun (z9 : Int32) (_ : Unit) => z9 = rb_z (rs_clash he wt st).2) (fun (_ : Unit) t => va_P (dC, dI) classes [(s0, .inr (3, [.ref aT, .ref qc, .int wt, .int ((rs_clash he wt st).1).2.1, .int ((rs_clash he wt st).1).2.2])), (qc, .inl (dA, 4, .inl ((rs_clash he wt st).1).1)), (aT, .inr (1, [.ref t1, .ref t2, .ref t3, .int he.2.2.2])), (t1, .inl (dA, 1024, .inl he.1)), (t2, .inl (dA, 32, .inl he.2.1)), (t3, .inl (dA, 32, .inl he.2.2.1))] t.heap ∧ va_D (va_A [(s0, .inr (3, [.ref aT, .ref qc, .int w0, .int st.2.1, .int st.2.2])), (qc, .inl (dA, 4, .inl st.1)), (aT, .inr (1, [.ref t1, .ref t2, .ref t3, .int he.2.2.2])), (t1, .inl (dA, 1024, .inl he.1)), (t2, .inl (dA, 32, .inl he.2.1)), (t3, .inl (dA, 32, .inl he.2.2.1))] sz) [(s0, .inr (3, [.ref aT, .ref qc, .int wt, .int ((rs_clash he wt st).1).2.1, .int ((rs_clash he wt st).1).2.2])), (qc, .inl (dA, 4, .inl ((rs_clash he wt st).1).1)), (aT, .inr (1, [.ref t1, .ref t2, .ref t3, .int he.2.2.2])), (t1, .inl (dA, 1024, .inl he.1)), (t2, .inl (dA, 32, .inl he.2.1)), (t3, .inl (dA, 32, .inl he.2.2.1))]) (va_A [(s0, .inr (3, [.ref aT, .ref qc, .int w0, .int st.2.1, .int st.2.2])), (qc, .inl (dA, 4, .inl st.1)), (aT, .inr (1, [.ref t1, .ref t2, .ref t3, .int he.2.2.2])), (t1, .inl (dA, 1024, .inl he.1)), (t2, .inl (dA, 32, .inl he.2.1)), (t3, .inl (dA, 32, .inl he.2.2.1))] sz)) 0 0 (va_A [(s0, .inr (3, [.ref aT, .ref qc, .int w0, .int st.2.1, .int st.2.2])), (qc, .inl (dA, 4, .inl st.1)), (aT, .inr (1, [.ref t1, .ref t2, .ref t3, .int he.2.2.2])), (t1, .inl (dA, 1024, .inl he.1)), (t2, .inl (dA, 32, .inl he.2.1)), (t3, .inl (dA, 32, .inl he.2.2.1))] sz) := by
  refine Met.ofW (cc := b_Se_seekClash) (maxL := 3) (ret := (some .boolean)) (by decide) rfl ?_
  intro p e s m args below meth c s₁ B hml hv
  obtain ⟨rfl, hsz, hP, hK, hD0, hN, hZ⟩ := hv
  have hx := B.exec
  have hb := B.bytes
  have hr := B.returns
  have hts := atoms_spec (ws := (w_ y_Se_seekClash b_Se_seekClash 3 (some .boolean))) B.pre
  have hown : s.vm.findClass R_Se = some m.cls := findClass_of_methodNamed B.named
  have hlocks := B.notSynchronized
  subst hsz
  have hD := hD0.self (sz := s.heap.size)
  generalize hAe : va_A [(s0, .inr (3, [.ref aT, .ref qc, .int w0, .int st.2.1, .int st.2.2])), (qc, .inl (dA, 4, .inl st.1)), (aT, .inr (1, [.ref t1, .ref t2, .ref t3, .int he.2.2.2])), (t1, .inl (dA, 1024, .inl he.1)), (t2, .inl (dA, 32, .inl he.2.1)), (t3, .inl (dA, 32, .inl he.2.2.1))] s.heap.size = A at hD hZ ⊢
  have hA : ∀ q : Nat, s.heap.size ≤ q → A q := fun q h => by rw [← hAe]; exact Or.inr h
  have hS : va_S A s.heap s.heap [] := va_S.rf
  have hl := lv_entry ([.ref s0, .int wt]) (n := 3) (Nat.le_of_ble_eq_true rfl)
  rw [lg_entry_eq]
  generalize (lg_sl ([.ref s0, .int wt]) ++ List.replicate (3 - (lg_sl ([.ref s0, .int wt])).length) Slot.unset).toArray = ls at hl ⊢
  have hl : lv_has ls 3 [(0, .ref s0), (1, .int wt)] := hl
  refine lv_aload_n hx hb d_Se_seekClash_0 rfl (lv_at hl 0 rfl) ?_
  refine lv_iload_n hx hb d_Se_seekClash_1 rfl (lv_at hl 1 rfl) ?_
  refine va_put (D := (dC, dI)) (ci := 3) (v := .int wt) (ty := .int) (C := R_Se) (T := F_Se) (N := 5) hx hb hts (rg_c i_Se) t_Se t_Se_ok n_Se hown hK hP hD hS 0 rfl rfl 2 (by decide) (hts _ (List.mem_cons_of_mem _ m_89)) (fun _ h9 => h9) rfl (by decide +kernel) (by rfl) (by rfl) (Nat.le_of_ble_eq_true rfl) d_Se_seekClash_2 (fun H locs hP hD hS => ?_)
  have hP : va_P (dC, dI) classes [(s0, .inr (3, [.ref aT, .ref qc, .int wt, .int st.2.1, .int st.2.2])), (qc, .inl (dA, 4, .inl st.1)), (aT, .inr (1, [.ref t1, .ref t2, .ref t3, .int he.2.2.2])), (t1, .inl (dA, 1024, .inl he.1)), (t2, .inl (dA, 32, .inl he.2.1)), (t3, .inl (dA, 32, .inl he.2.2.1))] H := hP
  have hD : va_D A [(s0, .inr (3, [.ref aT, .ref qc, .int wt, .int st.2.1, .int st.2.2])), (qc, .inl (dA, 4, .inl st.1)), (aT, .inr (1, [.ref t1, .ref t2, .ref t3, .int he.2.2.2])), (t1, .inl (dA, 1024, .inl he.1)), (t2, .inl (dA, 32, .inl he.2.1)), (t3, .inl (dA, 32, .inl he.2.2.1))] := hD
  refine lv_aload_n hx hb d_Se_seekClash_5 rfl (lv_at hl 0 rfl) ?_
  refine lv_iconst (v := nI 0) hx hb d_Se_seekClash_6 (by decide) ?_
  refine va_put (D := (dC, dI)) (ci := 3) (v := .int (nI 0)) (ty := .int) (C := R_Se) (T := F_Se) (N := 5) hx hb hts (rg_c i_Se) t_Se t_Se_ok n_Se hown hK hP hD hS 0 rfl rfl 3 (by decide) (hts _ (List.mem_cons_of_mem _ m_90)) (fun _ h9 => h9) rfl (by decide +kernel) (by rfl) (by rfl) (Nat.le_of_ble_eq_true rfl) d_Se_seekClash_7 (fun H locs hP hD hS => ?_)
  have hP : va_P (dC, dI) classes [(s0, .inr (3, [.ref aT, .ref qc, .int wt, .int (nI 0), .int st.2.2])), (qc, .inl (dA, 4, .inl st.1)), (aT, .inr (1, [.ref t1, .ref t2, .ref t3, .int he.2.2.2])), (t1, .inl (dA, 1024, .inl he.1)), (t2, .inl (dA, 32, .inl he.2.1)), (t3, .inl (dA, 32, .inl he.2.2.1))] H := hP
  have hD : va_D A [(s0, .inr (3, [.ref aT, .ref qc, .int wt, .int (nI 0), .int st.2.2])), (qc, .inl (dA, 4, .inl st.1)), (aT, .inr (1, [.ref t1, .ref t2, .ref t3, .int he.2.2.2])), (t1, .inl (dA, 1024, .inl he.1)), (t2, .inl (dA, 32, .inl he.2.1)), (t3, .inl (dA, 32, .inl he.2.2.1))] := hD
  refine lv_iconst (v := nI 0) hx hb d_Se_seekClash_10 (by decide) ?_
  refine lv_istore_n (lv' := [(2, .int (nI 0)), (0, .ref s0), (1, .int wt)]) hx hb d_Se_seekClash_11 rfl hl (by decide) rfl (fun ls hl => ?_)
  obtain ⟨RES, hRES⟩ : ∃ R, R = rs_clash he wt st := ⟨_, rfl⟩
  rw [← hRES]
  have hP : va_P (dC, dI) classes [(s0, .inr (3, [.ref aT, .ref qc, .int wt, .int (st.1, nI 0, st.2.2).2.1, .int (st.1, nI 0, st.2.2).2.2])), (qc, .inl (dA, 4, .inl (st.1, nI 0, st.2.2).1)), (aT, .inr (1, [.ref t1, .ref t2, .ref t3, .int he.2.2.2])), (t1, .inl (dA, 1024, .inl he.1)), (t2, .inl (dA, 32, .inl he.2.1)), (t3, .inl (dA, 32, .inl he.2.2.1))] H := hP
  have hD : va_D A [(s0, .inr (3, [.ref aT, .ref qc, .int wt, .int (st.1, nI 0, st.2.2).2.1, .int (st.1, nI 0, st.2.2).2.2])), (qc, .inl (dA, 4, .inl (st.1, nI 0, st.2.2).1)), (aT, .inr (1, [.ref t1, .ref t2, .ref t3, .int he.2.2.2])), (t1, .inl (dA, 1024, .inl he.1)), (t2, .inl (dA, 32, .inl he.2.1)), (t3, .inl (dA, 32, .inl he.2.2.1))] := hD
  refine rv_Q (fun Q hQ => ?_)
  have lp : ∀ (n : Nat) (kd : Nat) (st2 : sS) (H : Heap) (locs : List Loc) (ls : Array Slot), kd + n = 3 → rj_fold (rs_K he wt) st2 (List.range' kd n) = RES → va_P (dC, dI) classes [(s0, .inr (3, [.ref aT, .ref qc, .int wt, .int st2.2.1, .int st2.2.2])), (qc, .inl (dA, 4, .inl st2.1)), (aT, .inr (1, [.ref t1, .ref t2, .ref t3, .int he.2.2.2])), (t1, .inl (dA, 1024, .inl he.1)), (t2, .inl (dA, 32, .inl he.2.1)), (t3, .inl (dA, 32, .inl he.2.2.1))] H → va_D A [(s0, .inr (3, [.ref aT, .ref qc, .int wt, .int st2.2.1, .int st2.2.2])), (qc, .inl (dA, 4, .inl st2.1)), (aT, .inr (1, [.ref t1, .ref t2, .ref t3, .int he.2.2.2])), (t1, .inl (dA, 1024, .inl he.1)), (t2, .inl (dA, 32, .inl he.2.1)), (t3, .inl (dA, 32, .inl he.2.2.1))] → va_S A s.heap H locs → lv_has ls 3 [(2, .int (nI kd)), (0, .ref s0), (1, .int wt)] → W p l e (headSpec (w_ y_Se_seekClash b_Se_seekClash 3 (some .boolean)) (rm_ 8)).room s m ([.ref s0, .int wt] : List Value).toArray below meth c H locs 0 0 Q (F0 m 12 ls []) := by
    intro n
    induction n with
    | zero =>
      intro kd st2 H locs ls hn hR hP hD hS hl
      refine lv_iload_n hx hb d_Se_seekClash_12 rfl (lv_at hl 0 rfl) ?_
      refine lv_iconst (v := nI 3) hx hb d_Se_seekClash_13 (by decide) ?_
      refine rv_icmp_ge (tgt := 39) hx hb d_Se_seekClash_14 (by decide) (by omega) (by omega) (fun c_14 => ?_) (fun c_14 => absurd c_14 (by omega))
      refine lv_iconst (v := nI 0) hx hb d_Se_seekClash_39 (by decide) ?_
      subst hQ
      exact W.zret (v := nI 0) hx hb hr (by rfl) (fun t ht hW => ⟨⟨nI 0, (), rfl, by rw [← hR]; rfl, by rw [ht]; rw [← hR]; exact hP, by rw [← hR]; exact hD⟩, hS.F ht⟩) hS.2.2 d_Se_seekClash_40
    | succ n ih =>
      intro kd st2 H locs ls hn hR hP hD hS hl
      have hcl := rq_cnts_le (21 + kd) (by omega)
      rw [List.range'_succ] at hR
      refine lv_iload_n hx hb d_Se_seekClash_12 rfl (lv_at hl 0 rfl) ?_
      refine lv_iconst (v := nI 3) hx hb d_Se_seekClash_13 (by decide) ?_
      refine rv_icmp_ge (tgt := 39) hx hb d_Se_seekClash_14 (by decide) (by omega) (by omega) (fun c_14 => absurd c_14 (by omega)) (fun c_14 => ?_)
      refine lv_aload_n hx hb d_Se_seekClash_17 rfl (lv_at hl 1 rfl) ?_
      refine lv_bipush (v := nI 21) hx hb d_Se_seekClash_18 (by decide) ?_
      refine lv_iload_n hx hb d_Se_seekClash_20 rfl (lv_at hl 0 rfl) ?_
      refine rv_iadd hx hb d_Se_seekClash_21 ?_
      refine lv_iconst (v := nI 0) hx hb d_Se_seekClash_22 (by decide) ?_
      refine lv_iconst (v := (-1)) hx hb d_Se_seekClash_23 (by decide) ?_
      refine lv_lconst (v := lN 0) hx hb d_Se_seekClash_24 (by decide) ?_
      refine rv_eql (y := lN (rt_pk rt_free)) (congrArg lN rt_free_pk.symm) ?_
      have hPc := hP.sub (ws' := [(s0, .inr (3, [.ref aT, .ref qc, .int wt, .int st2.2.1, .int st2.2.2])), (qc, .inl (dA, 4, .inl st2.1)), (aT, .inr (1, [.ref t1, .ref t2, .ref t3, .int he.2.2.2])), (t1, .inl (dA, 1024, .inl he.1)), (t2, .inl (dA, 32, .inl he.2.1)), (t3, .inl (dA, 32, .inl he.2.2.1))]) [0, 1, 2, 3, 4, 5] rfl
      have hDc := hD.sub (ws' := [(s0, .inr (3, [.ref aT, .ref qc, .int wt, .int st2.2.1, .int st2.2.2])), (qc, .inl (dA, 4, .inl st2.1)), (aT, .inr (1, [.ref t1, .ref t2, .ref t3, .int he.2.2.2])), (t1, .inl (dA, 1024, .inl he.1)), (t2, .inl (dA, 32, .inl he.2.1)), (t3, .inl (dA, 32, .inl he.2.2.1))]) [0, 1, 2, 3, 4, 5] (by decide) rfl
      have hFc := va_free (wc := [(s0, .inr (3, [.ref aT, .ref qc, .int wt, .int st2.2.1, .int st2.2.2])), (qc, .inl (dA, 4, .inl st2.1)), (aT, .inr (1, [.ref t1, .ref t2, .ref t3, .int he.2.2.2])), (t1, .inl (dA, 1024, .inl he.1)), (t2, .inl (dA, 32, .inl he.2.1)), (t3, .inl (dA, 32, .inl he.2.2.1))]) hD hS hA [0, 1, 2, 3, 4, 5] rfl
      refine va_calli (va_runSN (As := [.ref s0, .int (nI (21 + kd)), .int (nI 0), .int (-1), .long (lN (rt_pk rt_free))]) (rest := []) ⟨hx, hb, hml, hown, hts⟩ (c_Ma_joinS l (rq_cnts.getD (21 + kd) 0) dC dI dA tP tG tC s0 qc aT t1 t2 t3 he (21 + kd) 0 wt none rt_free st2 H.size (by omega) (fun u hu => by cases hu) rt_free_ok (by omega)) ⟨va_cnB 5 hts (rg_G k_Ma_join) rfl rfl rfl (hN _ rn_14) (hts _ (List.mem_cons_of_mem _ m_3)) (by decide +kernel) ⟨by show 3 + rq_cnts.getD (21 + kd) 0 + 1 ≤ 8; omega, by show 8 + (21 + 11) + 64 * (3 + rq_cnts.getD (21 + kd) 0) ≤ 64 * (8); omega⟩, hts _ (List.mem_cons_of_mem _ m_221), trivial⟩ ⟨fun a U g mk q => ⟨q.1, q.2.1, q.2.2.1, va_K.moved (u := U) (U := U.calling g mk a) (Vm.Alike.refl U.vm) q.2.2.2.1, q.2.2.2.2.1, rn_same (u := U) (U := U.calling g mk a) rfl q.2.2.2.2.2.1, rz_same q.2.2.2.2.2.2⟩, fun U hU hW => ⟨rfl, by rw [hU], by rw [hU]; exact hPc, va_K.moved hW.alike hK, hDc.weaken (fun _ _ _ _ => trivial), rn_warm hW hN, rz_at hZ hS hU hW hFc⟩⟩ rfl rfl hl.1 rfl (lv_room (Nat.le_of_ble_eq_true rfl)) d_Se_seekClash_25 ⟨Nat.zero_le _, Nat.zero_le _⟩) hS (fun q _ h => hFc q h) hFc (fun r9 u t H1 locs ht hvm hw hB hz1 hk1 hS => ?_)
      subst hw
      obtain ⟨hP1, hD1⟩ := hB
      rw [ht] at hP1
      obtain ⟨hP, hD⟩ := va_join (wr := []) (w1 := [(s0, .inr (3, [.ref aT, .ref qc, .int wt, .int ((rj_join (rx_trav he.1 he.2.1 he.2.2.1 he.2.2.2) (rs_meet wt (21 + kd)) rs_ch (21 + kd) none (rq_cnts.getD (21 + kd) 0) 0 rt_free st2).1).2.1, .int ((rj_join (rx_trav he.1 he.2.1 he.2.2.1 he.2.2.2) (rs_meet wt (21 + kd)) rs_ch (21 + kd) none (rq_cnts.getD (21 + kd) 0) 0 rt_free st2).1).2.2])), (qc, .inl (dA, 4, .inl ((rj_join (rx_trav he.1 he.2.1 he.2.2.1 he.2.2.2) (rs_meet wt (21 + kd)) rs_ch (21 + kd) none (rq_cnts.getD (21 + kd) 0) 0 rt_free st2).1).1)), (aT, .inr (1, [.ref t1, .ref t2, .ref t3, .int he.2.2.2])), (t1, .inl (dA, 1024, .inl he.1)), (t2, .inl (dA, 32, .inl he.2.1)), (t3, .inl (dA, 32, .inl he.2.2.1))]) hP hD [0, 1, 2, 3, 4, 5] [] rfl rfl (by decide) (by decide) hk1 hFc hP1 hD1
      clear hk1 hFc hPc hDc hP1 hD1
      generalize H1 = H at hP hS ⊢
      have hP : va_P (dC, dI) classes [(s0, .inr (3, [.ref aT, .ref qc, .int wt, .int ((rj_join (rx_trav he.1 he.2.1 he.2.2.1 he.2.2.2) (rs_meet wt (21 + kd)) rs_ch (21 + kd) none (rq_cnts.getD (21 + kd) 0) 0 rt_free st2).1).2.1, .int ((rj_join (rx_trav he.1 he.2.1 he.2.2.1 he.2.2.2) (rs_meet wt (21 + kd)) rs_ch (21 + kd) none (rq_cnts.getD (21 + kd) 0) 0 rt_free st2).1).2.2])), (qc, .inl (dA, 4, .inl ((rj_join (rx_trav he.1 he.2.1 he.2.2.1 he.2.2.2) (rs_meet wt (21 + kd)) rs_ch (21 + kd) none (rq_cnts.getD (21 + kd) 0) 0 rt_free st2).1).1)), (aT, .inr (1, [.ref t1, .ref t2, .ref t3, .int he.2.2.2])), (t1, .inl (dA, 1024, .inl he.1)), (t2, .inl (dA, 32, .inl he.2.1)), (t3, .inl (dA, 32, .inl he.2.2.1))] H := hP.sub [0, 1, 2, 3, 4, 5] rfl
      have hD : va_D A [(s0, .inr (3, [.ref aT, .ref qc, .int wt, .int ((rj_join (rx_trav he.1 he.2.1 he.2.2.1 he.2.2.2) (rs_meet wt (21 + kd)) rs_ch (21 + kd) none (rq_cnts.getD (21 + kd) 0) 0 rt_free st2).1).2.1, .int ((rj_join (rx_trav he.1 he.2.1 he.2.2.1 he.2.2.2) (rs_meet wt (21 + kd)) rs_ch (21 + kd) none (rq_cnts.getD (21 + kd) 0) 0 rt_free st2).1).2.2])), (qc, .inl (dA, 4, .inl ((rj_join (rx_trav he.1 he.2.1 he.2.2.1 he.2.2.2) (rs_meet wt (21 + kd)) rs_ch (21 + kd) none (rq_cnts.getD (21 + kd) 0) 0 rt_free st2).1).1)), (aT, .inr (1, [.ref t1, .ref t2, .ref t3, .int he.2.2.2])), (t1, .inl (dA, 1024, .inl he.1)), (t2, .inl (dA, 32, .inl he.2.1)), (t3, .inl (dA, 32, .inl he.2.2.1))] := hD.sub [0, 1, 2, 3, 4, 5] (by decide) rfl
      have hFq : (rs_K he wt) st2 kd = rj_join (rx_trav he.1 he.2.1 he.2.2.1 he.2.2.2) (rs_meet wt (21 + kd)) rs_ch (21 + kd) none (rq_cnts.getD (21 + kd) 0) 0 rt_free st2 := rfl
      generalize hJ : rj_join (rx_trav he.1 he.2.1 he.2.2.1 he.2.2.2) (rs_meet wt (21 + kd)) rs_ch (21 + kd) none (rq_cnts.getD (21 + kd) 0) 0 rt_free st2 = J at hP hD hFq ⊢
      rcases hj2 : J.2 with _ | _
      · refine rv_eq (y := nI 0) (rfl) ?_
        have hR2 := rj_fold_go hR (by rw [hFq]; exact hj2)
        rw [hFq] at hR2
        refine rv_if_eq (tgt := 33) hx hb d_Se_seekClash_28 (by decide) (by omega) (fun c_28 => ?_) (fun c_28 => absurd c_28 (by omega))
        refine rv_inc (k := 0) (lv' := [(2, .int (nI (kd + 1))), (0, .ref s0), (1, .int wt)]) hx hb d_Se_seekClash_33 hl rfl (by decide) rfl (fun ls hl => ?_)
        refine lv_goto (tgt := 12) hx hb d_Se_seekClash_36 (by decide) ?_
        exact ih (kd + 1) J.1 _ _ _ (by omega) (hR2) hP hD hS (lv_sub hl [0, 1, 2] rfl)
      · refine rv_eq (y := nI 1) (rfl) ?_
        have hR2 := rj_fold_stop hR (by rw [hFq]; exact hj2)
        rw [hFq] at hR2
        refine rv_if_eq (tgt := 33) hx hb d_Se_seekClash_28 (by decide) (by omega) (fun c_28 => absurd c_28 (by omega)) (fun c_28 => ?_)
        refine lv_iconst (v := nI 1) hx hb d_Se_seekClash_31 (by decide) ?_
        subst hQ
        exact W.zret (v := nI 1) hx hb hr (by rfl) (fun t ht hW => ⟨⟨nI 1, (), rfl, by rw [← hR2, hj2]; rfl, by rw [ht]; rw [← hR2]; exact hP, by rw [← hR2]; exact hD⟩, hS.F ht⟩) hS.2.2 d_Se_seekClash_32
  exact lp 3 0 (st.1, nI 0, st.2.2) _ _ _ (by omega) (hRES.symm) hP hD hS (lv_sub hl [0, 1, 2] rfl)

set_option maxHeartbeats 4000000 in
set_option maxRecDepth 100000 in
theorem c_Se_countClashes (l : Launch) (dC : Nat → ClassId) (dI : Nat → Nat → Nat) (dA : ClassId) (tP tG tC s0 qc aT t1 t2 t3 : Nat) (he : sT) (w0 : Int32) (st : sS) (sz : Nat) : Met l y_Se_countClashes (w_ y_Se_countClashes b_Se_countClashes 1 (some .int)) (rm_ 9) (va_Pc [.ref s0] (fun U => U.heap.size = sz ∧ va_P (dC, dI) classes [(s0, .inr (3, [.ref aT, .ref qc, .int w0, .int st.2.1, .int st.2.2])), (qc, .inl (dA, 4, .inl st.1)), (aT, .inr (1, [.ref t1, .ref t2, .ref t3, .int he.2.2.2])), (t1, .inl (dA, 1024, .inl he.1)), (t2, .inl (dA, 32, .inl he.2.1)), (t3, .inl (dA, 32, .inl he.2.2.1))] U.heap ∧ va_K (dC, dI) classes [(dA, .int)] U ∧ va_D (fun _ => True) [(s0, .inr (3, [.ref aT, .ref qc, .int w0, .int st.2.1, .int st.2.2])), (qc, .inl (dA, 4, .inl st.1)), (aT, .inr (1, [.ref t1, .ref t2, .ref t3, .int he.2.2.2])), (t1, .inl (dA, 1024, .inl he.1)), (t2, .inl (dA, 32, .inl he.2.1)), (t3, .inl (dA, 32, .inl he.2.2.1))] ∧ rn_ U ∧ rz_ tP tG tC (va_A [(s0, .inr (3, [.ref aT, .ref qc, .int w0, .int st.2.1, .int st.2.2])), (qc, .inl (dA, 4, .inl st.1)), (aT, .inr (1, [.ref t1, .ref t2, .ref t3, .int he.2.2.2])), (t1, .inl (dA, 1024, .inl he.1)), (t2, .inl (dA, 32, .inl he.2.1)), (t3, .inl (dA, 32, .inl he.2.2.1))] sz) U)) (va_Qi (fun (z9 : Int32) (_ : Unit) => z9 = (rs_clash he (-1) st).1.2.1) (fun (_ : Unit) t => va_P (dC, dI) classes [(s0, .inr (3, [.ref aT, .ref qc, .int (-1), .int ((rs_clash he (-1) st).1).2.1, .int ((rs_clash he (-1) st).1).2.2])), (qc, .inl (dA, 4, .inl ((rs_clash he (-1) st).1).1)), (aT, .inr (1, [.ref t1, .ref t2, .ref t3, .int he.2.2.2])), (t1, .inl (dA, 1024, .inl he.1)), (t2, .inl (dA, 32, .inl he.2.1)), (t3, .inl (dA, 32, .inl he.2.2.1))] t.heap ∧ va_D (va_A [(s0, .inr (3, [.ref aT, .ref qc, .int w0, .int st.2.1, .int st.2.2])), (qc, .inl (dA, 4, .inl st.1)), (aT, .inr (1, [.ref t1, .ref t2, .ref t3, .int he.2.2.2])), (t1, .inl (dA, 1024, .inl he.1)), (t2, .inl (dA, 32, .inl he.2.1)), (t3, .inl (dA, 32, .inl he.2.2.1))] sz) [(s0, .inr (3, [.ref aT, .ref qc, .int (-1), .int ((rs_clash he (-1) st).1).2.1, .int ((rs_clash he (-1) st).1).2.2])), (qc, .inl (dA, 4, .inl ((rs_clash he (-1) st).1).1)), (aT, .inr (1, [.ref t1, .ref t2, .ref t3, .int he.2.2.2])), (t1, .inl (dA, 1024, .inl he.1)), (t2, .inl (dA, 32, .inl he.2.1)), (t3, .inl (dA, 32, .inl he.2.2.1))]) (va_A [(s0, .inr (3, [.ref aT, .ref qc, .int w0, .int st.2.1, .int st.2.2])), (qc, .inl (dA, 4, .inl st.1)), (aT, .inr (1, [.ref t1, .ref t2, .ref t3, .int he.2.2.2])), (t1, .inl (dA, 1024, .inl he.1)), (t2, .inl (dA, 32, .inl he.2.1)), (t3, .inl (dA, 32, .inl he.2.2.1))] sz)) 0 0 (va_A [(s0, .inr (3, [.ref aT, .ref qc, .int w0, .int st.2.1, .int st.2.2])), (qc, .inl (dA, 4, .inl st.1)), (aT, .inr (1, [.ref t1, .ref t2, .ref t3, .int he.2.2.2])), (t1, .inl (dA, 1024, .inl he.1)), (t2, .inl (dA, 32, .inl he.2.1)), (t3, .inl (dA, 32, .inl he.2.2.1))] sz) := by
  refine Met.ofW (cc := b_Se_countClashes) (maxL := 1) (ret := (some .int)) (by decide) rfl ?_
  intro p e s m args below meth c s₁ B hml hv
  obtain ⟨rfl, hsz, hP, hK, hD0, hN, hZ⟩ := hv
  have hx := B.exec
  have hb := B.bytes
  have hr := B.returns
  have hts := atoms_spec (ws := (w_ y_Se_countClashes b_Se_countClashes 1 (some .int))) B.pre
  have hown : s.vm.findClass R_Se = some m.cls := findClass_of_methodNamed B.named
  have hlocks := B.notSynchronized
  subst hsz
  have hD := hD0.self (sz := s.heap.size)
  generalize hAe : va_A [(s0, .inr (3, [.ref aT, .ref qc, .int w0, .int st.2.1, .int st.2.2])), (qc, .inl (dA, 4, .inl st.1)), (aT, .inr (1, [.ref t1, .ref t2, .ref t3, .int he.2.2.2])), (t1, .inl (dA, 1024, .inl he.1)), (t2, .inl (dA, 32, .inl he.2.1)), (t3, .inl (dA, 32, .inl he.2.2.1))] s.heap.size = A at hD hZ ⊢
  have hA : ∀ q : Nat, s.heap.size ≤ q → A q := fun q h => by rw [← hAe]; exact Or.inr h
  have hS : va_S A s.heap s.heap [] := va_S.rf
  have hl := lv_entry ([.ref s0]) (n := 1) (Nat.le_of_ble_eq_true rfl)
  rw [lg_entry_eq]
  generalize (lg_sl ([.ref s0]) ++ List.replicate (1 - (lg_sl ([.ref s0])).length) Slot.unset).toArray = ls at hl ⊢
  have hl : lv_has ls 1 [(0, .ref s0)] := hl
  refine lv_aload_n hx hb d_Se_countClashes_0 rfl (lv_at hl 0 rfl) ?_
  refine lv_iconst (v := (-1)) hx hb d_Se_countClashes_1 (by decide) ?_
  have hPc := hP.sub (ws' := [(s0, .inr (3, [.ref aT, .ref qc, .int w0, .int st.2.1, .int st.2.2])), (qc, .inl (dA, 4, .inl st.1)), (aT, .inr (1, [.ref t1, .ref t2, .ref t3, .int he.2.2.2])), (t1, .inl (dA, 1024, .inl he.1)), (t2, .inl (dA, 32, .inl he.2.1)), (t3, .inl (dA, 32, .inl he.2.2.1))]) [0, 1, 2, 3, 4, 5] rfl
  have hDc := hD.sub (ws' := [(s0, .inr (3, [.ref aT, .ref qc, .int w0, .int st.2.1, .int st.2.2])), (qc, .inl (dA, 4, .inl st.1)), (aT, .inr (1, [.ref t1, .ref t2, .ref t3, .int he.2.2.2])), (t1, .inl (dA, 1024, .inl he.1)), (t2, .inl (dA, 32, .inl he.2.1)), (t3, .inl (dA, 32, .inl he.2.2.1))]) [0, 1, 2, 3, 4, 5] (by decide) rfl
  have hFc := va_free (wc := [(s0, .inr (3, [.ref aT, .ref qc, .int w0, .int st.2.1, .int st.2.2])), (qc, .inl (dA, 4, .inl st.1)), (aT, .inr (1, [.ref t1, .ref t2, .ref t3, .int he.2.2.2])), (t1, .inl (dA, 1024, .inl he.1)), (t2, .inl (dA, 32, .inl he.2.1)), (t3, .inl (dA, 32, .inl he.2.2.1))]) hD hS hA [0, 1, 2, 3, 4, 5] rfl
  refine va_calli (va_runV (As := [.int (-1)]) (rest := []) ⟨hx, hb, hml, hown, hts⟩ (c_Se_seekClash l dC dI dA tP tG tC s0 qc aT t1 t2 t3 he (-1) w0 st s.heap.size) (cwV 1 hts (rg_V (rg4 m_338 m_339 m_340 m_5) k_Se_seekClash) rfl rfl rfl (by decide +kernel) ⟨Nat.le_of_ble_eq_true rfl, Nat.le_of_ble_eq_true rfl⟩) ⟨fun a U g mk q => ⟨q.1, q.2.1, q.2.2.1, va_K.moved (u := U) (U := U.calling g mk a) (Vm.Alike.refl U.vm) q.2.2.2.1, q.2.2.2.2.1, rn_same (u := U) (U := U.calling g mk a) rfl q.2.2.2.2.2.1, rz_same q.2.2.2.2.2.2⟩, va_recv hK hPc (ci := 3) (q0 := 0) rfl rfl, fun U hU hW => ⟨rfl, by rw [hU], by rw [hU]; exact hPc, va_K.moved hW.alike hK, hDc.weaken (fun _ _ _ _ => trivial), rn_warm hW hN, rz_at hZ hS hU hW hFc⟩⟩ rfl rfl hl.1 rfl (lv_room (Nat.le_of_ble_eq_true rfl)) d_Se_countClashes_2 ⟨Nat.zero_le _, Nat.zero_le _⟩) hS (fun q _ h => hFc q h) hFc (fun r9 u t H1 locs ht hvm hw hB hz1 hk1 hS => ?_)
  subst hw
  obtain ⟨hP1, hD1⟩ := hB
  rw [ht] at hP1
  obtain ⟨hP, hD⟩ := va_join (wr := []) (w1 := [(s0, .inr (3, [.ref aT, .ref qc, .int (-1), .int ((rs_clash he (-1) st).1).2.1, .int ((rs_clash he (-1) st).1).2.2])), (qc, .inl (dA, 4, .inl ((rs_clash he (-1) st).1).1)), (aT, .inr (1, [.ref t1, .ref t2, .ref t3, .int he.2.2.2])), (t1, .inl (dA, 1024, .inl he.1)), (t2, .inl (dA, 32, .inl he.2.1)), (t3, .inl (dA, 32, .inl he.2.2.1))]) hP hD [0, 1, 2, 3, 4, 5] [] rfl rfl (by decide) (by decide) hk1 hFc hP1 hD1
  clear hk1 hFc hPc hDc hP1 hD1
  generalize H1 = H at hP hS ⊢
  have hP : va_P (dC, dI) classes [(s0, .inr (3, [.ref aT, .ref qc, .int (-1), .int ((rs_clash he (-1) st).1).2.1, .int ((rs_clash he (-1) st).1).2.2])), (qc, .inl (dA, 4, .inl ((rs_clash he (-1) st).1).1)), (aT, .inr (1, [.ref t1, .ref t2, .ref t3, .int he.2.2.2])), (t1, .inl (dA, 1024, .inl he.1)), (t2, .inl (dA, 32, .inl he.2.1)), (t3, .inl (dA, 32, .inl he.2.2.1))] H := hP.sub [0, 1, 2, 3, 4, 5] rfl
  have hD : va_D A [(s0, .inr (3, [.ref aT, .ref qc, .int (-1), .int ((rs_clash he (-1) st).1).2.1, .int ((rs_clash he (-1) st).1).2.2])), (qc, .inl (dA, 4, .inl ((rs_clash he (-1) st).1).1)), (aT, .inr (1, [.ref t1, .ref t2, .ref t3, .int he.2.2.2])), (t1, .inl (dA, 1024, .inl he.1)), (t2, .inl (dA, 32, .inl he.2.1)), (t3, .inl (dA, 32, .inl he.2.2.1))] := hD.sub [0, 1, 2, 3, 4, 5] (by decide) rfl
  refine lv_pop hx hb d_Se_countClashes_5 rfl ?_
  refine lv_aload_n hx hb d_Se_countClashes_6 rfl (lv_at hl 0 rfl) ?_
  refine va_get (D := (dC, dI)) (ci := 3) (v := .int ((rs_clash he (-1) st).1).2.1) (C := R_Se) (T := F_Se) (N := 5) hx hb hts (rg_c i_Se) hown hK hP 0 rfl rfl 3 (by decide) (hts _ (List.mem_cons_of_mem _ m_90)) (fun _ h9 => h9) rfl d_Se_countClashes_7 ?_
  exact W.iret (v := ((rs_clash he (-1) st).1).2.1) hx hb hr (fun t ht hW => ⟨⟨((rs_clash he (-1) st).1).2.1, (), rfl, rfl, by rw [ht]; exact hP, hD⟩, hS.F ht⟩) hS.2.2 d_Se_countClashes_10

set_option maxHeartbeats 4000000 in
set_option maxRecDepth 100000 in
theorem c_Se_foundPremise (l : Launch) (dC : Nat → ClassId) (dI : Nat → Nat → Nat) (dA : ClassId) (tP tG tC s0 qc aT t1 t2 t3 : Nat) (he : sT) (fr k : Nat) (w0 : Int32) (st : sS) (hfr : fr < 24) (hk1 : 1 ≤ k) (hk4 : k ≤ 4) : Met l y_Se_foundPremise (w_ y_Se_foundPremise b_Se_foundPremise 2 (some .int)) (rm_ 1) (va_Pc [.ref s0, .int (nI k)] (fun U => va_K (dC, dI) classes [(dA, .int)] U ∧ va_P (dC, dI) classes [(s0, .inr (3, [.ref aT, .ref qc, .int w0, .int st.2.1, .int (nI fr)])), (qc, .inl (dA, 4, .inl st.1))] U.heap ∧ rz_ tP tG tC (fun _ => False) U)) (va_Qi (fun (z9 : Int32) (_ : Unit) => z9 = (if rq_cnts.getD fr 0 < k then -2 else st.1 (k - 1))) (fun _ _ => True) (fun _ => False)) 0 0 (fun _ => False) := by
  refine Met.ofW (cc := b_Se_foundPremise) (maxL := 2) (ret := (some .int)) (by decide) rfl ?_
  have hcl := rq_cnts_le fr hfr
  intro p e s m args below meth c s₁ B hml hv
  obtain ⟨rfl, hK, hP, hZ⟩ := hv
  have hx := B.exec
  have hb := B.bytes
  have hr := B.returns
  have hts := atoms_spec (ws := (w_ y_Se_foundPremise b_Se_foundPremise 2 (some .int))) B.pre
  have hown : s.vm.findClass R_Se = some m.cls := findClass_of_methodNamed B.named
  have hlocks := B.notSynchronized
  have hS : va_S (fun _ => False) s.heap s.heap [] := va_S.rf
  have hl := lv_entry ([.ref s0, .int (nI k)]) (n := 2) (Nat.le_of_ble_eq_true rfl)
  rw [lg_entry_eq]
  generalize (lg_sl ([.ref s0, .int (nI k)]) ++ List.replicate (2 - (lg_sl ([.ref s0, .int (nI k)])).length) Slot.unset).toArray = ls at hl ⊢
  have hl : lv_has ls 2 [(0, .ref s0), (1, .int (nI k))] := hl
  refine lv_iload_n hx hb d_Se_foundPremise_0 rfl (lv_at hl 1 rfl) ?_
  refine lv_iconst (v := nI 1) hx hb d_Se_foundPremise_1 (by decide) ?_
  refine rv_icmp_lt (tgt := 21) hx hb d_Se_foundPremise_2 (by decide) (by omega) (by omega) (fun c_2 => absurd c_2 (by omega)) (fun c_2 => ?_)
  refine lv_iload_n hx hb d_Se_foundPremise_5 rfl (lv_at hl 1 rfl) ?_
  refine lv_aload_n hx hb d_Se_foundPremise_6 rfl (lv_at hl 0 rfl) ?_
  refine va_get (D := (dC, dI)) (ci := 3) (v := .int (nI fr)) (C := R_Se) (T := F_Se) (N := 5) hx hb hts (rg_c i_Se) hown hK hP 0 rfl rfl 4 (by decide) (hts _ (List.mem_cons_of_mem _ m_91)) (fun _ h9 => h9) rfl d_Se_foundPremise_7 ?_
  refine rv_calli (r := nI (rq_cnts.getD fr 0)) (va_runS (As := [.int (nI fr)]) (rest := [.int (nI k)]) ⟨hx, hb, hml, hown, hts⟩ (c_Tb_premiseCount l tP tG tC fr (hfr)) (va_cwS 1 hts (rg_S (rg3 m_329 m_204 m_8) k_Tb_premiseCount) rfl rfl rfl (by decide +kernel) ⟨Nat.le_of_ble_eq_true rfl, Nat.le_of_ble_eq_true rfl⟩) ⟨fun a U g mk q => ⟨q.1, rz_same q.2⟩, fun U hU hW => ⟨rfl, rz_at hZ hS hU hW (fun _ h => h.elim)⟩⟩ rfl rfl hl.1 rfl (lv_room (Nat.le_of_ble_eq_true rfl)) d_Se_foundPremise_10 ⟨Nat.zero_le _, Nat.zero_le _⟩) hS (fun _ h => h.elim) (fun H locs hk hS => ?_)
  have hP := rv_kept hP hk
  refine rv_icmp_gt (tgt := 21) hx hb d_Se_foundPremise_13 (by decide) (by omega) (by omega) (fun c_13 => ?_) (fun c_13 => ?_)
  · refine lv_bipush (v := (-2)) hx hb d_Se_foundPremise_21 (by decide) ?_
    exact W.iret (v := (-2)) hx hb hr (fun t ht hW => ⟨⟨(-2), (), rfl, by rw [if_pos (by omega)], trivial⟩, hS.F ht⟩) hS.2.2 d_Se_foundPremise_23
  · refine lv_iload_n hx hb d_Se_foundPremise_16 rfl (lv_at hl 1 rfl) ?_
    refine lv_iconst (v := nI 4) hx hb d_Se_foundPremise_17 (by decide) ?_
    refine rv_icmp_le (tgt := 24) hx hb d_Se_foundPremise_18 (by decide) (by omega) (by omega) (fun c_18 => ?_) (fun c_18 => absurd c_18 (by omega))
    refine lv_aload_n hx hb d_Se_foundPremise_24 rfl (lv_at hl 0 rfl) ?_
    refine va_get (D := (dC, dI)) (ci := 3) (v := .ref qc) (C := R_Se) (T := F_Se) (N := 5) hx hb hts (rg_c i_Se) hown hK hP 0 rfl rfl 1 (by decide) (hts _ (List.mem_cons_of_mem _ m_64)) (fun x9 h9 => u_same (hts _ (List.mem_cons_of_mem _ m_65)) x9 h9) rfl d_Se_foundPremise_25 ?_
    refine lv_iload_n hx hb d_Se_foundPremise_28 rfl (lv_at hl 1 rfl) ?_
    refine lv_iconst (v := nI 1) hx hb d_Se_foundPremise_29 (by decide) ?_
    refine rv_isub hx hb d_Se_foundPremise_30 (by omega) ?_
    refine rv_ald (k := (k - 1)) hx hb hK hP 1 0 rfl rfl (by omega) (by decide) d_Se_foundPremise_31 ?_
    exact W.iret (v := st.1 (k - 1)) hx hb hr (fun t ht hW => ⟨⟨st.1 (k - 1), (), rfl, by rw [if_neg (by omega)], trivial⟩, hS.F ht⟩) hS.2.2 d_Se_foundPremise_32
