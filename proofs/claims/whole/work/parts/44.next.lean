set_option maxHeartbeats 4000000 in
set_option maxRecDepth 100000 in
theorem c_Mo_next (l : Launch) (dC : Nat → ClassId) (dI : Nat → Nat → Nat) (dA dZ : ClassId) (m0 aS aO aR aC aH aA aL aB scn gr mn r : Nat) (kn lg : Bool) (fu : Nat) (hq9 a : Nat → Nat) (ds : List Nat) (bd : Nat → Nat) (lv : Nat) (res : sQ × Bool) (sz : Nat) (hr0 : r < 24) (hmn : mn ≤ 400) (hhl : ∀ j, j < mn → hq9 j < 32768) (hok : mq_ok mn r (a, ds, bd, lv)) (hm : mn_ hq9 mn r fu (a, ds, bd, lv) = some res) : Met l y_Mo_next (w_ y_Mo_next b_Mo_next 2 (some .boolean)) (rm_ 3) (va_Pc [.ref m0] (fun U => U.heap.size = sz ∧ va_P (dC, dI) classes [(m0, .inr (4, [.ref aS, .int (nI scn), .ref aO, .int (rb_z kn), .int (rb_z lg), .int (nI gr), .ref aR, .ref aC, .ref aH, .int (nI mn), .ref aA, .ref aL, .ref aB, .int (nI lv - 1), .int (nI r)])), (aH, .inl (dA, 401, .inl (rnf hq9))), (aA, .inl (dA, 4, .inl (raf a))), (aL, .inl (dA, 48, .inl (rlf ds))), (aB, .inl (dA, 12, .inl (rnf bd)))] U.heap ∧ va_K (dC, dI) classes [(dA, .int), (dZ, .boolean)] U ∧ va_D (fun _ => True) [(m0, .inr (4, [.ref aS, .int (nI scn), .ref aO, .int (rb_z kn), .int (rb_z lg), .int (nI gr), .ref aR, .ref aC, .ref aH, .int (nI mn), .ref aA, .ref aL, .ref aB, .int (nI lv - 1), .int (nI r)])), (aH, .inl (dA, 401, .inl (rnf hq9))), (aA, .inl (dA, 4, .inl (raf a))), (aL, .inl (dA, 48, .inl (rlf ds))), (aB, .inl (dA, 12, .inl (rnf bd)))])) (va_Qi (fun (z9 : Int32) (_ : Unit) => z9 = rb_z res.2) (fun (_ : Unit) t => va_P (dC, dI) classes [(m0, .inr (4, [.ref aS, .int (nI scn), .ref aO, .int (rb_z kn), .int (rb_z lg), .int (nI gr), .ref aR, .ref aC, .ref aH, .int (nI mn), .ref aA, .ref aL, .ref aB, .int (nI res.1.2.2.2 - 1), .int (nI r)])), (aH, .inl (dA, 401, .inl (rnf hq9))), (aA, .inl (dA, 4, .inl (raf res.1.1))), (aL, .inl (dA, 48, .inl (rlf res.1.2.1))), (aB, .inl (dA, 12, .inl (rnf res.1.2.2.1)))] t.heap ∧ va_D (va_A [(m0, .inr (4, [.ref aS, .int (nI scn), .ref aO, .int (rb_z kn), .int (rb_z lg), .int (nI gr), .ref aR, .ref aC, .ref aH, .int (nI mn), .ref aA, .ref aL, .ref aB, .int (nI lv - 1), .int (nI r)])), (aH, .inl (dA, 401, .inl (rnf hq9))), (aA, .inl (dA, 4, .inl (raf a))), (aL, .inl (dA, 48, .inl (rlf ds))), (aB, .inl (dA, 12, .inl (rnf bd)))] sz) [(m0, .inr (4, [.ref aS, .int (nI scn), .ref aO, .int (rb_z kn), .int (rb_z lg), .int (nI gr), .ref aR, .ref aC, .ref aH, .int (nI mn), .ref aA, .ref aL, .ref aB, .int (nI res.1.2.2.2 - 1), .int (nI r)])), (aH, .inl (dA, 401, .inl (rnf hq9))), (aA, .inl (dA, 4, .inl (raf res.1.1))), (aL, .inl (dA, 48, .inl (rlf res.1.2.1))), (aB, .inl (dA, 12, .inl (rnf res.1.2.2.1)))]) (va_A [(m0, .inr (4, [.ref aS, .int (nI scn), .ref aO, .int (rb_z kn), .int (rb_z lg), .int (nI gr), .ref aR, .ref aC, .ref aH, .int (nI mn), .ref aA, .ref aL, .ref aB, .int (nI lv - 1), .int (nI r)])), (aH, .inl (dA, 401, .inl (rnf hq9))), (aA, .inl (dA, 4, .inl (raf a))), (aL, .inl (dA, 48, .inl (rlf ds))), (aB, .inl (dA, 12, .inl (rnf bd)))] sz)) 0 0 (va_A [(m0, .inr (4, [.ref aS, .int (nI scn), .ref aO, .int (rb_z kn), .int (rb_z lg), .int (nI gr), .ref aR, .ref aC, .ref aH, .int (nI mn), .ref aA, .ref aL, .ref aB, .int (nI lv - 1), .int (nI r)])), (aH, .inl (dA, 401, .inl (rnf hq9))), (aA, .inl (dA, 4, .inl (raf a))), (aL, .inl (dA, 48, .inl (rlf ds))), (aB, .inl (dA, 12, .inl (rnf bd)))] sz) := by
  refine Met.ofW (cc := b_Mo_next) (maxL := 2) (ret := (some .boolean)) (by decide) rfl ?_
  intro p e s m args below meth c s₁ B hml hv
  obtain ⟨rfl, hsz, hP, hK, hD0⟩ := hv
  have hx := B.exec
  have hb := B.bytes
  have hr := B.returns
  have hts := atoms_spec (ws := (w_ y_Mo_next b_Mo_next 2 (some .boolean))) B.pre
  have hown : s.vm.findClass R_Mo = some m.cls := findClass_of_methodNamed B.named
  have hlocks := B.notSynchronized
  subst hsz
  have hD := hD0.self (sz := s.heap.size)
  generalize hAe : va_A [(m0, .inr (4, [.ref aS, .int (nI scn), .ref aO, .int (rb_z kn), .int (rb_z lg), .int (nI gr), .ref aR, .ref aC, .ref aH, .int (nI mn), .ref aA, .ref aL, .ref aB, .int (nI lv - 1), .int (nI r)])), (aH, .inl (dA, 401, .inl (rnf hq9))), (aA, .inl (dA, 4, .inl (raf a))), (aL, .inl (dA, 48, .inl (rlf ds))), (aB, .inl (dA, 12, .inl (rnf bd)))] s.heap.size = A at hD ⊢
  have hA : ∀ q : Nat, s.heap.size ≤ q → A q := fun q h => by rw [← hAe]; exact Or.inr h
  have hS : va_S A s.heap s.heap [] := va_S.rf
  have hl := lv_entry ([.ref m0]) (n := 2) (Nat.le_of_ble_eq_true rfl)
  rw [lg_entry_eq]
  generalize (lg_sl ([.ref m0]) ++ List.replicate (2 - (lg_sl ([.ref m0])).length) Slot.unset).toArray = ls at hl ⊢
  have hl : lv_has ls 2 [(0, .ref m0)] := hl
  refine lv_aload_n hx hb d_Mo_next_0 rfl (lv_at hl 0 rfl) ?_
  refine va_get (D := (dC, dI)) (ci := 4) (v := .int (nI r)) (C := R_Mo) (T := F_Mo) (N := 15) hx hb hts (rg_c i_Mo) hown hK hP 0 rfl rfl 14 (by decide) (hts _ (List.mem_cons_of_mem _ m_381)) (fun _ h9 => h9) rfl d_Mo_next_1 ?_
  refine rv_calli (r := nI (rq_cnts.getD r 0)) (va_runS (As := [.int (nI r)]) (rest := []) ⟨hx, hb, hml, hown, hts⟩ (c_Mo_premises l r (hr0)) (va_cwS 1 hts (rg_S (rg3 m_455 m_456 m_6) k_Mo_premises) rfl rfl rfl (by decide +kernel) ⟨Nat.le_of_ble_eq_true rfl, Nat.le_of_ble_eq_true rfl⟩) ⟨fun _ _ _ _ q => q, fun U hU hW => ⟨rfl, trivial⟩⟩ rfl rfl hl.1 rfl (lv_room (Nat.le_of_ble_eq_true rfl)) d_Mo_next_4 ⟨Nat.zero_le _, Nat.zero_le _⟩) hS (fun _ h => h.elim) (fun H locs hk hS => ?_)
  have hP := rv_kept hP hk
  refine lv_iconst (v := nI 1) hx hb d_Mo_next_7 (by decide) ?_
  refine rv_isub hx hb d_Mo_next_8 (by have := rq_cnts_le r hr0; omega) ?_
  refine lv_istore_n (lv' := [(1, .int (nI ((rq_cnts.getD r 0) - 1))), (0, .ref m0)]) hx hb d_Mo_next_9 rfl hl (by decide) rfl (fun ls hl => ?_)
  refine rv_Q (fun Q hQ => ?_)
  have lp : ∀ (n : Nat) (a : Nat → Nat) (ds : List Nat) (bd : Nat → Nat) (lv : Nat) (H : Heap) (locs : List Loc) (ls : Array Slot), mq_ok mn r (a, ds, bd, lv) → mn_ hq9 mn r n (a, ds, bd, lv) = some res → va_P (dC, dI) classes [(m0, .inr (4, [.ref aS, .int (nI scn), .ref aO, .int (rb_z kn), .int (rb_z lg), .int (nI gr), .ref aR, .ref aC, .ref aH, .int (nI mn), .ref aA, .ref aL, .ref aB, .int (nI lv - 1), .int (nI r)])), (aH, .inl (dA, 401, .inl (rnf hq9))), (aA, .inl (dA, 4, .inl (raf a))), (aL, .inl (dA, 48, .inl (rlf ds))), (aB, .inl (dA, 12, .inl (rnf bd)))] H → va_D A [(m0, .inr (4, [.ref aS, .int (nI scn), .ref aO, .int (rb_z kn), .int (rb_z lg), .int (nI gr), .ref aR, .ref aC, .ref aH, .int (nI mn), .ref aA, .ref aL, .ref aB, .int (nI lv - 1), .int (nI r)])), (aH, .inl (dA, 401, .inl (rnf hq9))), (aA, .inl (dA, 4, .inl (raf a))), (aL, .inl (dA, 48, .inl (rlf ds))), (aB, .inl (dA, 12, .inl (rnf bd)))] → va_S A s.heap H locs → lv_has ls 2 [(0, .ref m0), (1, .int (nI (rq_cnts.getD r 0 - 1)))] → W p l e (headSpec (w_ y_Mo_next b_Mo_next 2 (some .boolean)) (rm_ 3)).room s m ([.ref m0] : List Value).toArray below meth c H locs 0 0 Q (F0 m 10 ls []) := by
    intro n
    induction n with
    | zero =>
      intro a ds bd lv H locs ls hok hm hP hD hS hl
      cases hm
    | succ n ih =>
      intro a ds bd lv H locs ls hok hm hP hD hS hl
      rcases lv with _ | lw
      · have hE : res = ((a, ds, bd, 0), false) := (Option.some.inj (mn_z.symm.trans hm)).symm
        refine lv_aload_n hx hb d_Mo_next_10 rfl (lv_at hl 0 rfl) ?_
        refine va_get (D := (dC, dI)) (ci := 4) (v := .int (nI 0 - 1)) (C := R_Mo) (T := F_Mo) (N := 15) hx hb hts (rg_c i_Mo) hown hK hP 0 rfl rfl 13 (by decide) (hts _ (List.mem_cons_of_mem _ m_380)) (fun _ h9 => h9) rfl d_Mo_next_11 ?_
        refine lv_if_lt (tgt := 117) hx hb d_Mo_next_14 (by decide) (fun c_14 => ?_) (fun c_14 => absurd (by decide) c_14)
        refine lv_iconst (v := nI 0) hx hb d_Mo_next_117 (by decide) ?_
        subst hQ
        exact W.zret (v := nI 0) hx hb hr (by rfl) (fun t ht hW => ⟨⟨nI 0, (), rfl, by rw [hE]; rfl, by rw [ht]; rw [hE]; exact hP, by rw [hE]; exact hD⟩, hS.F ht⟩) hS.2.2 d_Mo_next_118
      · have hP : va_P (dC, dI) classes [(m0, .inr (4, [.ref aS, .int (nI scn), .ref aO, .int (rb_z kn), .int (rb_z lg), .int (nI gr), .ref aR, .ref aC, .ref aH, .int (nI mn), .ref aA, .ref aL, .ref aB, .int (nI lw), .int (nI r)])), (aH, .inl (dA, 401, .inl (rnf hq9))), (aA, .inl (dA, 4, .inl (raf a))), (aL, .inl (dA, 48, .inl (rlf ds))), (aB, .inl (dA, 12, .inl (rnf bd)))] H := by rw [← nI_pred lw]; exact hP
        have hD : va_D A [(m0, .inr (4, [.ref aS, .int (nI scn), .ref aO, .int (rb_z kn), .int (rb_z lg), .int (nI gr), .ref aR, .ref aC, .ref aH, .int (nI mn), .ref aA, .ref aL, .ref aB, .int (nI lw), .int (nI r)])), (aH, .inl (dA, 401, .inl (rnf hq9))), (aA, .inl (dA, 4, .inl (raf a))), (aL, .inl (dA, 48, .inl (rlf ds))), (aB, .inl (dA, 12, .inl (rnf bd)))] := by rw [← nI_pred lw]; exact hD
        rw [mn_s] at hm
        have hcl := rq_cnts_le r hr0
        have hlc : lw + 1 ≤ rq_cnts.getD r 0 := hok.2.2.1
        have hal : a lw ≤ mn := hok.2.2.2 lw (Nat.lt_succ_self lw)
        have hro := mi_rel_ok 3 (3 * lw) (ds, bd) hok.1 hok.2.1
        refine lv_aload_n hx hb d_Mo_next_10 rfl (lv_at hl 0 rfl) ?_
        refine va_get (D := (dC, dI)) (ci := 4) (v := .int (nI lw)) (C := R_Mo) (T := F_Mo) (N := 15) hx hb hts (rg_c i_Mo) hown hK hP 0 rfl rfl 13 (by decide) (hts _ (List.mem_cons_of_mem _ m_380)) (fun _ h9 => h9) rfl d_Mo_next_11 ?_
        refine rv_if_lt (tgt := 117) hx hb d_Mo_next_14 (by decide) (by omega) ?_
        refine lv_aload_n hx hb d_Mo_next_17 rfl (lv_at hl 0 rfl) ?_
        have hPc := hP.sub (ws' := [(m0, .inr (4, [.ref aS, .int (nI scn), .ref aO, .int (rb_z kn), .int (rb_z lg), .int (nI gr), .ref aR, .ref aC, .ref aH, .int (nI mn), .ref aA, .ref aL, .ref aB, .int (nI lw), .int (nI r)])), (aL, .inl (dA, 48, .inl (rlf ((ds, bd).1)))), (aB, .inl (dA, 12, .inl (rnf ((ds, bd).2))))]) [0, 3, 4] rfl
        have hDc := hD.sub (ws' := [(m0, .inr (4, [.ref aS, .int (nI scn), .ref aO, .int (rb_z kn), .int (rb_z lg), .int (nI gr), .ref aR, .ref aC, .ref aH, .int (nI mn), .ref aA, .ref aL, .ref aB, .int (nI lw), .int (nI r)])), (aL, .inl (dA, 48, .inl (rlf ((ds, bd).1)))), (aB, .inl (dA, 12, .inl (rnf ((ds, bd).2))))]) [0, 3, 4] (by decide) rfl
        have hFc := va_free (wc := [(m0, .inr (4, [.ref aS, .int (nI scn), .ref aO, .int (rb_z kn), .int (rb_z lg), .int (nI gr), .ref aR, .ref aC, .ref aH, .int (nI mn), .ref aA, .ref aL, .ref aB, .int (nI lw), .int (nI r)])), (aL, .inl (dA, 48, .inl (rlf ((ds, bd).1)))), (aB, .inl (dA, 12, .inl (rnf ((ds, bd).2))))]) hD hS hA [0, 3, 4] rfl
        refine va_callv (va_runV (As := []) (rest := []) ⟨hx, hb, hml, hown, hts⟩ (c_Mo_release l dC dI dA dZ m0 aS aO aR aC aH aA aL aB scn gr mn r kn lg lw (ds, bd) H.size (by omega) hok.1 hok.2.1) (cwV 0 hts (rg_V (rg4 m_507 m_509 s_9 m_6) k_Mo_release) rfl rfl rfl (by decide +kernel) ⟨Nat.le_of_ble_eq_true rfl, Nat.le_of_ble_eq_true rfl⟩) ⟨fun a U g mk q => ⟨q.1, q.2.1, q.2.2.1, va_K.moved (u := U) (U := U.calling g mk a) (Vm.Alike.refl U.vm) q.2.2.2.1, q.2.2.2.2⟩, va_recv hK hPc (ci := 4) (q0 := 0) rfl rfl, fun U hU hW => ⟨rfl, by rw [hU], by rw [hU]; exact hPc, va_K.moved hW.alike hK, hDc.weaken (fun _ _ _ _ => trivial)⟩⟩ rfl rfl hl.1 rfl (lv_room (Nat.le_of_ble_eq_true rfl)) d_Mo_next_18 ⟨Nat.zero_le _, Nat.zero_le _⟩) hS (fun q _ h => hFc q h) hFc (fun u t H1 locs ht hvm hw hB hz1 hk1 hS => ?_)
        obtain ⟨hP1, hD1⟩ := hB
        rw [ht] at hP1
        obtain ⟨hP, hD⟩ := va_join (wr := [(aH, .inl (dA, 401, .inl (rnf hq9))), (aA, .inl (dA, 4, .inl (raf a)))]) (w1 := [(m0, .inr (4, [.ref aS, .int (nI scn), .ref aO, .int (rb_z kn), .int (rb_z lg), .int (nI gr), .ref aR, .ref aC, .ref aH, .int (nI mn), .ref aA, .ref aL, .ref aB, .int (nI lw), .int (nI r)])), (aL, .inl (dA, 48, .inl (rlf ((mi_rel 3 (3 * lw) (ds, bd)).1)))), (aB, .inl (dA, 12, .inl (rnf ((mi_rel 3 (3 * lw) (ds, bd)).2))))]) hP hD [0, 3, 4] [1, 2] rfl rfl (by decide) (by decide) hk1 hFc hP1 hD1
        clear hk1 hFc hPc hDc hP1 hD1
        generalize H1 = H at hP hS ⊢
        have hP : va_P (dC, dI) classes [(m0, .inr (4, [.ref aS, .int (nI scn), .ref aO, .int (rb_z kn), .int (rb_z lg), .int (nI gr), .ref aR, .ref aC, .ref aH, .int (nI mn), .ref aA, .ref aL, .ref aB, .int (nI lw), .int (nI r)])), (aH, .inl (dA, 401, .inl (rnf hq9))), (aA, .inl (dA, 4, .inl (raf a))), (aL, .inl (dA, 48, .inl (rlf ((mi_rel 3 (3 * lw) (ds, bd)).1)))), (aB, .inl (dA, 12, .inl (rnf ((mi_rel 3 (3 * lw) (ds, bd)).2))))] H := hP.sub [2, 0, 1, 3, 4] rfl
        have hD : va_D A [(m0, .inr (4, [.ref aS, .int (nI scn), .ref aO, .int (rb_z kn), .int (rb_z lg), .int (nI gr), .ref aR, .ref aC, .ref aH, .int (nI mn), .ref aA, .ref aL, .ref aB, .int (nI lw), .int (nI r)])), (aH, .inl (dA, 401, .inl (rnf hq9))), (aA, .inl (dA, 4, .inl (raf a))), (aL, .inl (dA, 48, .inl (rlf ((mi_rel 3 (3 * lw) (ds, bd)).1)))), (aB, .inl (dA, 12, .inl (rnf ((mi_rel 3 (3 * lw) (ds, bd)).2))))] := hD.sub [2, 0, 1, 3, 4] (by decide) rfl
        generalize hrel : mi_rel 3 (3 * lw) (ds, bd) = y at hP hD hm hro
        refine lv_aload_n hx hb d_Mo_next_21 rfl (lv_at hl 0 rfl) ?_
        refine va_get (D := (dC, dI)) (ci := 4) (v := .ref aA) (C := R_Mo) (T := F_Mo) (N := 15) hx hb hts (rg_c i_Mo) hown hK hP 0 rfl rfl 10 (by decide) (hts _ (List.mem_cons_of_mem _ m_377)) (fun _ h9 => h9) rfl d_Mo_next_22 ?_
        refine lv_aload_n hx hb d_Mo_next_25 rfl (lv_at hl 0 rfl) ?_
        refine va_get (D := (dC, dI)) (ci := 4) (v := .int (nI lw)) (C := R_Mo) (T := F_Mo) (N := 15) hx hb hts (rg_c i_Mo) hown hK hP 0 rfl rfl 13 (by decide) (hts _ (List.mem_cons_of_mem _ m_380)) (fun _ h9 => h9) rfl d_Mo_next_26 ?_
        refine lv_dup2_11 hx hb d_Mo_next_29 rfl rfl ?_
        refine rm_ald (k := lw) hx hb hK hP 2 0 rfl rfl (by omega) (by decide) d_Mo_next_30 ?_
        refine lv_iconst (v := nI 1) hx hb d_Mo_next_31 (by decide) ?_
        refine lv_iadd hx hb d_Mo_next_32 ?_
        refine rm_ast (k := lw) (v := a lw + 1) hx hb hK hP hD hS 2 0 rfl rfl (by omega) (by decide) (raf_inc _) d_Mo_next_33 (fun H locs hP hD hS => ?_)
        have hP : va_P (dC, dI) classes [(m0, .inr (4, [.ref aS, .int (nI scn), .ref aO, .int (rb_z kn), .int (rb_z lg), .int (nI gr), .ref aR, .ref aC, .ref aH, .int (nI mn), .ref aA, .ref aL, .ref aB, .int (nI lw), .int (nI r)])), (aH, .inl (dA, 401, .inl (rnf hq9))), (aA, .inl (dA, 4, .inl (raf (ua a lw (a lw + 1))))), (aL, .inl (dA, 48, .inl (rlf y.1))), (aB, .inl (dA, 12, .inl (rnf y.2)))] H := hP
        have hD : va_D A [(m0, .inr (4, [.ref aS, .int (nI scn), .ref aO, .int (rb_z kn), .int (rb_z lg), .int (nI gr), .ref aR, .ref aC, .ref aH, .int (nI mn), .ref aA, .ref aL, .ref aB, .int (nI lw), .int (nI r)])), (aH, .inl (dA, 401, .inl (rnf hq9))), (aA, .inl (dA, 4, .inl (raf (ua a lw (a lw + 1))))), (aL, .inl (dA, 48, .inl (rlf y.1))), (aB, .inl (dA, 12, .inl (rnf y.2)))] := hD
        refine lv_aload_n hx hb d_Mo_next_34 rfl (lv_at hl 0 rfl) ?_
        refine va_get (D := (dC, dI)) (ci := 4) (v := .ref aA) (C := R_Mo) (T := F_Mo) (N := 15) hx hb hts (rg_c i_Mo) hown hK hP 0 rfl rfl 10 (by decide) (hts _ (List.mem_cons_of_mem _ m_377)) (fun _ h9 => h9) rfl d_Mo_next_35 ?_
        refine lv_aload_n hx hb d_Mo_next_38 rfl (lv_at hl 0 rfl) ?_
        refine va_get (D := (dC, dI)) (ci := 4) (v := .int (nI lw)) (C := R_Mo) (T := F_Mo) (N := 15) hx hb hts (rg_c i_Mo) hown hK hP 0 rfl rfl 13 (by decide) (hts _ (List.mem_cons_of_mem _ m_380)) (fun _ h9 => h9) rfl d_Mo_next_39 ?_
        refine rm_ald (k := lw) hx hb hK hP 2 0 rfl rfl (by omega) (by decide) d_Mo_next_42 ?_
        refine rv_eq (y := nI (a lw)) (raf_rd a lw) ?_
        refine lv_aload_n hx hb d_Mo_next_43 rfl (lv_at hl 0 rfl) ?_
        refine va_get (D := (dC, dI)) (ci := 4) (v := .int (nI mn)) (C := R_Mo) (T := F_Mo) (N := 15) hx hb hts (rg_c i_Mo) hown hK hP 0 rfl rfl 9 (by decide) (hts _ (List.mem_cons_of_mem _ m_376)) (fun _ h9 => h9) rfl d_Mo_next_44 ?_
        refine rv_icmp_ne (tgt := 63) hx hb d_Mo_next_47 (by decide) (by omega) (by omega) (fun c_47 => ?_) (fun c_47 => ?_)
        · rw [if_neg c_47] at hm
          refine lv_aload_n hx hb d_Mo_next_63 rfl (lv_at hl 0 rfl) ?_
          refine lv_aload_n hx hb d_Mo_next_64 rfl (lv_at hl 0 rfl) ?_
          refine va_get (D := (dC, dI)) (ci := 4) (v := .ref aH) (C := R_Mo) (T := F_Mo) (N := 15) hx hb hts (rg_c i_Mo) hown hK hP 0 rfl rfl 8 (by decide) (hts _ (List.mem_cons_of_mem _ m_375)) (fun _ h9 => h9) rfl d_Mo_next_65 ?_
          refine lv_aload_n hx hb d_Mo_next_68 rfl (lv_at hl 0 rfl) ?_
          refine va_get (D := (dC, dI)) (ci := 4) (v := .ref aA) (C := R_Mo) (T := F_Mo) (N := 15) hx hb hts (rg_c i_Mo) hown hK hP 0 rfl rfl 10 (by decide) (hts _ (List.mem_cons_of_mem _ m_377)) (fun _ h9 => h9) rfl d_Mo_next_69 ?_
          refine lv_aload_n hx hb d_Mo_next_72 rfl (lv_at hl 0 rfl) ?_
          refine va_get (D := (dC, dI)) (ci := 4) (v := .int (nI lw)) (C := R_Mo) (T := F_Mo) (N := 15) hx hb hts (rg_c i_Mo) hown hK hP 0 rfl rfl 13 (by decide) (hts _ (List.mem_cons_of_mem _ m_380)) (fun _ h9 => h9) rfl d_Mo_next_73 ?_
          refine rm_ald (k := lw) hx hb hK hP 2 0 rfl rfl (by omega) (by decide) d_Mo_next_76 ?_
          refine rv_eq (y := nI (a lw)) (raf_rd a lw) ?_
          refine rm_nld (k := (a lw)) hx hb hK hP 1 0 rfl rfl (by omega) (by decide) d_Mo_next_77 ?_
          have hha := hhl (a lw) (by omega)
          have hfo := mi_fits_ok (r := r) (l := lw) hha hro.1 hro.2
          have hPc := hP.sub (ws' := [(m0, .inr (4, [.ref aS, .int (nI scn), .ref aO, .int (rb_z kn), .int (rb_z lg), .int (nI gr), .ref aR, .ref aC, .ref aH, .int (nI mn), .ref aA, .ref aL, .ref aB, .int (nI lw), .int (nI r)])), (aL, .inl (dA, 48, .inl (rlf y.1))), (aB, .inl (dA, 12, .inl (rnf y.2)))]) [0, 3, 4] rfl
          have hDc := hD.sub (ws' := [(m0, .inr (4, [.ref aS, .int (nI scn), .ref aO, .int (rb_z kn), .int (rb_z lg), .int (nI gr), .ref aR, .ref aC, .ref aH, .int (nI mn), .ref aA, .ref aL, .ref aB, .int (nI lw), .int (nI r)])), (aL, .inl (dA, 48, .inl (rlf y.1))), (aB, .inl (dA, 12, .inl (rnf y.2)))]) [0, 3, 4] (by decide) rfl
          have hFc := va_free (wc := [(m0, .inr (4, [.ref aS, .int (nI scn), .ref aO, .int (rb_z kn), .int (rb_z lg), .int (nI gr), .ref aR, .ref aC, .ref aH, .int (nI mn), .ref aA, .ref aL, .ref aB, .int (nI lw), .int (nI r)])), (aL, .inl (dA, 48, .inl (rlf y.1))), (aB, .inl (dA, 12, .inl (rnf y.2)))]) hD hS hA [0, 3, 4] rfl
          refine va_calli (va_runV (As := [.int (nI (hq9 (a lw)))]) (rest := []) ⟨hx, hb, hml, hown, hts⟩ (c_Mo_fits l dC dI dA dZ m0 aS aO aR aC aH aA aL aB scn gr mn r kn lg lw (hq9 (a lw)) y.1 y.2 H.size hr0 (by omega) hha hro.1 hro.2) (cwV 1 hts (rg_V (rg4 m_511 m_513 s_10 m_6) k_Mo_fits) rfl rfl rfl (by decide +kernel) ⟨Nat.le_of_ble_eq_true rfl, Nat.le_of_ble_eq_true rfl⟩) ⟨fun a U g mk q => ⟨q.1, q.2.1, q.2.2.1, va_K.moved (u := U) (U := U.calling g mk a) (Vm.Alike.refl U.vm) q.2.2.2.1, q.2.2.2.2⟩, va_recv hK hPc (ci := 4) (q0 := 0) rfl rfl, fun U hU hW => ⟨rfl, by rw [hU], by rw [hU]; exact hPc, va_K.moved hW.alike hK, hDc.weaken (fun _ _ _ _ => trivial)⟩⟩ rfl rfl hl.1 rfl (lv_room (Nat.le_of_ble_eq_true rfl)) d_Mo_next_78 ⟨Nat.zero_le _, Nat.zero_le _⟩) hS (fun q _ h => hFc q h) hFc (fun r9 u t H1 locs ht hvm hw hB hz1 hk1 hS => ?_)
          subst hw
          obtain ⟨hP1, hD1⟩ := hB
          rw [ht] at hP1
          obtain ⟨hP, hD⟩ := va_join (wr := [(aH, .inl (dA, 401, .inl (rnf hq9))), (aA, .inl (dA, 4, .inl (raf (ua a lw (a lw + 1)))))]) (w1 := [(m0, .inr (4, [.ref aS, .int (nI scn), .ref aO, .int (rb_z kn), .int (rb_z lg), .int (nI gr), .ref aR, .ref aC, .ref aH, .int (nI mn), .ref aA, .ref aL, .ref aB, .int (nI lw), .int (nI r)])), (aL, .inl (dA, 48, .inl (rlf ((mi_fits r lw (hq9 (a lw)) y.1 y.2).1.1)))), (aB, .inl (dA, 12, .inl (rnf ((mi_fits r lw (hq9 (a lw)) y.1 y.2).1.2))))]) hP hD [0, 3, 4] [1, 2] rfl rfl (by decide) (by decide) hk1 hFc hP1 hD1
          clear hk1 hFc hPc hDc hP1 hD1
          generalize H1 = H at hP hS ⊢
          have hP : va_P (dC, dI) classes [(m0, .inr (4, [.ref aS, .int (nI scn), .ref aO, .int (rb_z kn), .int (rb_z lg), .int (nI gr), .ref aR, .ref aC, .ref aH, .int (nI mn), .ref aA, .ref aL, .ref aB, .int (nI lw), .int (nI r)])), (aH, .inl (dA, 401, .inl (rnf hq9))), (aA, .inl (dA, 4, .inl (raf (ua a lw (a lw + 1))))), (aL, .inl (dA, 48, .inl (rlf ((mi_fits r lw (hq9 (a lw)) y.1 y.2).1.1)))), (aB, .inl (dA, 12, .inl (rnf ((mi_fits r lw (hq9 (a lw)) y.1 y.2).1.2))))] H := hP.sub [2, 0, 1, 3, 4] rfl
          have hD : va_D A [(m0, .inr (4, [.ref aS, .int (nI scn), .ref aO, .int (rb_z kn), .int (rb_z lg), .int (nI gr), .ref aR, .ref aC, .ref aH, .int (nI mn), .ref aA, .ref aL, .ref aB, .int (nI lw), .int (nI r)])), (aH, .inl (dA, 401, .inl (rnf hq9))), (aA, .inl (dA, 4, .inl (raf (ua a lw (a lw + 1))))), (aL, .inl (dA, 48, .inl (rlf ((mi_fits r lw (hq9 (a lw)) y.1 y.2).1.1)))), (aB, .inl (dA, 12, .inl (rnf ((mi_fits r lw (hq9 (a lw)) y.1 y.2).1.2))))] := hD.sub [2, 0, 1, 3, 4] (by decide) rfl
          generalize hfit : mi_fits r lw (hq9 (a lw)) y.1 y.2 = f at hP hD hm hfo ⊢
          rcases hf : f.2 with _ | _
          · refine rv_eq (y := nI 0) (rfl) ?_
            rw [if_neg (by rw [hf]; simp)] at hm
            refine rv_if_eq (tgt := 10) hx hb d_Mo_next_81 (by decide) (by omega) (fun c_81 => ?_) (fun c_81 => absurd c_81 (by omega))
            have hP : va_P (dC, dI) classes [(m0, .inr (4, [.ref aS, .int (nI scn), .ref aO, .int (rb_z kn), .int (rb_z lg), .int (nI gr), .ref aR, .ref aC, .ref aH, .int (nI mn), .ref aA, .ref aL, .ref aB, .int (nI (lw + 1) - 1), .int (nI r)])), (aH, .inl (dA, 401, .inl (rnf hq9))), (aA, .inl (dA, 4, .inl (raf (ua a lw (a lw + 1))))), (aL, .inl (dA, 48, .inl (rlf f.1.1))), (aB, .inl (dA, 12, .inl (rnf f.1.2)))] H := by rw [nI_pred lw]; exact hP
            have hD : va_D A [(m0, .inr (4, [.ref aS, .int (nI scn), .ref aO, .int (rb_z kn), .int (rb_z lg), .int (nI gr), .ref aR, .ref aC, .ref aH, .int (nI mn), .ref aA, .ref aL, .ref aB, .int (nI (lw + 1) - 1), .int (nI r)])), (aH, .inl (dA, 401, .inl (rnf hq9))), (aA, .inl (dA, 4, .inl (raf (ua a lw (a lw + 1))))), (aL, .inl (dA, 48, .inl (rlf f.1.1))), (aB, .inl (dA, 12, .inl (rnf f.1.2)))] := by rw [nI_pred lw]; exact hD
            exact ih (ua a lw (a lw + 1)) f.1.1 f.1.2 (lw + 1) _ _ _ (mq_fail hok c_47 hfo.1 hfo.2) (hm) hP hD hS (lv_sub hl [0, 1] rfl)
          · refine rv_eq (y := nI 1) (rfl) ?_
            rw [if_pos hf] at hm
            refine rv_if_eq (tgt := 10) hx hb d_Mo_next_81 (by decide) (by omega) (fun c_81 => absurd c_81 (by omega)) (fun c_81 => ?_)
            refine lv_aload_n hx hb d_Mo_next_84 rfl (lv_at hl 0 rfl) ?_
            refine va_get (D := (dC, dI)) (ci := 4) (v := .int (nI lw)) (C := R_Mo) (T := F_Mo) (N := 15) hx hb hts (rg_c i_Mo) hown hK hP 0 rfl rfl 13 (by decide) (hts _ (List.mem_cons_of_mem _ m_380)) (fun _ h9 => h9) rfl d_Mo_next_85 ?_
            refine lv_iload_n hx hb d_Mo_next_88 rfl (lv_at hl 1 rfl) ?_
            refine rv_icmp_ne (tgt := 94) hx hb d_Mo_next_89 (by decide) (by omega) (by omega) (fun c_89 => ?_) (fun c_89 => ?_)
            · have hlt : ¬ lw + 1 = rq_cnts.getD r 0 := by omega
              rw [if_neg hlt] at hm
              refine lv_aload_n hx hb d_Mo_next_94 rfl (lv_at hl 0 rfl) ?_
              refine lv_dup hx hb d_Mo_next_95 rfl ?_
              refine va_get (D := (dC, dI)) (ci := 4) (v := .int (nI lw)) (C := R_Mo) (T := F_Mo) (N := 15) hx hb hts (rg_c i_Mo) hown hK hP 0 rfl rfl 13 (by decide) (hts _ (List.mem_cons_of_mem _ m_380)) (fun _ h9 => h9) rfl d_Mo_next_96 ?_
              refine lv_iconst (v := nI 1) hx hb d_Mo_next_99 (by decide) ?_
              refine rv_iadd hx hb d_Mo_next_100 ?_
              refine va_put (D := (dC, dI)) (ci := 4) (v := .int (nI (lw + 1))) (ty := .int) (C := R_Mo) (T := F_Mo) (N := 15) hx hb hts (rg_c i_Mo) t_Mo t_Mo_ok n_Mo hown hK hP hD hS 0 rfl rfl 13 (by decide) (hts _ (List.mem_cons_of_mem _ m_380)) (fun _ h9 => h9) rfl (by decide +kernel) (by rfl) (by rfl) (Nat.le_of_ble_eq_true rfl) d_Mo_next_101 (fun H locs hP hD hS => ?_)
              have hP : va_P (dC, dI) classes [(m0, .inr (4, [.ref aS, .int (nI scn), .ref aO, .int (rb_z kn), .int (rb_z lg), .int (nI gr), .ref aR, .ref aC, .ref aH, .int (nI mn), .ref aA, .ref aL, .ref aB, .int (nI (lw + 1)), .int (nI r)])), (aH, .inl (dA, 401, .inl (rnf hq9))), (aA, .inl (dA, 4, .inl (raf (ua a lw (a lw + 1))))), (aL, .inl (dA, 48, .inl (rlf f.1.1))), (aB, .inl (dA, 12, .inl (rnf f.1.2)))] H := hP
              have hD : va_D A [(m0, .inr (4, [.ref aS, .int (nI scn), .ref aO, .int (rb_z kn), .int (rb_z lg), .int (nI gr), .ref aR, .ref aC, .ref aH, .int (nI mn), .ref aA, .ref aL, .ref aB, .int (nI (lw + 1)), .int (nI r)])), (aH, .inl (dA, 401, .inl (rnf hq9))), (aA, .inl (dA, 4, .inl (raf (ua a lw (a lw + 1))))), (aL, .inl (dA, 48, .inl (rlf f.1.1))), (aB, .inl (dA, 12, .inl (rnf f.1.2)))] := hD
              refine lv_aload_n hx hb d_Mo_next_104 rfl (lv_at hl 0 rfl) ?_
              refine va_get (D := (dC, dI)) (ci := 4) (v := .ref aA) (C := R_Mo) (T := F_Mo) (N := 15) hx hb hts (rg_c i_Mo) hown hK hP 0 rfl rfl 10 (by decide) (hts _ (List.mem_cons_of_mem _ m_377)) (fun _ h9 => h9) rfl d_Mo_next_105 ?_
              refine lv_aload_n hx hb d_Mo_next_108 rfl (lv_at hl 0 rfl) ?_
              refine va_get (D := (dC, dI)) (ci := 4) (v := .int (nI (lw + 1))) (C := R_Mo) (T := F_Mo) (N := 15) hx hb hts (rg_c i_Mo) hown hK hP 0 rfl rfl 13 (by decide) (hts _ (List.mem_cons_of_mem _ m_380)) (fun _ h9 => h9) rfl d_Mo_next_109 ?_
              refine lv_iconst (v := (-1)) hx hb d_Mo_next_112 (by decide) ?_
              refine rm_ast (k := (lw + 1)) (v := 0) hx hb hK hP hD hS 2 0 rfl rfl (by omega) (by decide) (by decide) d_Mo_next_113 (fun H locs hP hD hS => ?_)
              have hP : va_P (dC, dI) classes [(m0, .inr (4, [.ref aS, .int (nI scn), .ref aO, .int (rb_z kn), .int (rb_z lg), .int (nI gr), .ref aR, .ref aC, .ref aH, .int (nI mn), .ref aA, .ref aL, .ref aB, .int (nI (lw + 1)), .int (nI r)])), (aH, .inl (dA, 401, .inl (rnf hq9))), (aA, .inl (dA, 4, .inl (raf (ua (ua a lw (a lw + 1)) (lw + 1) 0)))), (aL, .inl (dA, 48, .inl (rlf f.1.1))), (aB, .inl (dA, 12, .inl (rnf f.1.2)))] H := hP
              have hD : va_D A [(m0, .inr (4, [.ref aS, .int (nI scn), .ref aO, .int (rb_z kn), .int (rb_z lg), .int (nI gr), .ref aR, .ref aC, .ref aH, .int (nI mn), .ref aA, .ref aL, .ref aB, .int (nI (lw + 1)), .int (nI r)])), (aH, .inl (dA, 401, .inl (rnf hq9))), (aA, .inl (dA, 4, .inl (raf (ua (ua a lw (a lw + 1)) (lw + 1) 0)))), (aL, .inl (dA, 48, .inl (rlf f.1.1))), (aB, .inl (dA, 12, .inl (rnf f.1.2)))] := hD
              refine lv_goto (tgt := 10) hx hb d_Mo_next_114 (by decide) ?_
              have hP : va_P (dC, dI) classes [(m0, .inr (4, [.ref aS, .int (nI scn), .ref aO, .int (rb_z kn), .int (rb_z lg), .int (nI gr), .ref aR, .ref aC, .ref aH, .int (nI mn), .ref aA, .ref aL, .ref aB, .int (nI (lw + 2) - 1), .int (nI r)])), (aH, .inl (dA, 401, .inl (rnf hq9))), (aA, .inl (dA, 4, .inl (raf (ua (ua a lw (a lw + 1)) (lw + 1) 0)))), (aL, .inl (dA, 48, .inl (rlf f.1.1))), (aB, .inl (dA, 12, .inl (rnf f.1.2)))] H := by rw [nI_pred (lw + 1)]; exact hP
              have hD : va_D A [(m0, .inr (4, [.ref aS, .int (nI scn), .ref aO, .int (rb_z kn), .int (rb_z lg), .int (nI gr), .ref aR, .ref aC, .ref aH, .int (nI mn), .ref aA, .ref aL, .ref aB, .int (nI (lw + 2) - 1), .int (nI r)])), (aH, .inl (dA, 401, .inl (rnf hq9))), (aA, .inl (dA, 4, .inl (raf (ua (ua a lw (a lw + 1)) (lw + 1) 0)))), (aL, .inl (dA, 48, .inl (rlf f.1.1))), (aB, .inl (dA, 12, .inl (rnf f.1.2)))] := by rw [nI_pred (lw + 1)]; exact hD
              exact ih (ua (ua a lw (a lw + 1)) (lw + 1) 0) f.1.1 f.1.2 (lw + 2) _ _ _ (mq_down hok c_47 hlt hfo.1 hfo.2) (hm) hP hD hS (lv_sub hl [0, 1] rfl)
            · rw [if_pos (by omega)] at hm
              have hE := (Option.some.inj hm).symm
              refine lv_iconst (v := nI 1) hx hb d_Mo_next_92 (by decide) ?_
              subst hQ
              exact W.zret (v := nI 1) hx hb hr (by rfl) (fun t ht hW => ⟨⟨nI 1, (), rfl, by rw [hE]; rfl, by rw [ht]; rw [hE]; have h9 := hP; rw [← nI_pred lw] at h9; exact h9, (by rw [hE]; have h9 := hD; rw [← nI_pred lw] at h9; exact h9)⟩, hS.F ht⟩) hS.2.2 d_Mo_next_93
        · rw [if_pos c_47] at hm
          refine lv_aload_n hx hb d_Mo_next_50 rfl (lv_at hl 0 rfl) ?_
          refine lv_dup hx hb d_Mo_next_51 rfl ?_
          refine va_get (D := (dC, dI)) (ci := 4) (v := .int (nI lw)) (C := R_Mo) (T := F_Mo) (N := 15) hx hb hts (rg_c i_Mo) hown hK hP 0 rfl rfl 13 (by decide) (hts _ (List.mem_cons_of_mem _ m_380)) (fun _ h9 => h9) rfl d_Mo_next_52 ?_
          refine lv_iconst (v := nI 1) hx hb d_Mo_next_55 (by decide) ?_
          refine lv_isub hx hb d_Mo_next_56 ?_
          refine va_put (D := (dC, dI)) (ci := 4) (v := .int ((nI lw) - (nI 1))) (ty := .int) (C := R_Mo) (T := F_Mo) (N := 15) hx hb hts (rg_c i_Mo) t_Mo t_Mo_ok n_Mo hown hK hP hD hS 0 rfl rfl 13 (by decide) (hts _ (List.mem_cons_of_mem _ m_380)) (fun _ h9 => h9) rfl (by decide +kernel) (by rfl) (by rfl) (Nat.le_of_ble_eq_true rfl) d_Mo_next_57 (fun H locs hP hD hS => ?_)
          have hP : va_P (dC, dI) classes [(m0, .inr (4, [.ref aS, .int (nI scn), .ref aO, .int (rb_z kn), .int (rb_z lg), .int (nI gr), .ref aR, .ref aC, .ref aH, .int (nI mn), .ref aA, .ref aL, .ref aB, .int ((nI lw) - (nI 1)), .int (nI r)])), (aH, .inl (dA, 401, .inl (rnf hq9))), (aA, .inl (dA, 4, .inl (raf (ua a lw (a lw + 1))))), (aL, .inl (dA, 48, .inl (rlf y.1))), (aB, .inl (dA, 12, .inl (rnf y.2)))] H := hP
          have hD : va_D A [(m0, .inr (4, [.ref aS, .int (nI scn), .ref aO, .int (rb_z kn), .int (rb_z lg), .int (nI gr), .ref aR, .ref aC, .ref aH, .int (nI mn), .ref aA, .ref aL, .ref aB, .int ((nI lw) - (nI 1)), .int (nI r)])), (aH, .inl (dA, 401, .inl (rnf hq9))), (aA, .inl (dA, 4, .inl (raf (ua a lw (a lw + 1))))), (aL, .inl (dA, 48, .inl (rlf y.1))), (aB, .inl (dA, 12, .inl (rnf y.2)))] := hD
          refine lv_goto (tgt := 10) hx hb d_Mo_next_60 (by decide) ?_
          have hP : va_P (dC, dI) classes [(m0, .inr (4, [.ref aS, .int (nI scn), .ref aO, .int (rb_z kn), .int (rb_z lg), .int (nI gr), .ref aR, .ref aC, .ref aH, .int (nI mn), .ref aA, .ref aL, .ref aB, .int (nI lw - 1), .int (nI r)])), (aH, .inl (dA, 401, .inl (rnf hq9))), (aA, .inl (dA, 4, .inl (raf (ua a lw (a lw + 1))))), (aL, .inl (dA, 48, .inl (rlf y.1))), (aB, .inl (dA, 12, .inl (rnf y.2)))] H := hP
          have hD : va_D A [(m0, .inr (4, [.ref aS, .int (nI scn), .ref aO, .int (rb_z kn), .int (rb_z lg), .int (nI gr), .ref aR, .ref aC, .ref aH, .int (nI mn), .ref aA, .ref aL, .ref aB, .int (nI lw - 1), .int (nI r)])), (aH, .inl (dA, 401, .inl (rnf hq9))), (aA, .inl (dA, 4, .inl (raf (ua a lw (a lw + 1))))), (aL, .inl (dA, 48, .inl (rlf y.1))), (aB, .inl (dA, 12, .inl (rnf y.2)))] := hD
          exact ih (ua a lw (a lw + 1)) y.1 y.2 lw _ _ _ (mq_pop hok hro.1 hro.2) (hm) hP hD hS (lv_sub hl [0, 1] rfl)
  exact lp fu a ds bd lv _ _ _ (hok) (hm) hP hD hS (lv_sub hl [1, 0] rfl)

set_option maxHeartbeats 4000000 in
set_option maxRecDepth 100000 in
theorem c_Mo_termOf (l : Launch) (dC : Nat → ClassId) (dI : Nat → Nat → Nat) (dA dZ : ClassId) (m0 aS aO aR aC aH aA aL aB scn gr mn r : Nat) (kn lg : Bool) (lvx : Int32) (k u : Nat) (ds : List Nat) (hk : k < 42) (hq : rt_term k ds = some u) : Met l y_Mo_termOf (w_ y_Mo_termOf b_Mo_termOf 2 (some .int)) (rm_ 0) (va_Pc [.ref m0, .int (nI k)] (fun U => va_K (dC, dI) classes [(dA, .int), (dZ, .boolean)] U ∧ va_P (dC, dI) classes [(m0, .inr (4, [.ref aS, .int (nI scn), .ref aO, .int (rb_z kn), .int (rb_z lg), .int (nI gr), .ref aR, .ref aC, .ref aH, .int (nI mn), .ref aA, .ref aL, .ref aB, .int lvx, .int (nI r)])), (aL, .inl (dA, 48, .inl (rlf ds)))] U.heap)) (va_Qi (fun (z9 : Int32) (_ : Unit) => z9 = nI u) (fun _ _ => True) (fun _ => False)) 0 0 (fun _ => False) := by
  refine Met.ofW (cc := b_Mo_termOf) (maxL := 2) (ret := (some .int)) (by decide) rfl ?_
  intro p e s m args below meth c s₁ B hml hv
  obtain ⟨rfl, hK, hP⟩ := hv
  have hx := B.exec
  have hb := B.bytes
  have hr := B.returns
  have hts := atoms_spec (ws := (w_ y_Mo_termOf b_Mo_termOf 2 (some .int))) B.pre
  have hown : s.vm.findClass R_Mo = some m.cls := findClass_of_methodNamed B.named
  have hlocks := B.notSynchronized
  have hS : va_S (fun _ => False) s.heap s.heap [] := va_S.rf
  have hl := lv_entry ([.ref m0, .int (nI k)]) (n := 2) (Nat.le_of_ble_eq_true rfl)
  rw [lg_entry_eq]
  generalize (lg_sl ([.ref m0, .int (nI k)]) ++ List.replicate (2 - (lg_sl ([.ref m0, .int (nI k)])).length) Slot.unset).toArray = ls at hl ⊢
  have hl : lv_has ls 2 [(0, .ref m0), (1, .int (nI k))] := hl
  refine lv_iload_n hx hb d_Mo_termOf_0 rfl (lv_at hl 1 rfl) ?_
  refine lv_bipush (v := nI 32) hx hb d_Mo_termOf_1 (by decide) ?_
  refine rv_icmp_ge (tgt := 10) hx hb d_Mo_termOf_3 (by decide) (by omega) (by omega) (fun c_3 => ?_) (fun c_3 => ?_)
  · have hu2 : ds.getD (k - 32) 0 = u + 1 := by
      unfold rt_term at hq; rw [if_neg (by omega)] at hq
      split at hq
      · cases hq
      · rename_i hz; cases hq; exact hz
    refine lv_aload_n hx hb d_Mo_termOf_10 rfl (lv_at hl 0 rfl) ?_
    refine va_get (D := (dC, dI)) (ci := 4) (v := .ref aL) (C := R_Mo) (T := F_Mo) (N := 15) hx hb hts (rg_c i_Mo) hown hK hP 0 rfl rfl 11 (by decide) (hts _ (List.mem_cons_of_mem _ m_378)) (fun _ h9 => h9) rfl d_Mo_termOf_11 ?_
    refine lv_iload_n hx hb d_Mo_termOf_14 rfl (lv_at hl 1 rfl) ?_
    refine rm_lld (k := k) hx hb hK hP 1 0 rfl rfl (by omega) (by decide) (by omega) d_Mo_termOf_15 ?_
    refine lv_iconst (v := nI 1) hx hb d_Mo_termOf_16 (by decide) ?_
    refine rv_isub hx hb d_Mo_termOf_17 (by omega) ?_
    exact W.iret (v := nI ((ds.getD (k - 32) 0) - 1)) hx hb hr (fun t ht hW => ⟨⟨nI ((ds.getD (k - 32) 0) - 1), (), rfl, congrArg nI (by omega), trivial⟩, hS.F ht⟩) hS.2.2 d_Mo_termOf_18
  · have hu2 : u = k := by unfold rt_term at hq; rw [if_pos (by omega)] at hq; exact (Option.some.inj hq).symm
    refine lv_iload_n hx hb d_Mo_termOf_6 rfl (lv_at hl 1 rfl) ?_
    refine lv_goto (tgt := 18) hx hb d_Mo_termOf_7 (by decide) ?_
    exact W.iret (v := nI k) hx hb hr (fun t ht hW => ⟨⟨nI k, (), rfl, congrArg nI hu2.symm, trivial⟩, hS.F ht⟩) hS.2.2 d_Mo_termOf_18

set_option maxHeartbeats 4000000 in
set_option maxRecDepth 100000 in
theorem c_Mo_given (l : Launch) (dC : Nat → ClassId) (dI : Nat → Nat → Nat) (dA dZ : ClassId) (m0 aS aO aR aC aH aA aL aB scn gr mn r : Nat) (kn lg : Bool) (lvx : Int32) (x y z : Nat) (ds : List Nat) (hr0 : r < 21) (h1 : rt_term (rq_given.getD (3 * r) 0) ds = some x) (h2 : rt_term (rq_given.getD (3 * r + 1) 0) ds = some y) (h3 : rt_term (rq_given.getD (3 * r + 2) 0) ds = some z) : Met l y_Mo_given (w_ y_Mo_given b_Mo_given 2 (some .int)) (rm_ 2) (va_Pc [.ref m0] (fun U => va_K (dC, dI) classes [(dA, .int), (dZ, .boolean)] U ∧ va_P (dC, dI) classes [(m0, .inr (4, [.ref aS, .int (nI scn), .ref aO, .int (rb_z kn), .int (rb_z lg), .int (nI gr), .ref aR, .ref aC, .ref aH, .int (nI mn), .ref aA, .ref aL, .ref aB, .int lvx, .int (nI r)])), (aL, .inl (dA, 48, .inl (rlf ds)))] U.heap)) (va_Qi (fun (z9 : Int32) (_ : Unit) => z9 = nI (rx_code x y z)) (fun _ _ => True) (fun _ => False)) 0 0 (fun _ => False) := by
  refine Met.ofW (cc := b_Mo_given) (maxL := 2) (ret := (some .int)) (by decide) rfl ?_
  intro p e s m args below meth c s₁ B hml hv
  obtain ⟨rfl, hK, hP⟩ := hv
  have hx := B.exec
  have hb := B.bytes
  have hr := B.returns
  have hts := atoms_spec (ws := (w_ y_Mo_given b_Mo_given 2 (some .int))) B.pre
  have hown : s.vm.findClass R_Mo = some m.cls := findClass_of_methodNamed B.named
  have hlocks := B.notSynchronized
  have hS : va_S (fun _ => False) s.heap s.heap [] := va_S.rf
  have hl := lv_entry ([.ref m0]) (n := 2) (Nat.le_of_ble_eq_true rfl)
  rw [lg_entry_eq]
  generalize (lg_sl ([.ref m0]) ++ List.replicate (2 - (lg_sl ([.ref m0])).length) Slot.unset).toArray = ls at hl ⊢
  have hl : lv_has ls 2 [(0, .ref m0)] := hl
  refine lv_iconst (v := nI 5) hx hb d_Mo_given_0 (by decide) ?_
  refine lv_aload_n hx hb d_Mo_given_1 rfl (lv_at hl 0 rfl) ?_
  refine va_get (D := (dC, dI)) (ci := 4) (v := .int (nI r)) (C := R_Mo) (T := F_Mo) (N := 15) hx hb hts (rg_c i_Mo) hown hK hP 0 rfl rfl 14 (by decide) (hts _ (List.mem_cons_of_mem _ m_381)) (fun _ h9 => h9) rfl d_Mo_given_2 ?_
  refine rv_imul hx hb d_Mo_given_5 ?_
  refine lv_iconst (v := nI 4) hx hb d_Mo_given_6 (by decide) ?_
  refine rv_iadd hx hb d_Mo_given_7 ?_
  refine rv_calli (r := rp_tab.getD ((5 * r) + 4) (-1)) (va_runS (As := [.int (nI ((5 * r) + 4))]) (rest := []) ⟨hx, hb, hml, hown, hts⟩ (c_Mo_pattern l ((5 * r) + 4) (by omega)) (va_cwS 1 hts (rg_S (rg3 m_458 m_459 m_6) k_Mo_pattern) rfl rfl rfl (by decide +kernel) ⟨Nat.le_of_ble_eq_true rfl, Nat.le_of_ble_eq_true rfl⟩) ⟨fun _ _ _ _ q => q, fun U hU hW => ⟨rfl, trivial⟩⟩ rfl rfl hl.1 rfl (lv_room (Nat.le_of_ble_eq_true rfl)) d_Mo_given_8 ⟨Nat.zero_le _, Nat.zero_le _⟩) hS (fun _ h => h.elim) (fun H locs hk hS => ?_)
  have hP := rv_kept hP hk
  obtain ⟨k0, ek0⟩ : ∃ y, y = rq_given.getD (3 * r) 0 := ⟨_, rfl⟩
  have hk0 : k0 < 42 := by rw [ek0]; exact rq_given_lt _
  obtain ⟨k1, ek1⟩ : ∃ y, y = rq_given.getD (3 * r + 1) 0 := ⟨_, rfl⟩
  have hk1 : k1 < 42 := by rw [ek1]; exact rq_given_lt _
  obtain ⟨k2, ek2⟩ : ∃ y, y = rq_given.getD (3 * r + 2) 0 := ⟨_, rfl⟩
  have hk2 : k2 < 42 := by rw [ek2]; exact rq_given_lt _
  refine rv_eq (y := nI (4096 * k0 + 64 * k1 + k2)) (by rw [rp_given r hr0, ek0, ek1, ek2]) ?_
  rw [← ek0] at h1
  rw [← ek1] at h2
  rw [← ek2] at h3
  refine lv_istore_n (lv' := [(1, .int (nI (4096 * k0 + 64 * k1 + k2))), (0, .ref m0)]) hx hb d_Mo_given_11 rfl hl (by decide) rfl (fun ls hl => ?_)
  refine lv_aload_n hx hb d_Mo_given_12 rfl (lv_at hl 1 rfl) ?_
  refine lv_iload_n hx hb d_Mo_given_13 rfl (lv_at hl 0 rfl) ?_
  refine lv_sipush (v := nI 4096) hx hb d_Mo_given_14 (by decide) ?_
  refine rv_idiv hx hb d_Mo_given_17 (by omega) (by omega) (by omega) ?_
  refine rv_eq (y := nI k0) (congrArg nI (by omega)) ?_
  refine rv_calli (r := nI x) (va_runV (As := [.int (nI k0)]) (rest := []) ⟨hx, hb, hml, hown, hts⟩ (c_Mo_termOf l dC dI dA dZ m0 aS aO aR aC aH aA aL aB scn gr mn r kn lg lvx k0 x ds (hk0) (h1)) (cwV 1 hts (rg_V (rg4 m_523 m_525 s_13 m_6) k_Mo_termOf) rfl rfl rfl (by decide +kernel) ⟨Nat.le_of_ble_eq_true rfl, Nat.le_of_ble_eq_true rfl⟩) ⟨fun a U g mk q => ⟨q.1, va_K.moved (u := U) (U := U.calling g mk a) (Vm.Alike.refl U.vm) q.2.1, q.2.2⟩, va_recv hK hP (ci := 4) (q0 := 0) rfl rfl, fun U hU hW => ⟨rfl, va_K.moved hW.alike hK, by rw [hU]; exact hP.sub (ws' := [(m0, .inr (4, [.ref aS, .int (nI scn), .ref aO, .int (rb_z kn), .int (rb_z lg), .int (nI gr), .ref aR, .ref aC, .ref aH, .int (nI mn), .ref aA, .ref aL, .ref aB, .int lvx, .int (nI r)])), (aL, .inl (dA, 48, .inl (rlf ds)))]) [0, 1] rfl⟩⟩ rfl rfl hl.1 rfl (lv_room (Nat.le_of_ble_eq_true rfl)) d_Mo_given_18 ⟨Nat.zero_le _, Nat.zero_le _⟩) hS (fun _ h => h.elim) (fun H locs hk hS => ?_)
  have hP := rv_kept hP hk
  refine lv_aload_n hx hb d_Mo_given_21 rfl (lv_at hl 1 rfl) ?_
  refine lv_iload_n hx hb d_Mo_given_22 rfl (lv_at hl 0 rfl) ?_
  refine lv_bipush (v := nI 64) hx hb d_Mo_given_23 (by decide) ?_
  refine rv_idiv hx hb d_Mo_given_25 (by omega) (by omega) (by omega) ?_
  refine lv_bipush (v := nI 64) hx hb d_Mo_given_26 (by decide) ?_
  refine rv_irem hx hb d_Mo_given_28 (by omega) (by omega) (by omega) ?_
  refine rv_eq (y := nI k1) (congrArg nI (by omega)) ?_
  refine rv_calli (r := nI y) (va_runV (As := [.int (nI k1)]) (rest := [.int (nI x)]) ⟨hx, hb, hml, hown, hts⟩ (c_Mo_termOf l dC dI dA dZ m0 aS aO aR aC aH aA aL aB scn gr mn r kn lg lvx k1 y ds (hk1) (h2)) (cwV 1 hts (rg_V (rg4 m_523 m_525 s_13 m_6) k_Mo_termOf) rfl rfl rfl (by decide +kernel) ⟨Nat.le_of_ble_eq_true rfl, Nat.le_of_ble_eq_true rfl⟩) ⟨fun a U g mk q => ⟨q.1, va_K.moved (u := U) (U := U.calling g mk a) (Vm.Alike.refl U.vm) q.2.1, q.2.2⟩, va_recv hK hP (ci := 4) (q0 := 0) rfl rfl, fun U hU hW => ⟨rfl, va_K.moved hW.alike hK, by rw [hU]; exact hP.sub (ws' := [(m0, .inr (4, [.ref aS, .int (nI scn), .ref aO, .int (rb_z kn), .int (rb_z lg), .int (nI gr), .ref aR, .ref aC, .ref aH, .int (nI mn), .ref aA, .ref aL, .ref aB, .int lvx, .int (nI r)])), (aL, .inl (dA, 48, .inl (rlf ds)))]) [0, 1] rfl⟩⟩ rfl rfl hl.1 rfl (lv_room (Nat.le_of_ble_eq_true rfl)) d_Mo_given_29 ⟨Nat.zero_le _, Nat.zero_le _⟩) hS (fun _ h => h.elim) (fun H locs hk hS => ?_)
  have hP := rv_kept hP hk
  refine lv_aload_n hx hb d_Mo_given_32 rfl (lv_at hl 1 rfl) ?_
  refine lv_iload_n hx hb d_Mo_given_33 rfl (lv_at hl 0 rfl) ?_
  refine lv_bipush (v := nI 64) hx hb d_Mo_given_34 (by decide) ?_
  refine rv_irem hx hb d_Mo_given_36 (by omega) (by omega) (by omega) ?_
  refine rv_eq (y := nI k2) (congrArg nI (by omega)) ?_
  refine rv_calli (r := nI z) (va_runV (As := [.int (nI k2)]) (rest := [.int (nI y), .int (nI x)]) ⟨hx, hb, hml, hown, hts⟩ (c_Mo_termOf l dC dI dA dZ m0 aS aO aR aC aH aA aL aB scn gr mn r kn lg lvx k2 z ds (hk2) (h3)) (cwV 1 hts (rg_V (rg4 m_523 m_525 s_13 m_6) k_Mo_termOf) rfl rfl rfl (by decide +kernel) ⟨Nat.le_of_ble_eq_true rfl, Nat.le_of_ble_eq_true rfl⟩) ⟨fun a U g mk q => ⟨q.1, va_K.moved (u := U) (U := U.calling g mk a) (Vm.Alike.refl U.vm) q.2.1, q.2.2⟩, va_recv hK hP (ci := 4) (q0 := 0) rfl rfl, fun U hU hW => ⟨rfl, va_K.moved hW.alike hK, by rw [hU]; exact hP.sub (ws' := [(m0, .inr (4, [.ref aS, .int (nI scn), .ref aO, .int (rb_z kn), .int (rb_z lg), .int (nI gr), .ref aR, .ref aC, .ref aH, .int (nI mn), .ref aA, .ref aL, .ref aB, .int lvx, .int (nI r)])), (aL, .inl (dA, 48, .inl (rlf ds)))]) [0, 1] rfl⟩⟩ rfl rfl hl.1 rfl (lv_room (Nat.le_of_ble_eq_true rfl)) d_Mo_given_37 ⟨Nat.zero_le _, Nat.zero_le _⟩) hS (fun _ h => h.elim) (fun H locs hk hS => ?_)
  have hP := rv_kept hP hk
  refine rv_calli (r := nI (rx_code x y z)) (va_runS (As := [.int (nI x), .int (nI y), .int (nI z)]) (rest := []) ⟨hx, hb, hml, hown, hts⟩ (c_Mo_codeOf l x y z) (va_cwS 3 hts (rg_S (rg3 m_424 m_425 m_6) k_Mo_codeOf) rfl rfl rfl (by decide +kernel) ⟨Nat.le_of_ble_eq_true rfl, Nat.le_of_ble_eq_true rfl⟩) ⟨fun _ _ _ _ q => q, fun U hU hW => ⟨rfl, trivial⟩⟩ rfl rfl hl.1 rfl (lv_room (Nat.le_of_ble_eq_true rfl)) d_Mo_given_40 ⟨Nat.zero_le _, Nat.zero_le _⟩) hS (fun _ h => h.elim) (fun H locs hk hS => ?_)
  have hP := rv_kept hP hk
  exact W.iret (v := nI (rx_code x y z)) hx hb hr (fun t ht hW => ⟨⟨nI (rx_code x y z), (), rfl, rfl, trivial⟩, hS.F ht⟩) hS.2.2 d_Mo_given_43

/-- the places of what holds, going up, no more than 401 -/
def mc_ (rn : Nat → Nat) : Nat → Nat → (Nat → Nat) × Nat → (Nat → Nat) × Nat
  | 0, _, x => x
  | n + 1, c, x => if x.2 ≤ 400 then mc_ rn n (c + 1) (if 0 < rn c then (ua x.1 x.2 c, x.2 + 1) else x) else x

set_option maxHeartbeats 4000000 in
set_option maxRecDepth 100000 in
theorem c_Mo_collect (l : Launch) (dC : Nat → ClassId) (dI : Nat → Nat → Nat) (dA dZ : ClassId) (m0 aS aO aR aC aH aA aL aB scn gr mn r : Nat) (kn lg : Bool) (lvx : Int32) (rn hq9 : Nat → Nat) (sz : Nat) (hrn : ∀ j, rn j < 2 ^ 31) : Met l y_Mo_collect (w_ y_Mo_collect b_Mo_collect 2 none) (rm_ 0) (va_Pc [.ref m0] (fun U => U.heap.size = sz ∧ va_P (dC, dI) classes [(m0, .inr (4, [.ref aS, .int (nI scn), .ref aO, .int (rb_z kn), .int (rb_z lg), .int (nI gr), .ref aR, .ref aC, .ref aH, .int (nI mn), .ref aA, .ref aL, .ref aB, .int lvx, .int (nI r)])), (aR, .inl (dA, 32768, .inl (rnf rn))), (aH, .inl (dA, 401, .inl (rnf hq9)))] U.heap ∧ va_K (dC, dI) classes [(dA, .int), (dZ, .boolean)] U ∧ va_D (fun _ => True) [(m0, .inr (4, [.ref aS, .int (nI scn), .ref aO, .int (rb_z kn), .int (rb_z lg), .int (nI gr), .ref aR, .ref aC, .ref aH, .int (nI mn), .ref aA, .ref aL, .ref aB, .int lvx, .int (nI r)])), (aR, .inl (dA, 32768, .inl (rnf rn))), (aH, .inl (dA, 401, .inl (rnf hq9)))])) (va_Qv (fun (_ : Unit) => True) (fun (_ : Unit) t => va_P (dC, dI) classes [(m0, .inr (4, [.ref aS, .int (nI scn), .ref aO, .int (rb_z kn), .int (rb_z lg), .int (nI gr), .ref aR, .ref aC, .ref aH, .int (nI ((mc_ rn 32768 0 (hq9, 0)).2)), .ref aA, .ref aL, .ref aB, .int lvx, .int (nI r)])), (aR, .inl (dA, 32768, .inl (rnf rn))), (aH, .inl (dA, 401, .inl (rnf ((mc_ rn 32768 0 (hq9, 0)).1))))] t.heap ∧ va_D (va_A [(m0, .inr (4, [.ref aS, .int (nI scn), .ref aO, .int (rb_z kn), .int (rb_z lg), .int (nI gr), .ref aR, .ref aC, .ref aH, .int (nI mn), .ref aA, .ref aL, .ref aB, .int lvx, .int (nI r)])), (aR, .inl (dA, 32768, .inl (rnf rn))), (aH, .inl (dA, 401, .inl (rnf hq9)))] sz) [(m0, .inr (4, [.ref aS, .int (nI scn), .ref aO, .int (rb_z kn), .int (rb_z lg), .int (nI gr), .ref aR, .ref aC, .ref aH, .int (nI ((mc_ rn 32768 0 (hq9, 0)).2)), .ref aA, .ref aL, .ref aB, .int lvx, .int (nI r)])), (aR, .inl (dA, 32768, .inl (rnf rn))), (aH, .inl (dA, 401, .inl (rnf ((mc_ rn 32768 0 (hq9, 0)).1))))]) (va_A [(m0, .inr (4, [.ref aS, .int (nI scn), .ref aO, .int (rb_z kn), .int (rb_z lg), .int (nI gr), .ref aR, .ref aC, .ref aH, .int (nI mn), .ref aA, .ref aL, .ref aB, .int lvx, .int (nI r)])), (aR, .inl (dA, 32768, .inl (rnf rn))), (aH, .inl (dA, 401, .inl (rnf hq9)))] sz)) 0 0 (va_A [(m0, .inr (4, [.ref aS, .int (nI scn), .ref aO, .int (rb_z kn), .int (rb_z lg), .int (nI gr), .ref aR, .ref aC, .ref aH, .int (nI mn), .ref aA, .ref aL, .ref aB, .int lvx, .int (nI r)])), (aR, .inl (dA, 32768, .inl (rnf rn))), (aH, .inl (dA, 401, .inl (rnf hq9)))] sz) := by
  refine Met.ofW (cc := b_Mo_collect) (maxL := 2) (ret := none) (by decide) rfl ?_
  intro p e s m args below meth c s₁ B hml hv
  obtain ⟨rfl, hsz, hP, hK, hD0⟩ := hv
  have hx := B.exec
  have hb := B.bytes
  have hr := B.returns
  have hts := atoms_spec (ws := (w_ y_Mo_collect b_Mo_collect 2 none)) B.pre
  have hown : s.vm.findClass R_Mo = some m.cls := findClass_of_methodNamed B.named
  have hlocks := B.notSynchronized
  subst hsz
  have hD := hD0.self (sz := s.heap.size)
  generalize hAe : va_A [(m0, .inr (4, [.ref aS, .int (nI scn), .ref aO, .int (rb_z kn), .int (rb_z lg), .int (nI gr), .ref aR, .ref aC, .ref aH, .int (nI mn), .ref aA, .ref aL, .ref aB, .int lvx, .int (nI r)])), (aR, .inl (dA, 32768, .inl (rnf rn))), (aH, .inl (dA, 401, .inl (rnf hq9)))] s.heap.size = A at hD ⊢
  have hA : ∀ q : Nat, s.heap.size ≤ q → A q := fun q h => by rw [← hAe]; exact Or.inr h
  have hS : va_S A s.heap s.heap [] := va_S.rf
  have hl := lv_entry ([.ref m0]) (n := 2) (Nat.le_of_ble_eq_true rfl)
  rw [lg_entry_eq]
  generalize (lg_sl ([.ref m0]) ++ List.replicate (2 - (lg_sl ([.ref m0])).length) Slot.unset).toArray = ls at hl ⊢
  have hl : lv_has ls 2 [(0, .ref m0)] := hl
  refine lv_aload_n hx hb d_Mo_collect_0 rfl (lv_at hl 0 rfl) ?_
  refine lv_iconst (v := nI 0) hx hb d_Mo_collect_1 (by decide) ?_
  refine va_put (D := (dC, dI)) (ci := 4) (v := .int (nI 0)) (ty := .int) (C := R_Mo) (T := F_Mo) (N := 15) hx hb hts (rg_c i_Mo) t_Mo t_Mo_ok n_Mo hown hK hP hD hS 0 rfl rfl 9 (by decide) (hts _ (List.mem_cons_of_mem _ m_376)) (fun _ h9 => h9) rfl (by decide +kernel) (by rfl) (by rfl) (Nat.le_of_ble_eq_true rfl) d_Mo_collect_2 (fun H locs hP hD hS => ?_)
  have hP : va_P (dC, dI) classes [(m0, .inr (4, [.ref aS, .int (nI scn), .ref aO, .int (rb_z kn), .int (rb_z lg), .int (nI gr), .ref aR, .ref aC, .ref aH, .int (nI 0), .ref aA, .ref aL, .ref aB, .int lvx, .int (nI r)])), (aR, .inl (dA, 32768, .inl (rnf rn))), (aH, .inl (dA, 401, .inl (rnf hq9)))] H := hP
  have hD : va_D A [(m0, .inr (4, [.ref aS, .int (nI scn), .ref aO, .int (rb_z kn), .int (rb_z lg), .int (nI gr), .ref aR, .ref aC, .ref aH, .int (nI 0), .ref aA, .ref aL, .ref aB, .int lvx, .int (nI r)])), (aR, .inl (dA, 32768, .inl (rnf rn))), (aH, .inl (dA, 401, .inl (rnf hq9)))] := hD
  refine lv_iconst (v := nI 0) hx hb d_Mo_collect_5 (by decide) ?_
  refine lv_istore_n (lv' := [(1, .int (nI 0)), (0, .ref m0)]) hx hb d_Mo_collect_6 rfl hl (by decide) rfl (fun ls hl => ?_)
  obtain ⟨RES, hRES⟩ : ∃ R, R = mc_ rn 32768 0 (hq9, 0) := ⟨_, rfl⟩
  rw [← hRES]
  have hP : va_P (dC, dI) classes [(m0, .inr (4, [.ref aS, .int (nI scn), .ref aO, .int (rb_z kn), .int (rb_z lg), .int (nI gr), .ref aR, .ref aC, .ref aH, .int (nI (((hq9, 0) : (Nat → Nat) × Nat).2)), .ref aA, .ref aL, .ref aB, .int lvx, .int (nI r)])), (aR, .inl (dA, 32768, .inl (rnf rn))), (aH, .inl (dA, 401, .inl (rnf (((hq9, 0) : (Nat → Nat) × Nat).1))))] H := hP
  have hD : va_D A [(m0, .inr (4, [.ref aS, .int (nI scn), .ref aO, .int (rb_z kn), .int (rb_z lg), .int (nI gr), .ref aR, .ref aC, .ref aH, .int (nI (((hq9, 0) : (Nat → Nat) × Nat).2)), .ref aA, .ref aL, .ref aB, .int lvx, .int (nI r)])), (aR, .inl (dA, 32768, .inl (rnf rn))), (aH, .inl (dA, 401, .inl (rnf (((hq9, 0) : (Nat → Nat) × Nat).1))))] := hD
  refine rv_Q (fun Q hQ => ?_)
  have lp : ∀ (n : Nat) (c1 : Nat) (x : (Nat → Nat) × Nat) (H : Heap) (locs : List Loc) (ls : Array Slot), c1 + n = 32768 → x.2 ≤ 401 → (∀ j, rn j < 2 ^ 31) → mc_ rn n c1 x = RES → va_P (dC, dI) classes [(m0, .inr (4, [.ref aS, .int (nI scn), .ref aO, .int (rb_z kn), .int (rb_z lg), .int (nI gr), .ref aR, .ref aC, .ref aH, .int (nI x.2), .ref aA, .ref aL, .ref aB, .int lvx, .int (nI r)])), (aR, .inl (dA, 32768, .inl (rnf rn))), (aH, .inl (dA, 401, .inl (rnf x.1)))] H → va_D A [(m0, .inr (4, [.ref aS, .int (nI scn), .ref aO, .int (rb_z kn), .int (rb_z lg), .int (nI gr), .ref aR, .ref aC, .ref aH, .int (nI x.2), .ref aA, .ref aL, .ref aB, .int lvx, .int (nI r)])), (aR, .inl (dA, 32768, .inl (rnf rn))), (aH, .inl (dA, 401, .inl (rnf x.1)))] → va_S A s.heap H locs → lv_has ls 2 [(1, .int (nI c1)), (0, .ref m0)] → W p l e (headSpec (w_ y_Mo_collect b_Mo_collect 2 none) (rm_ 0)).room s m ([.ref m0] : List Value).toArray below meth c H locs 0 0 Q (F0 m 7 ls []) := by
    intro n
    induction n with
    | zero =>
      intro c1 x H locs ls hn hx1 hrn hR hP hD hS hl
      refine lv_iload_n hx hb d_Mo_collect_7 rfl (lv_at hl 0 rfl) ?_
      refine lv_ldc (v := nI 32768) hx hb hown (hts _ (List.mem_cons_of_mem _ m_366)) d_Mo_collect_8 ?_
      refine rv_icmp_ge (tgt := 58) hx hb d_Mo_collect_10 (by decide) (by omega) (by omega) (fun c_10 => ?_) (fun c_10 => absurd c_10 (by omega))
      subst hQ
      exact W.vret hx hb hr (fun t ht hW => ⟨⟨(), rfl, trivial, by rw [ht]; rw [← hR]; exact hP, by rw [← hR]; exact hD⟩, hS.F ht⟩) hS.2.2 d_Mo_collect_58
    | succ n ih =>
      intro c1 x H locs ls hn hx1 hrn hR hP hD hS hl
      have hrc := hrn c1
      refine lv_iload_n hx hb d_Mo_collect_7 rfl (lv_at hl 0 rfl) ?_
      refine lv_ldc (v := nI 32768) hx hb hown (hts _ (List.mem_cons_of_mem _ m_366)) d_Mo_collect_8 ?_
      refine rv_icmp_ge (tgt := 58) hx hb d_Mo_collect_10 (by decide) (by omega) (by omega) (fun c_10 => absurd c_10 (by omega)) (fun c_10 => ?_)
      refine lv_aload_n hx hb d_Mo_collect_13 rfl (lv_at hl 1 rfl) ?_
      refine va_get (D := (dC, dI)) (ci := 4) (v := .int (nI x.2)) (C := R_Mo) (T := F_Mo) (N := 15) hx hb hts (rg_c i_Mo) hown hK hP 0 rfl rfl 9 (by decide) (hts _ (List.mem_cons_of_mem _ m_376)) (fun _ h9 => h9) rfl d_Mo_collect_14 ?_
      refine lv_sipush (v := nI 400) hx hb d_Mo_collect_17 (by decide) ?_
      refine rv_icmp_gt (tgt := 58) hx hb d_Mo_collect_20 (by decide) (by omega) (by omega) (fun c_20 => ?_) (fun c_20 => ?_)
      · have hE : x = RES := by rw [← hR]; exact (if_neg (show ¬ x.2 ≤ 400 by omega)).symm
        subst hQ
        exact W.vret hx hb hr (fun t ht hW => ⟨⟨(), rfl, trivial, by rw [ht]; rw [← hE]; exact hP, by rw [← hE]; exact hD⟩, hS.F ht⟩) hS.2.2 d_Mo_collect_58
      · have hR2 : mc_ rn n (c1 + 1) (if 0 < rn c1 then (ua x.1 x.2 c1, x.2 + 1) else x) = RES := by rw [← hR]; exact (if_pos (show x.2 ≤ 400 by omega)).symm
        refine lv_aload_n hx hb d_Mo_collect_23 rfl (lv_at hl 1 rfl) ?_
        refine va_get (D := (dC, dI)) (ci := 4) (v := .ref aR) (C := R_Mo) (T := F_Mo) (N := 15) hx hb hts (rg_c i_Mo) hown hK hP 0 rfl rfl 6 (by decide) (hts _ (List.mem_cons_of_mem _ m_373)) (fun _ h9 => h9) rfl d_Mo_collect_24 ?_
        refine lv_iload_n hx hb d_Mo_collect_27 rfl (lv_at hl 0 rfl) ?_
        refine rm_nld (k := c1) hx hb hK hP 1 0 rfl rfl (by omega) (by decide) d_Mo_collect_28 ?_
        refine rv_if_le (tgt := 52) hx hb d_Mo_collect_29 (by decide) (by omega) (fun c_29 => ?_) (fun c_29 => ?_)
        · rw [if_neg (by omega)] at hR2
          refine rv_inc (k := 0) (lv' := [(1, .int (nI (c1 + 1))), (0, .ref m0)]) hx hb d_Mo_collect_52 hl rfl (by decide) rfl (fun ls hl => ?_)
          refine lv_goto (tgt := 7) hx hb d_Mo_collect_55 (by decide) ?_
          exact ih (c1 + 1) x _ _ _ (by omega) (by omega) (hrn) (hR2) hP hD hS (lv_sub hl [0, 1] rfl)
        · rw [if_pos (by omega)] at hR2
          refine lv_aload_n hx hb d_Mo_collect_32 rfl (lv_at hl 1 rfl) ?_
          refine va_get (D := (dC, dI)) (ci := 4) (v := .ref aH) (C := R_Mo) (T := F_Mo) (N := 15) hx hb hts (rg_c i_Mo) hown hK hP 0 rfl rfl 8 (by decide) (hts _ (List.mem_cons_of_mem _ m_375)) (fun _ h9 => h9) rfl d_Mo_collect_33 ?_
          refine lv_aload_n hx hb d_Mo_collect_36 rfl (lv_at hl 1 rfl) ?_
          refine va_get (D := (dC, dI)) (ci := 4) (v := .int (nI x.2)) (C := R_Mo) (T := F_Mo) (N := 15) hx hb hts (rg_c i_Mo) hown hK hP 0 rfl rfl 9 (by decide) (hts _ (List.mem_cons_of_mem _ m_376)) (fun _ h9 => h9) rfl d_Mo_collect_37 ?_
          refine lv_iload_n hx hb d_Mo_collect_40 rfl (lv_at hl 0 rfl) ?_
          refine rm_nst (k := x.2) (v := c1) hx hb hK hP hD hS 2 0 rfl rfl (by omega) (by decide) d_Mo_collect_41 (fun H locs hP hD hS => ?_)
          have hP : va_P (dC, dI) classes [(m0, .inr (4, [.ref aS, .int (nI scn), .ref aO, .int (rb_z kn), .int (rb_z lg), .int (nI gr), .ref aR, .ref aC, .ref aH, .int (nI x.2), .ref aA, .ref aL, .ref aB, .int lvx, .int (nI r)])), (aR, .inl (dA, 32768, .inl (rnf rn))), (aH, .inl (dA, 401, .inl (rnf (ua x.1 x.2 c1))))] H := hP
          have hD : va_D A [(m0, .inr (4, [.ref aS, .int (nI scn), .ref aO, .int (rb_z kn), .int (rb_z lg), .int (nI gr), .ref aR, .ref aC, .ref aH, .int (nI x.2), .ref aA, .ref aL, .ref aB, .int lvx, .int (nI r)])), (aR, .inl (dA, 32768, .inl (rnf rn))), (aH, .inl (dA, 401, .inl (rnf (ua x.1 x.2 c1))))] := hD
          refine lv_aload_n hx hb d_Mo_collect_42 rfl (lv_at hl 1 rfl) ?_
          refine lv_dup hx hb d_Mo_collect_43 rfl ?_
          refine va_get (D := (dC, dI)) (ci := 4) (v := .int (nI x.2)) (C := R_Mo) (T := F_Mo) (N := 15) hx hb hts (rg_c i_Mo) hown hK hP 0 rfl rfl 9 (by decide) (hts _ (List.mem_cons_of_mem _ m_376)) (fun _ h9 => h9) rfl d_Mo_collect_44 ?_
          refine lv_iconst (v := nI 1) hx hb d_Mo_collect_47 (by decide) ?_
          refine rv_iadd hx hb d_Mo_collect_48 ?_
          refine va_put (D := (dC, dI)) (ci := 4) (v := .int (nI (x.2 + 1))) (ty := .int) (C := R_Mo) (T := F_Mo) (N := 15) hx hb hts (rg_c i_Mo) t_Mo t_Mo_ok n_Mo hown hK hP hD hS 0 rfl rfl 9 (by decide) (hts _ (List.mem_cons_of_mem _ m_376)) (fun _ h9 => h9) rfl (by decide +kernel) (by rfl) (by rfl) (Nat.le_of_ble_eq_true rfl) d_Mo_collect_49 (fun H locs hP hD hS => ?_)
          have hP : va_P (dC, dI) classes [(m0, .inr (4, [.ref aS, .int (nI scn), .ref aO, .int (rb_z kn), .int (rb_z lg), .int (nI gr), .ref aR, .ref aC, .ref aH, .int (nI (x.2 + 1)), .ref aA, .ref aL, .ref aB, .int lvx, .int (nI r)])), (aR, .inl (dA, 32768, .inl (rnf rn))), (aH, .inl (dA, 401, .inl (rnf (ua x.1 x.2 c1))))] H := hP
          have hD : va_D A [(m0, .inr (4, [.ref aS, .int (nI scn), .ref aO, .int (rb_z kn), .int (rb_z lg), .int (nI gr), .ref aR, .ref aC, .ref aH, .int (nI (x.2 + 1)), .ref aA, .ref aL, .ref aB, .int lvx, .int (nI r)])), (aR, .inl (dA, 32768, .inl (rnf rn))), (aH, .inl (dA, 401, .inl (rnf (ua x.1 x.2 c1))))] := hD
          refine rv_inc (k := 0) (lv' := [(1, .int (nI (c1 + 1))), (0, .ref m0)]) hx hb d_Mo_collect_52 hl rfl (by decide) rfl (fun ls hl => ?_)
          refine lv_goto (tgt := 7) hx hb d_Mo_collect_55 (by decide) ?_
          have hP : va_P (dC, dI) classes [(m0, .inr (4, [.ref aS, .int (nI scn), .ref aO, .int (rb_z kn), .int (rb_z lg), .int (nI gr), .ref aR, .ref aC, .ref aH, .int (nI (((ua x.1 x.2 c1, x.2 + 1) : (Nat → Nat) × Nat).2)), .ref aA, .ref aL, .ref aB, .int lvx, .int (nI r)])), (aR, .inl (dA, 32768, .inl (rnf rn))), (aH, .inl (dA, 401, .inl (rnf (((ua x.1 x.2 c1, x.2 + 1) : (Nat → Nat) × Nat).1))))] H := hP
          have hD : va_D A [(m0, .inr (4, [.ref aS, .int (nI scn), .ref aO, .int (rb_z kn), .int (rb_z lg), .int (nI gr), .ref aR, .ref aC, .ref aH, .int (nI (((ua x.1 x.2 c1, x.2 + 1) : (Nat → Nat) × Nat).2)), .ref aA, .ref aL, .ref aB, .int lvx, .int (nI r)])), (aR, .inl (dA, 32768, .inl (rnf rn))), (aH, .inl (dA, 401, .inl (rnf (((ua x.1 x.2 c1, x.2 + 1) : (Nat → Nat) × Nat).1))))] := hD
          exact ih (c1 + 1) (ua x.1 x.2 c1, x.2 + 1) _ _ _ (by omega) (by show x.2 + 1 ≤ 401; omega) (hrn) (hR2) hP hD hS (lv_sub hl [0, 1] rfl)
  exact lp 32768 0 (hq9, 0) _ _ _ (by omega) (Nat.zero_le _) (hrn) (hRES.symm) hP hD hS (lv_sub hl [0, 1] rfl)
