/-! the constructors -/
abbrev rmn_ (d c n : Nat) : Room := { frames := d, cells := c, slots := n, locals := 64 * d }
theorem rv_cA_int {D : va_G} {cl : List vw_C} {tys tys2 : List (ClassId × FieldType)} {s : State} {cA dA : ClassId} (h1 : va_K D cl tys s) (h2 : va_K D cl tys2 s) (i j : Nat) (e1 : tys[i]? = some (dA, .int)) (e2 : tys2[j]? = some (cA, .int)) : cA = dA := by
  have a := va_nm_int (h1.2 i _ e1).2
  have b := va_nm_int (h2.2 j _ e2).2
  rw [a] at b
  exact (Option.some.inj b).symm
theorem rv_cA_boolean {D : va_G} {cl : List vw_C} {tys tys2 : List (ClassId × FieldType)} {s : State} {cA dA : ClassId} (h1 : va_K D cl tys s) (h2 : va_K D cl tys2 s) (i j : Nat) (e1 : tys[i]? = some (dA, .boolean)) (e2 : tys2[j]? = some (cA, .boolean)) : cA = dA := by
  have a := va_nm_boolean (h1.2 i _ e1).2
  have b := va_nm_boolean (h2.2 j _ e2).2
  rw [a] at b
  exact (Option.some.inj b).symm
theorem rf_letters : ∀ j, j < 48 → (fun _ => nI 0 : Nat → Int32) j = rlf rt_free j := by decide +kernel

set_option maxHeartbeats 4000000 in
set_option maxRecDepth 100000 in
theorem c_Tr_init (l : Launch) (dC : Nat → ClassId) (dI : Nat → Nat → Nat) (dA : ClassId) (h0 : Nat) (sz : Nat) : Met l y_Tr_init (w_ y_Tr_init b_Tr_init 1 none) (rmn_ 1 3 1088) (va_Pc [.ref h0] (fun U => U.heap.size = sz ∧ va_P (dC, dI) classes [(h0, .inr (1, [.null, .null, .null, .int (nI 0)]))] U.heap ∧ va_K (dC, dI) classes [(dA, .int)] U ∧ va_D (fun _ => True) [(h0, .inr (1, [.null, .null, .null, .int (nI 0)]))])) (va_Qv (fun (_ : Unit) => True) (fun (_ : Unit) t => ∃ q1 q2 q3 : Nat, va_P (dC, dI) classes [(h0, .inr (1, [.ref q1, .ref q2, .ref q3, .int (nI 0)])), (q1, .inl (dA, 1024, .inl (fun _ => nI 0))), (q2, .inl (dA, 32, .inl (fun _ => nI 0))), (q3, .inl (dA, 32, .inl (fun _ => nI 0)))] t.heap ∧ va_D (va_A [(h0, .inr (1, [.null, .null, .null, .int (nI 0)]))] sz) [(h0, .inr (1, [.ref q1, .ref q2, .ref q3, .int (nI 0)])), (q1, .inl (dA, 1024, .inl (fun _ => nI 0))), (q2, .inl (dA, 32, .inl (fun _ => nI 0))), (q3, .inl (dA, 32, .inl (fun _ => nI 0)))]) (va_A [(h0, .inr (1, [.null, .null, .null, .int (nI 0)]))] sz)) 3 1088 (va_A [(h0, .inr (1, [.null, .null, .null, .int (nI 0)]))] sz) := by
  refine Met.ofW (cc := b_Tr_init) (maxL := 1) (ret := none) (by decide) rfl ?_
  intro p e s m args below meth c s₁ B hml hv
  obtain ⟨rfl, hsz, hP, hK, hD0⟩ := hv
  have hx := B.exec
  have hb := B.bytes
  have hr := B.returns
  have hts := atoms_spec (ws := (w_ y_Tr_init b_Tr_init 1 none)) B.pre
  have hown : s.vm.findClass R_Tr = some m.cls := findClass_of_methodNamed B.named
  have hlocks := B.notSynchronized
  have hin : meth.name = "<init>" := (name_of_methodNamed B.named B.method).1
  subst hsz
  have hD := hD0.self (sz := s.heap.size)
  generalize hAe : va_A [(h0, .inr (1, [.null, .null, .null, .int (nI 0)]))] s.heap.size = A at hD ⊢
  have hA : ∀ q : Nat, s.heap.size ≤ q → A q := fun q h => by rw [← hAe]; exact Or.inr h
  have hS : va_S A s.heap s.heap [] := va_S.rf
  have hl := lv_entry ([.ref h0]) (n := 1) (Nat.le_of_ble_eq_true rfl)
  rw [lg_entry_eq]
  generalize (lg_sl ([.ref h0]) ++ List.replicate (1 - (lg_sl ([.ref h0])).length) Slot.unset).toArray = ls at hl ⊢
  have hl : lv_has ls 1 [(0, .ref h0)] := hl
  refine lv_aload_n hx hb d_Tr_init_0 rfl (lv_at hl 0 rfl) ?_
  refine W.objInit hx hb hown (hts _ (List.mem_cons_of_mem _ m_26)) (hts _ (List.mem_cons_of_mem _ m_18)) (hts _ (List.mem_cons_of_mem _ m_19)) rfl (by rw [hml]; exact hl.1) rfl d_Tr_init_1 (Nat.le_of_ble_eq_true rfl) (Nat.le_of_ble_eq_true rfl) ?_
  refine W.eq (g2 := F0 m 4 ls []) rfl ?_
  refine lv_aload_n hx hb d_Tr_init_4 rfl (lv_at hl 0 rfl) ?_
  refine lv_sipush (v := nI 1024) hx hb d_Tr_init_5 (by decide) ?_
  refine va_newa (atype := .int) (ty := .int) (a0 := (1024, .inl (fun _ => nI 0))) hx hb (hts _ (List.mem_cons_of_mem _ m_40)) rfl hK hP hD hS hA (fun _ => rfl) (nI_pos (by decide)) (nI_clamp (by decide)) (by decide) (Nat.le_of_ble_eq_true rfl) (Nat.le_of_ble_eq_true rfl) d_Tr_init_8 (fun q1 cA H hK2 hP hD hS => ?_)
  have hcA : cA = dA := rv_cA_int hK hK2 0 1 rfl rfl
  rw [hcA] at hP hD
  clear hK2 hcA
  have hP : va_P (dC, dI) classes [(h0, .inr (1, [.null, .null, .null, .int (nI 0)])), (q1, .inl (dA, 1024, .inl (fun _ => nI 0)))] H := hP
  have hD : va_D A [(h0, .inr (1, [.null, .null, .null, .int (nI 0)])), (q1, .inl (dA, 1024, .inl (fun _ => nI 0)))] := hD
  refine va_putF (D := (dC, dI)) (ci := 1) (v := .ref q1) (ty := (.array .int)) (C := R_Tr) (T := F_Tr) (N := 4) hx hb hts (rg_c i_Tr) t_Tr t_Tr_ok n_Tr hown hK hP hD hS 0 rfl rfl 0 (by decide) (hts _ (List.mem_cons_of_mem _ m_27)) (fun _ h9 => h9) rfl hin rfl (by decide +kernel) (by rfl) (by rfl) (Nat.le_of_ble_eq_true rfl) d_Tr_init_10 (fun H locs hP hD hS => ?_)
  have hP : va_P (dC, dI) classes [(h0, .inr (1, [.ref q1, .null, .null, .int (nI 0)])), (q1, .inl (dA, 1024, .inl (fun _ => nI 0)))] H := hP
  have hD : va_D A [(h0, .inr (1, [.ref q1, .null, .null, .int (nI 0)])), (q1, .inl (dA, 1024, .inl (fun _ => nI 0)))] := hD
  refine lv_aload_n hx hb d_Tr_init_13 rfl (lv_at hl 0 rfl) ?_
  refine lv_bipush (v := nI 32) hx hb d_Tr_init_14 (by decide) ?_
  refine va_newa (atype := .int) (ty := .int) (a0 := (32, .inl (fun _ => nI 0))) hx hb (hts _ (List.mem_cons_of_mem _ m_40)) rfl hK hP hD hS hA (fun _ => rfl) (nI_pos (by decide)) (nI_clamp (by decide)) (by decide) (Nat.le_of_ble_eq_true rfl) (Nat.le_of_ble_eq_true rfl) d_Tr_init_16 (fun q2 cA H hK2 hP hD hS => ?_)
  have hcA : cA = dA := rv_cA_int hK hK2 0 1 rfl rfl
  rw [hcA] at hP hD
  clear hK2 hcA
  have hP : va_P (dC, dI) classes [(h0, .inr (1, [.ref q1, .null, .null, .int (nI 0)])), (q1, .inl (dA, 1024, .inl (fun _ => nI 0))), (q2, .inl (dA, 32, .inl (fun _ => nI 0)))] H := hP
  have hD : va_D A [(h0, .inr (1, [.ref q1, .null, .null, .int (nI 0)])), (q1, .inl (dA, 1024, .inl (fun _ => nI 0))), (q2, .inl (dA, 32, .inl (fun _ => nI 0)))] := hD
  refine va_putF (D := (dC, dI)) (ci := 1) (v := .ref q2) (ty := (.array .int)) (C := R_Tr) (T := F_Tr) (N := 4) hx hb hts (rg_c i_Tr) t_Tr t_Tr_ok n_Tr hown hK hP hD hS 0 rfl rfl 1 (by decide) (hts _ (List.mem_cons_of_mem _ m_28)) (fun _ h9 => h9) rfl hin rfl (by decide +kernel) (by rfl) (by rfl) (Nat.le_of_ble_eq_true rfl) d_Tr_init_18 (fun H locs hP hD hS => ?_)
  have hP : va_P (dC, dI) classes [(h0, .inr (1, [.ref q1, .ref q2, .null, .int (nI 0)])), (q1, .inl (dA, 1024, .inl (fun _ => nI 0))), (q2, .inl (dA, 32, .inl (fun _ => nI 0)))] H := hP
  have hD : va_D A [(h0, .inr (1, [.ref q1, .ref q2, .null, .int (nI 0)])), (q1, .inl (dA, 1024, .inl (fun _ => nI 0))), (q2, .inl (dA, 32, .inl (fun _ => nI 0)))] := hD
  refine lv_aload_n hx hb d_Tr_init_21 rfl (lv_at hl 0 rfl) ?_
  refine lv_bipush (v := nI 32) hx hb d_Tr_init_22 (by decide) ?_
  refine va_newa (atype := .int) (ty := .int) (a0 := (32, .inl (fun _ => nI 0))) hx hb (hts _ (List.mem_cons_of_mem _ m_40)) rfl hK hP hD hS hA (fun _ => rfl) (nI_pos (by decide)) (nI_clamp (by decide)) (by decide) (Nat.le_of_ble_eq_true rfl) (Nat.le_of_ble_eq_true rfl) d_Tr_init_24 (fun q3 cA H hK2 hP hD hS => ?_)
  have hcA : cA = dA := rv_cA_int hK hK2 0 1 rfl rfl
  rw [hcA] at hP hD
  clear hK2 hcA
  have hP : va_P (dC, dI) classes [(h0, .inr (1, [.ref q1, .ref q2, .null, .int (nI 0)])), (q1, .inl (dA, 1024, .inl (fun _ => nI 0))), (q2, .inl (dA, 32, .inl (fun _ => nI 0))), (q3, .inl (dA, 32, .inl (fun _ => nI 0)))] H := hP
  have hD : va_D A [(h0, .inr (1, [.ref q1, .ref q2, .null, .int (nI 0)])), (q1, .inl (dA, 1024, .inl (fun _ => nI 0))), (q2, .inl (dA, 32, .inl (fun _ => nI 0))), (q3, .inl (dA, 32, .inl (fun _ => nI 0)))] := hD
  refine va_putF (D := (dC, dI)) (ci := 1) (v := .ref q3) (ty := (.array .int)) (C := R_Tr) (T := F_Tr) (N := 4) hx hb hts (rg_c i_Tr) t_Tr t_Tr_ok n_Tr hown hK hP hD hS 0 rfl rfl 2 (by decide) (hts _ (List.mem_cons_of_mem _ m_29)) (fun _ h9 => h9) rfl hin rfl (by decide +kernel) (by rfl) (by rfl) (Nat.le_of_ble_eq_true rfl) d_Tr_init_26 (fun H locs hP hD hS => ?_)
  have hP : va_P (dC, dI) classes [(h0, .inr (1, [.ref q1, .ref q2, .ref q3, .int (nI 0)])), (q1, .inl (dA, 1024, .inl (fun _ => nI 0))), (q2, .inl (dA, 32, .inl (fun _ => nI 0))), (q3, .inl (dA, 32, .inl (fun _ => nI 0)))] H := hP
  have hD : va_D A [(h0, .inr (1, [.ref q1, .ref q2, .ref q3, .int (nI 0)])), (q1, .inl (dA, 1024, .inl (fun _ => nI 0))), (q2, .inl (dA, 32, .inl (fun _ => nI 0))), (q3, .inl (dA, 32, .inl (fun _ => nI 0)))] := hD
  refine lv_aload_n hx hb d_Tr_init_29 rfl (lv_at hl 0 rfl) ?_
  refine lv_iconst (v := nI 0) hx hb d_Tr_init_30 (by decide) ?_
  refine va_put (D := (dC, dI)) (ci := 1) (v := .int (nI 0)) (ty := .int) (C := R_Tr) (T := F_Tr) (N := 4) hx hb hts (rg_c i_Tr) t_Tr t_Tr_ok n_Tr hown hK hP hD hS 0 rfl rfl 3 (by decide) (hts _ (List.mem_cons_of_mem _ m_30)) (fun _ h9 => h9) rfl (by decide +kernel) (by rfl) (by rfl) (Nat.le_of_ble_eq_true rfl) d_Tr_init_31 (fun H locs hP hD hS => ?_)
  have hP : va_P (dC, dI) classes [(h0, .inr (1, [.ref q1, .ref q2, .ref q3, .int (nI 0)])), (q1, .inl (dA, 1024, .inl (fun _ => nI 0))), (q2, .inl (dA, 32, .inl (fun _ => nI 0))), (q3, .inl (dA, 32, .inl (fun _ => nI 0)))] H := hP
  have hD : va_D A [(h0, .inr (1, [.ref q1, .ref q2, .ref q3, .int (nI 0)])), (q1, .inl (dA, 1024, .inl (fun _ => nI 0))), (q2, .inl (dA, 32, .inl (fun _ => nI 0))), (q3, .inl (dA, 32, .inl (fun _ => nI 0)))] := hD
  have hP : va_P (dC, dI) classes [(h0, .inr (1, [.ref q1, .ref q2, .ref q3, .int (nI 0)])), (q1, .inl (dA, 1024, .inl (fun _ => nI 0))), (q2, .inl (dA, 32, .inl (fun _ => nI 0))), (q3, .inl (dA, 32, .inl (fun _ => nI 0)))] H := hP.sub [0, 1, 2, 3] rfl
  have hD : va_D A [(h0, .inr (1, [.ref q1, .ref q2, .ref q3, .int (nI 0)])), (q1, .inl (dA, 1024, .inl (fun _ => nI 0))), (q2, .inl (dA, 32, .inl (fun _ => nI 0))), (q3, .inl (dA, 32, .inl (fun _ => nI 0)))] := hD.sub [0, 1, 2, 3] (by decide) rfl
  refine W.widen (k := 3) (n := 1088) (Nat.le_of_ble_eq_true rfl) (Nat.le_of_ble_eq_true rfl) ?_
  exact W.vret hx hb hr (fun t ht hW => ⟨⟨(), rfl, trivial, q1, q2, q3, by rw [ht]; exact hP, hD⟩, hS.F ht⟩) hS.2.2 d_Tr_init_34

set_option maxHeartbeats 4000000 in
set_option maxRecDepth 100000 in
theorem c_Ma_initD (l : Launch) (dC : Nat → ClassId) (dI : Nat → Nat → Nat) (dA : ClassId) (h0 aT : Nat) (sz : Nat) : Met l y_Ma_init (w_ y_Ma_init b_Ma_init 2 none) (rmn_ 1 1 4) (va_Pc [.ref h0, .ref aT] (fun U => U.heap.size = sz ∧ va_P (dC, dI) classes [(h0, .inr (2, [.null, .null, .null, .null, .null, .int (nI 0), .int (nI 0), .int (nI 0)]))] U.heap ∧ va_K (dC, dI) classes [(dA, .int)] U ∧ va_D (fun _ => True) [(h0, .inr (2, [.null, .null, .null, .null, .null, .int (nI 0), .int (nI 0), .int (nI 0)]))])) (va_Qv (fun (_ : Unit) => True) (fun (_ : Unit) t => ∃ q1 : Nat, va_P (dC, dI) classes [(h0, .inr (2, [.ref aT, .ref q1, .null, .null, .null, .int (nI 0), .int (nI 0), .int (nI 0)])), (q1, .inl (dA, 4, .inl (fun _ => nI 0)))] t.heap ∧ va_D (va_A [(h0, .inr (2, [.null, .null, .null, .null, .null, .int (nI 0), .int (nI 0), .int (nI 0)]))] sz) [(h0, .inr (2, [.ref aT, .ref q1, .null, .null, .null, .int (nI 0), .int (nI 0), .int (nI 0)])), (q1, .inl (dA, 4, .inl (fun _ => nI 0)))]) (va_A [(h0, .inr (2, [.null, .null, .null, .null, .null, .int (nI 0), .int (nI 0), .int (nI 0)]))] sz)) 1 4 (va_A [(h0, .inr (2, [.null, .null, .null, .null, .null, .int (nI 0), .int (nI 0), .int (nI 0)]))] sz) := by
  refine Met.ofW (cc := b_Ma_init) (maxL := 2) (ret := none) (by decide) rfl ?_
  intro p e s m args below meth c s₁ B hml hv
  obtain ⟨rfl, hsz, hP, hK, hD0⟩ := hv
  have hx := B.exec
  have hb := B.bytes
  have hr := B.returns
  have hts := atoms_spec (ws := (w_ y_Ma_init b_Ma_init 2 none)) B.pre
  have hown : s.vm.findClass R_Ma = some m.cls := findClass_of_methodNamed B.named
  have hlocks := B.notSynchronized
  have hin : meth.name = "<init>" := (name_of_methodNamed B.named B.method).1
  subst hsz
  have hD := hD0.self (sz := s.heap.size)
  generalize hAe : va_A [(h0, .inr (2, [.null, .null, .null, .null, .null, .int (nI 0), .int (nI 0), .int (nI 0)]))] s.heap.size = A at hD ⊢
  have hA : ∀ q : Nat, s.heap.size ≤ q → A q := fun q h => by rw [← hAe]; exact Or.inr h
  have hS : va_S A s.heap s.heap [] := va_S.rf
  have hl := lv_entry ([.ref h0, .ref aT]) (n := 2) (Nat.le_of_ble_eq_true rfl)
  rw [lg_entry_eq]
  generalize (lg_sl ([.ref h0, .ref aT]) ++ List.replicate (2 - (lg_sl ([.ref h0, .ref aT])).length) Slot.unset).toArray = ls at hl ⊢
  have hl : lv_has ls 2 [(0, .ref h0), (1, .ref aT)] := hl
  refine lv_aload_n hx hb d_Ma_init_0 rfl (lv_at hl 0 rfl) ?_
  refine W.objInit hx hb hown (hts _ (List.mem_cons_of_mem _ m_49)) (hts _ (List.mem_cons_of_mem _ m_18)) (hts _ (List.mem_cons_of_mem _ m_19)) rfl (by rw [hml]; exact hl.1) rfl d_Ma_init_1 (Nat.le_of_ble_eq_true rfl) (Nat.le_of_ble_eq_true rfl) ?_
  refine W.eq (g2 := F0 m 4 ls []) rfl ?_
  refine lv_aload_n hx hb d_Ma_init_4 rfl (lv_at hl 0 rfl) ?_
  refine lv_aload_n hx hb d_Ma_init_5 rfl (lv_at hl 1 rfl) ?_
  refine va_putF (D := (dC, dI)) (ci := 2) (v := .ref aT) (ty := (.object "RlRounds$Triples")) (C := R_De) (T := F_De) (N := 8) hx hb hts (rg_c i_De) t_De t_De_ok n_De hown hK hP hD hS 0 rfl rfl 0 (by decide) (hts _ (List.mem_cons_of_mem _ m_60)) (fun _ h9 => h9) rfl hin rfl (by decide +kernel) (by rfl) (by rfl) (Nat.le_of_ble_eq_true rfl) d_Ma_init_6 (fun H locs hP hD hS => ?_)
  have hP : va_P (dC, dI) classes [(h0, .inr (2, [.ref aT, .null, .null, .null, .null, .int (nI 0), .int (nI 0), .int (nI 0)]))] H := hP
  have hD : va_D A [(h0, .inr (2, [.ref aT, .null, .null, .null, .null, .int (nI 0), .int (nI 0), .int (nI 0)]))] := hD
  refine lv_aload_n hx hb d_Ma_init_9 rfl (lv_at hl 0 rfl) ?_
  refine lv_iconst (v := nI 4) hx hb d_Ma_init_10 (by decide) ?_
  refine va_newa (atype := .int) (ty := .int) (a0 := (4, .inl (fun _ => nI 0))) hx hb (hts _ (List.mem_cons_of_mem _ m_40)) rfl hK hP hD hS hA (fun _ => rfl) (nI_pos (by decide)) (nI_clamp (by decide)) (by decide) (Nat.le_of_ble_eq_true rfl) (Nat.le_of_ble_eq_true rfl) d_Ma_init_11 (fun q1 cA H hK2 hP hD hS => ?_)
  have hcA : cA = dA := rv_cA_int hK hK2 0 1 rfl rfl
  rw [hcA] at hP hD
  clear hK2 hcA
  have hP : va_P (dC, dI) classes [(h0, .inr (2, [.ref aT, .null, .null, .null, .null, .int (nI 0), .int (nI 0), .int (nI 0)])), (q1, .inl (dA, 4, .inl (fun _ => nI 0)))] H := hP
  have hD : va_D A [(h0, .inr (2, [.ref aT, .null, .null, .null, .null, .int (nI 0), .int (nI 0), .int (nI 0)])), (q1, .inl (dA, 4, .inl (fun _ => nI 0)))] := hD
  refine va_putF (D := (dC, dI)) (ci := 2) (v := .ref q1) (ty := (.array .int)) (C := R_De) (T := F_De) (N := 8) hx hb hts (rg_c i_De) t_De t_De_ok n_De hown hK hP hD hS 0 rfl rfl 1 (by decide) (hts _ (List.mem_cons_of_mem _ m_63)) (fun _ h9 => h9) rfl hin rfl (by decide +kernel) (by rfl) (by rfl) (Nat.le_of_ble_eq_true rfl) d_Ma_init_13 (fun H locs hP hD hS => ?_)
  have hP : va_P (dC, dI) classes [(h0, .inr (2, [.ref aT, .ref q1, .null, .null, .null, .int (nI 0), .int (nI 0), .int (nI 0)])), (q1, .inl (dA, 4, .inl (fun _ => nI 0)))] H := hP
  have hD : va_D A [(h0, .inr (2, [.ref aT, .ref q1, .null, .null, .null, .int (nI 0), .int (nI 0), .int (nI 0)])), (q1, .inl (dA, 4, .inl (fun _ => nI 0)))] := hD
  have hP : va_P (dC, dI) classes [(h0, .inr (2, [.ref aT, .ref q1, .null, .null, .null, .int (nI 0), .int (nI 0), .int (nI 0)])), (q1, .inl (dA, 4, .inl (fun _ => nI 0)))] H := hP.sub [0, 1] rfl
  have hD : va_D A [(h0, .inr (2, [.ref aT, .ref q1, .null, .null, .null, .int (nI 0), .int (nI 0), .int (nI 0)])), (q1, .inl (dA, 4, .inl (fun _ => nI 0)))] := hD.sub [0, 1] (by decide) rfl
  refine W.widen (k := 1) (n := 4) (Nat.le_of_ble_eq_true rfl) (Nat.le_of_ble_eq_true rfl) ?_
  exact W.vret hx hb hr (fun t ht hW => ⟨⟨(), rfl, trivial, q1, by rw [ht]; exact hP, hD⟩, hS.F ht⟩) hS.2.2 d_Ma_init_16

set_option maxHeartbeats 4000000 in
set_option maxRecDepth 100000 in
theorem c_Ma_initS (l : Launch) (dC : Nat → ClassId) (dI : Nat → Nat → Nat) (dA : ClassId) (h0 aT : Nat) (sz : Nat) : Met l y_Ma_init (w_ y_Ma_init b_Ma_init 2 none) (rmn_ 1 1 4) (va_Pc [.ref h0, .ref aT] (fun U => U.heap.size = sz ∧ va_P (dC, dI) classes [(h0, .inr (3, [.null, .null, .int (nI 0), .int (nI 0), .int (nI 0)]))] U.heap ∧ va_K (dC, dI) classes [(dA, .int)] U ∧ va_D (fun _ => True) [(h0, .inr (3, [.null, .null, .int (nI 0), .int (nI 0), .int (nI 0)]))])) (va_Qv (fun (_ : Unit) => True) (fun (_ : Unit) t => ∃ q1 : Nat, va_P (dC, dI) classes [(h0, .inr (3, [.ref aT, .ref q1, .int (nI 0), .int (nI 0), .int (nI 0)])), (q1, .inl (dA, 4, .inl (fun _ => nI 0)))] t.heap ∧ va_D (va_A [(h0, .inr (3, [.null, .null, .int (nI 0), .int (nI 0), .int (nI 0)]))] sz) [(h0, .inr (3, [.ref aT, .ref q1, .int (nI 0), .int (nI 0), .int (nI 0)])), (q1, .inl (dA, 4, .inl (fun _ => nI 0)))]) (va_A [(h0, .inr (3, [.null, .null, .int (nI 0), .int (nI 0), .int (nI 0)]))] sz)) 1 4 (va_A [(h0, .inr (3, [.null, .null, .int (nI 0), .int (nI 0), .int (nI 0)]))] sz) := by
  refine Met.ofW (cc := b_Ma_init) (maxL := 2) (ret := none) (by decide) rfl ?_
  intro p e s m args below meth c s₁ B hml hv
  obtain ⟨rfl, hsz, hP, hK, hD0⟩ := hv
  have hx := B.exec
  have hb := B.bytes
  have hr := B.returns
  have hts := atoms_spec (ws := (w_ y_Ma_init b_Ma_init 2 none)) B.pre
  have hown : s.vm.findClass R_Ma = some m.cls := findClass_of_methodNamed B.named
  have hlocks := B.notSynchronized
  have hin : meth.name = "<init>" := (name_of_methodNamed B.named B.method).1
  subst hsz
  have hD := hD0.self (sz := s.heap.size)
  generalize hAe : va_A [(h0, .inr (3, [.null, .null, .int (nI 0), .int (nI 0), .int (nI 0)]))] s.heap.size = A at hD ⊢
  have hA : ∀ q : Nat, s.heap.size ≤ q → A q := fun q h => by rw [← hAe]; exact Or.inr h
  have hS : va_S A s.heap s.heap [] := va_S.rf
  have hl := lv_entry ([.ref h0, .ref aT]) (n := 2) (Nat.le_of_ble_eq_true rfl)
  rw [lg_entry_eq]
  generalize (lg_sl ([.ref h0, .ref aT]) ++ List.replicate (2 - (lg_sl ([.ref h0, .ref aT])).length) Slot.unset).toArray = ls at hl ⊢
  have hl : lv_has ls 2 [(0, .ref h0), (1, .ref aT)] := hl
  refine lv_aload_n hx hb d_Ma_init_0 rfl (lv_at hl 0 rfl) ?_
  refine W.objInit hx hb hown (hts _ (List.mem_cons_of_mem _ m_49)) (hts _ (List.mem_cons_of_mem _ m_18)) (hts _ (List.mem_cons_of_mem _ m_19)) rfl (by rw [hml]; exact hl.1) rfl d_Ma_init_1 (Nat.le_of_ble_eq_true rfl) (Nat.le_of_ble_eq_true rfl) ?_
  refine W.eq (g2 := F0 m 4 ls []) rfl ?_
  refine lv_aload_n hx hb d_Ma_init_4 rfl (lv_at hl 0 rfl) ?_
  refine lv_aload_n hx hb d_Ma_init_5 rfl (lv_at hl 1 rfl) ?_
  refine va_putF (D := (dC, dI)) (ci := 3) (v := .ref aT) (ty := (.object "RlRounds$Triples")) (C := R_Se) (T := F_Se) (N := 5) hx hb hts (rg_c i_Se) t_Se t_Se_ok n_Se hown hK hP hD hS 0 rfl rfl 0 (by decide) (hts _ (List.mem_cons_of_mem _ m_60)) (fun _ h9 => h9) rfl hin rfl (by decide +kernel) (by rfl) (by rfl) (Nat.le_of_ble_eq_true rfl) d_Ma_init_6 (fun H locs hP hD hS => ?_)
  have hP : va_P (dC, dI) classes [(h0, .inr (3, [.ref aT, .null, .int (nI 0), .int (nI 0), .int (nI 0)]))] H := hP
  have hD : va_D A [(h0, .inr (3, [.ref aT, .null, .int (nI 0), .int (nI 0), .int (nI 0)]))] := hD
  refine lv_aload_n hx hb d_Ma_init_9 rfl (lv_at hl 0 rfl) ?_
  refine lv_iconst (v := nI 4) hx hb d_Ma_init_10 (by decide) ?_
  refine va_newa (atype := .int) (ty := .int) (a0 := (4, .inl (fun _ => nI 0))) hx hb (hts _ (List.mem_cons_of_mem _ m_40)) rfl hK hP hD hS hA (fun _ => rfl) (nI_pos (by decide)) (nI_clamp (by decide)) (by decide) (Nat.le_of_ble_eq_true rfl) (Nat.le_of_ble_eq_true rfl) d_Ma_init_11 (fun q1 cA H hK2 hP hD hS => ?_)
  have hcA : cA = dA := rv_cA_int hK hK2 0 1 rfl rfl
  rw [hcA] at hP hD
  clear hK2 hcA
  have hP : va_P (dC, dI) classes [(h0, .inr (3, [.ref aT, .null, .int (nI 0), .int (nI 0), .int (nI 0)])), (q1, .inl (dA, 4, .inl (fun _ => nI 0)))] H := hP
  have hD : va_D A [(h0, .inr (3, [.ref aT, .null, .int (nI 0), .int (nI 0), .int (nI 0)])), (q1, .inl (dA, 4, .inl (fun _ => nI 0)))] := hD
  refine va_putF (D := (dC, dI)) (ci := 3) (v := .ref q1) (ty := (.array .int)) (C := R_Se) (T := F_Se) (N := 5) hx hb hts (rg_c i_Se) t_Se t_Se_ok n_Se hown hK hP hD hS 0 rfl rfl 1 (by decide) (hts _ (List.mem_cons_of_mem _ m_63)) (fun _ h9 => h9) rfl hin rfl (by decide +kernel) (by rfl) (by rfl) (Nat.le_of_ble_eq_true rfl) d_Ma_init_13 (fun H locs hP hD hS => ?_)
  have hP : va_P (dC, dI) classes [(h0, .inr (3, [.ref aT, .ref q1, .int (nI 0), .int (nI 0), .int (nI 0)])), (q1, .inl (dA, 4, .inl (fun _ => nI 0)))] H := hP
  have hD : va_D A [(h0, .inr (3, [.ref aT, .ref q1, .int (nI 0), .int (nI 0), .int (nI 0)])), (q1, .inl (dA, 4, .inl (fun _ => nI 0)))] := hD
  have hP : va_P (dC, dI) classes [(h0, .inr (3, [.ref aT, .ref q1, .int (nI 0), .int (nI 0), .int (nI 0)])), (q1, .inl (dA, 4, .inl (fun _ => nI 0)))] H := hP.sub [0, 1] rfl
  have hD : va_D A [(h0, .inr (3, [.ref aT, .ref q1, .int (nI 0), .int (nI 0), .int (nI 0)])), (q1, .inl (dA, 4, .inl (fun _ => nI 0)))] := hD.sub [0, 1] (by decide) rfl
  refine W.widen (k := 1) (n := 4) (Nat.le_of_ble_eq_true rfl) (Nat.le_of_ble_eq_true rfl) ?_
  exact W.vret hx hb hr (fun t ht hW => ⟨⟨(), rfl, trivial, q1, by rw [ht]; exact hP, hD⟩, hS.F ht⟩) hS.2.2 d_Ma_init_16

set_option maxHeartbeats 4000000 in
set_option maxRecDepth 100000 in
theorem c_De_init (l : Launch) (dC : Nat → ClassId) (dI : Nat → Nat → Nat) (dA : ClassId) (d0 aT : Nat) (sz : Nat) : Met l y_De_init (w_ y_De_init b_De_init 2 none) (rmn_ 2 7 1896) (va_Pc [.ref d0, .ref aT] (fun U => U.heap.size = sz ∧ va_P (dC, dI) classes [(d0, .inr (2, [.null, .null, .null, .null, .null, .int (nI 0), .int (nI 0), .int (nI 0)]))] U.heap ∧ va_K (dC, dI) classes [(dA, .int)] U ∧ va_D (fun _ => True) [(d0, .inr (2, [.null, .null, .null, .null, .null, .int (nI 0), .int (nI 0), .int (nI 0)]))])) (va_Qv (fun (_ : Unit) => True) (fun (_ : Unit) t => ∃ qc aU u1 u2 u3 qk qr : Nat, va_P (dC, dI) classes [(d0, .inr (2, [.ref aT, .ref qc, .ref aU, .ref qk, .ref qr, .int (nI 0), .int (nI 0), .int (nI 0)])), (qc, .inl (dA, 4, .inl (fun _ => nI 0))), (aU, .inr (1, [.ref u1, .ref u2, .ref u3, .int (nI 0)])), (u1, .inl (dA, 1024, .inl (fun _ => nI 0))), (u2, .inl (dA, 32, .inl (fun _ => nI 0))), (u3, .inl (dA, 32, .inl (fun _ => nI 0))), (qk, .inl (dA, 400, .inl (fun _ => nI 0))), (qr, .inl (dA, 400, .inl (fun _ => nI 0)))] t.heap ∧ va_D (va_A [(d0, .inr (2, [.null, .null, .null, .null, .null, .int (nI 0), .int (nI 0), .int (nI 0)]))] sz) [(d0, .inr (2, [.ref aT, .ref qc, .ref aU, .ref qk, .ref qr, .int (nI 0), .int (nI 0), .int (nI 0)])), (qc, .inl (dA, 4, .inl (fun _ => nI 0))), (aU, .inr (1, [.ref u1, .ref u2, .ref u3, .int (nI 0)])), (u1, .inl (dA, 1024, .inl (fun _ => nI 0))), (u2, .inl (dA, 32, .inl (fun _ => nI 0))), (u3, .inl (dA, 32, .inl (fun _ => nI 0))), (qk, .inl (dA, 400, .inl (fun _ => nI 0))), (qr, .inl (dA, 400, .inl (fun _ => nI 0)))]) (va_A [(d0, .inr (2, [.null, .null, .null, .null, .null, .int (nI 0), .int (nI 0), .int (nI 0)]))] sz)) 7 1896 (va_A [(d0, .inr (2, [.null, .null, .null, .null, .null, .int (nI 0), .int (nI 0), .int (nI 0)]))] sz) := by
  refine Met.ofW (cc := b_De_init) (maxL := 2) (ret := none) (by decide) rfl ?_
  intro p e s m args below meth c s₁ B hml hv
  obtain ⟨rfl, hsz, hP, hK, hD0⟩ := hv
  have hx := B.exec
  have hb := B.bytes
  have hr := B.returns
  have hts := atoms_spec (ws := (w_ y_De_init b_De_init 2 none)) B.pre
  have hown : s.vm.findClass R_De = some m.cls := findClass_of_methodNamed B.named
  have hlocks := B.notSynchronized
  have hin : meth.name = "<init>" := (name_of_methodNamed B.named B.method).1
  subst hsz
  have hD := hD0.self (sz := s.heap.size)
  generalize hAe : va_A [(d0, .inr (2, [.null, .null, .null, .null, .null, .int (nI 0), .int (nI 0), .int (nI 0)]))] s.heap.size = A at hD ⊢
  have hA : ∀ q : Nat, s.heap.size ≤ q → A q := fun q h => by rw [← hAe]; exact Or.inr h
  have hS : va_S A s.heap s.heap [] := va_S.rf
  have hl := lv_entry ([.ref d0, .ref aT]) (n := 2) (Nat.le_of_ble_eq_true rfl)
  rw [lg_entry_eq]
  generalize (lg_sl ([.ref d0, .ref aT]) ++ List.replicate (2 - (lg_sl ([.ref d0, .ref aT])).length) Slot.unset).toArray = ls at hl ⊢
  have hl : lv_has ls 2 [(0, .ref d0), (1, .ref aT)] := hl
  refine lv_aload_n hx hb d_De_init_0 rfl (lv_at hl 0 rfl) ?_
  refine lv_aload_n hx hb d_De_init_1 rfl (lv_at hl 1 rfl) ?_
  have hPc := hP.sub (ws' := [(d0, .inr (2, [.null, .null, .null, .null, .null, .int (nI 0), .int (nI 0), .int (nI 0)]))]) [0] rfl
  have hDc := hD.sub (ws' := [(d0, .inr (2, [.null, .null, .null, .null, .null, .int (nI 0), .int (nI 0), .int (nI 0)]))]) [0] (by decide) rfl
  have hFc := va_free (wc := [(d0, .inr (2, [.null, .null, .null, .null, .null, .int (nI 0), .int (nI 0), .int (nI 0)]))]) hD hS hA [0] rfl
  refine va_callv (va_runI (As := [.ref aT]) (rest := []) ⟨hx, hb, hml, hown, hts⟩ (c_Ma_initD l dC dI dA d0 aT s.heap.size) (cwI 1 hts (rg_G k_Ma_init) rfl rfl rfl (hts _ (List.mem_cons_of_mem _ m_3)) (hts _ (List.mem_cons_of_mem _ m_46)) (hts _ (List.mem_cons_of_mem _ m_47)) rfl (by decide +kernel) ⟨Nat.le_of_ble_eq_true rfl, Nat.le_of_ble_eq_true rfl⟩) ⟨fun a U g mk q => ⟨q.1, q.2.1, q.2.2.1, va_K.moved (u := U) (U := U.calling g mk a) (Vm.Alike.refl U.vm) q.2.2.2.1, q.2.2.2.2⟩, fun U hU hW => ⟨rfl, by rw [hU], by rw [hU]; exact hPc, va_K.moved hW.alike (hK), hDc.weaken (fun _ _ _ _ => trivial)⟩⟩ rfl rfl hl.1 rfl (lv_room (Nat.le_of_ble_eq_true rfl)) d_De_init_2 ⟨Nat.le_of_ble_eq_true rfl, Nat.le_of_ble_eq_true rfl⟩) hS (fun q _ h => hFc q h) hFc (fun u t H1 locs ht hvm hw hB hz1 hk1 hS => ?_)
  obtain ⟨qc, hP1, hD1⟩ := hB
  rw [ht] at hP1
  obtain ⟨hP, hD⟩ := va_join (wr := []) (w1 := [(d0, .inr (2, [.ref aT, .ref qc, .null, .null, .null, .int (nI 0), .int (nI 0), .int (nI 0)])), (qc, .inl (dA, 4, .inl (fun _ => nI 0)))]) hP hD [0] [] rfl rfl (by decide) (by decide) hk1 hFc hP1 hD1
  clear hk1 hFc hPc hDc hP1 hD1
  generalize H1 = H at hP hS ⊢
  have hP : va_P (dC, dI) classes [(d0, .inr (2, [.ref aT, .ref qc, .null, .null, .null, .int (nI 0), .int (nI 0), .int (nI 0)])), (qc, .inl (dA, 4, .inl (fun _ => nI 0)))] H := hP
  have hD : va_D A [(d0, .inr (2, [.ref aT, .ref qc, .null, .null, .null, .int (nI 0), .int (nI 0), .int (nI 0)])), (qc, .inl (dA, 4, .inl (fun _ => nI 0)))] := hD
  refine lv_aload_n hx hb d_De_init_5 rfl (lv_at hl 0 rfl) ?_
  refine va_new (ci := 1) (fs := [.null, .null, .null, .int (nI 0)]) (C := R_Tr) (T := F_Tr) (N := 4) hx hb hts (rg_c i_Tr) t_Tr t_Tr_ok hown (hts _ (List.mem_cons_of_mem _ m_50)) (hts _ (List.mem_cons_of_mem _ m_22)) (hts _ (List.mem_cons_of_mem _ m_2)) hK hP hD hS hA rfl (fun j hj => by rcases (show j = 0 ∨ j = 1 ∨ j = 2 ∨ j = 3 by omega) with rfl | rfl | rfl | rfl <;> rfl) (Nat.le_of_ble_eq_true rfl) (Nat.le_of_ble_eq_true rfl) d_De_init_6 (fun aU H hP hD hS => ?_)
  have hP : va_P (dC, dI) classes [(d0, .inr (2, [.ref aT, .ref qc, .null, .null, .null, .int (nI 0), .int (nI 0), .int (nI 0)])), (qc, .inl (dA, 4, .inl (fun _ => nI 0))), (aU, .inr (1, [.null, .null, .null, .int (nI 0)]))] H := hP
  have hD : va_D A [(d0, .inr (2, [.ref aT, .ref qc, .null, .null, .null, .int (nI 0), .int (nI 0), .int (nI 0)])), (qc, .inl (dA, 4, .inl (fun _ => nI 0))), (aU, .inr (1, [.null, .null, .null, .int (nI 0)]))] := hD
  refine lv_dup hx hb d_De_init_9 rfl ?_
  have hPc := hP.sub (ws' := [(aU, .inr (1, [.null, .null, .null, .int (nI 0)]))]) [2] rfl
  have hDc := hD.sub (ws' := [(aU, .inr (1, [.null, .null, .null, .int (nI 0)]))]) [2] (by decide) rfl
  have hFc := va_free (wc := [(aU, .inr (1, [.null, .null, .null, .int (nI 0)]))]) hD hS hA [2] rfl
  refine va_callv (va_runI (As := []) (rest := [.ref aU, .ref d0]) ⟨hx, hb, hml, hown, hts⟩ (c_Tr_init l dC dI dA aU H.size) (cwI 0 hts (rg_G k_Tr_init) rfl rfl rfl (hts _ (List.mem_cons_of_mem _ m_2)) (hts _ (List.mem_cons_of_mem _ m_51)) (hts _ (List.mem_cons_of_mem _ m_24)) rfl (by decide +kernel) ⟨Nat.le_of_ble_eq_true rfl, Nat.le_of_ble_eq_true rfl⟩) ⟨fun a U g mk q => ⟨q.1, q.2.1, q.2.2.1, va_K.moved (u := U) (U := U.calling g mk a) (Vm.Alike.refl U.vm) q.2.2.2.1, q.2.2.2.2⟩, fun U hU hW => ⟨rfl, by rw [hU], by rw [hU]; exact hPc, va_K.moved hW.alike (hK), hDc.weaken (fun _ _ _ _ => trivial)⟩⟩ rfl rfl hl.1 rfl (lv_room (Nat.le_of_ble_eq_true rfl)) d_De_init_10 ⟨Nat.le_of_ble_eq_true rfl, Nat.le_of_ble_eq_true rfl⟩) hS (fun q _ h => hFc q h) hFc (fun u t H1 locs ht hvm hw hB hz1 hk1 hS => ?_)
  obtain ⟨u1, u2, u3, hP1, hD1⟩ := hB
  rw [ht] at hP1
  obtain ⟨hP, hD⟩ := va_join (wr := [(d0, .inr (2, [.ref aT, .ref qc, .null, .null, .null, .int (nI 0), .int (nI 0), .int (nI 0)])), (qc, .inl (dA, 4, .inl (fun _ => nI 0)))]) (w1 := [(aU, .inr (1, [.ref u1, .ref u2, .ref u3, .int (nI 0)])), (u1, .inl (dA, 1024, .inl (fun _ => nI 0))), (u2, .inl (dA, 32, .inl (fun _ => nI 0))), (u3, .inl (dA, 32, .inl (fun _ => nI 0)))]) hP hD [2] [0, 1] rfl rfl (by decide) (by decide) hk1 hFc hP1 hD1
  clear hk1 hFc hPc hDc hP1 hD1
  generalize H1 = H at hP hS ⊢
  have hP : va_P (dC, dI) classes [(d0, .inr (2, [.ref aT, .ref qc, .null, .null, .null, .int (nI 0), .int (nI 0), .int (nI 0)])), (qc, .inl (dA, 4, .inl (fun _ => nI 0))), (aU, .inr (1, [.ref u1, .ref u2, .ref u3, .int (nI 0)])), (u1, .inl (dA, 1024, .inl (fun _ => nI 0))), (u2, .inl (dA, 32, .inl (fun _ => nI 0))), (u3, .inl (dA, 32, .inl (fun _ => nI 0)))] H := hP
  have hD : va_D A [(d0, .inr (2, [.ref aT, .ref qc, .null, .null, .null, .int (nI 0), .int (nI 0), .int (nI 0)])), (qc, .inl (dA, 4, .inl (fun _ => nI 0))), (aU, .inr (1, [.ref u1, .ref u2, .ref u3, .int (nI 0)])), (u1, .inl (dA, 1024, .inl (fun _ => nI 0))), (u2, .inl (dA, 32, .inl (fun _ => nI 0))), (u3, .inl (dA, 32, .inl (fun _ => nI 0)))] := hD
  refine va_putF (D := (dC, dI)) (ci := 2) (v := .ref aU) (ty := (.object "RlRounds$Triples")) (C := R_De) (T := F_De) (N := 8) hx hb hts (rg_c i_De) t_De t_De_ok n_De hown hK hP hD hS 0 rfl rfl 2 (by decide) (hts _ (List.mem_cons_of_mem _ m_52)) (fun _ h9 => h9) rfl hin rfl (by decide +kernel) (by rfl) (by rfl) (Nat.le_of_ble_eq_true rfl) d_De_init_13 (fun H locs hP hD hS => ?_)
  have hP : va_P (dC, dI) classes [(d0, .inr (2, [.ref aT, .ref qc, .ref aU, .null, .null, .int (nI 0), .int (nI 0), .int (nI 0)])), (qc, .inl (dA, 4, .inl (fun _ => nI 0))), (aU, .inr (1, [.ref u1, .ref u2, .ref u3, .int (nI 0)])), (u1, .inl (dA, 1024, .inl (fun _ => nI 0))), (u2, .inl (dA, 32, .inl (fun _ => nI 0))), (u3, .inl (dA, 32, .inl (fun _ => nI 0)))] H := hP
  have hD : va_D A [(d0, .inr (2, [.ref aT, .ref qc, .ref aU, .null, .null, .int (nI 0), .int (nI 0), .int (nI 0)])), (qc, .inl (dA, 4, .inl (fun _ => nI 0))), (aU, .inr (1, [.ref u1, .ref u2, .ref u3, .int (nI 0)])), (u1, .inl (dA, 1024, .inl (fun _ => nI 0))), (u2, .inl (dA, 32, .inl (fun _ => nI 0))), (u3, .inl (dA, 32, .inl (fun _ => nI 0)))] := hD
  refine lv_aload_n hx hb d_De_init_16 rfl (lv_at hl 0 rfl) ?_
  refine lv_sipush (v := nI 400) hx hb d_De_init_17 (by decide) ?_
  refine va_newa (atype := .int) (ty := .int) (a0 := (400, .inl (fun _ => nI 0))) hx hb (hts _ (List.mem_cons_of_mem _ m_40)) rfl hK hP hD hS hA (fun _ => rfl) (nI_pos (by decide)) (nI_clamp (by decide)) (by decide) (Nat.le_of_ble_eq_true rfl) (Nat.le_of_ble_eq_true rfl) d_De_init_20 (fun qk cA H hK2 hP hD hS => ?_)
  have hcA : cA = dA := rv_cA_int hK hK2 0 1 rfl rfl
  rw [hcA] at hP hD
  clear hK2 hcA
  have hP : va_P (dC, dI) classes [(d0, .inr (2, [.ref aT, .ref qc, .ref aU, .null, .null, .int (nI 0), .int (nI 0), .int (nI 0)])), (qc, .inl (dA, 4, .inl (fun _ => nI 0))), (aU, .inr (1, [.ref u1, .ref u2, .ref u3, .int (nI 0)])), (u1, .inl (dA, 1024, .inl (fun _ => nI 0))), (u2, .inl (dA, 32, .inl (fun _ => nI 0))), (u3, .inl (dA, 32, .inl (fun _ => nI 0))), (qk, .inl (dA, 400, .inl (fun _ => nI 0)))] H := hP
  have hD : va_D A [(d0, .inr (2, [.ref aT, .ref qc, .ref aU, .null, .null, .int (nI 0), .int (nI 0), .int (nI 0)])), (qc, .inl (dA, 4, .inl (fun _ => nI 0))), (aU, .inr (1, [.ref u1, .ref u2, .ref u3, .int (nI 0)])), (u1, .inl (dA, 1024, .inl (fun _ => nI 0))), (u2, .inl (dA, 32, .inl (fun _ => nI 0))), (u3, .inl (dA, 32, .inl (fun _ => nI 0))), (qk, .inl (dA, 400, .inl (fun _ => nI 0)))] := hD
  refine va_putF (D := (dC, dI)) (ci := 2) (v := .ref qk) (ty := (.array .int)) (C := R_De) (T := F_De) (N := 8) hx hb hts (rg_c i_De) t_De t_De_ok n_De hown hK hP hD hS 0 rfl rfl 3 (by decide) (hts _ (List.mem_cons_of_mem _ m_53)) (fun _ h9 => h9) rfl hin rfl (by decide +kernel) (by rfl) (by rfl) (Nat.le_of_ble_eq_true rfl) d_De_init_22 (fun H locs hP hD hS => ?_)
  have hP : va_P (dC, dI) classes [(d0, .inr (2, [.ref aT, .ref qc, .ref aU, .ref qk, .null, .int (nI 0), .int (nI 0), .int (nI 0)])), (qc, .inl (dA, 4, .inl (fun _ => nI 0))), (aU, .inr (1, [.ref u1, .ref u2, .ref u3, .int (nI 0)])), (u1, .inl (dA, 1024, .inl (fun _ => nI 0))), (u2, .inl (dA, 32, .inl (fun _ => nI 0))), (u3, .inl (dA, 32, .inl (fun _ => nI 0))), (qk, .inl (dA, 400, .inl (fun _ => nI 0)))] H := hP
  have hD : va_D A [(d0, .inr (2, [.ref aT, .ref qc, .ref aU, .ref qk, .null, .int (nI 0), .int (nI 0), .int (nI 0)])), (qc, .inl (dA, 4, .inl (fun _ => nI 0))), (aU, .inr (1, [.ref u1, .ref u2, .ref u3, .int (nI 0)])), (u1, .inl (dA, 1024, .inl (fun _ => nI 0))), (u2, .inl (dA, 32, .inl (fun _ => nI 0))), (u3, .inl (dA, 32, .inl (fun _ => nI 0))), (qk, .inl (dA, 400, .inl (fun _ => nI 0)))] := hD
  refine lv_aload_n hx hb d_De_init_25 rfl (lv_at hl 0 rfl) ?_
  refine lv_sipush (v := nI 400) hx hb d_De_init_26 (by decide) ?_
  refine va_newa (atype := .int) (ty := .int) (a0 := (400, .inl (fun _ => nI 0))) hx hb (hts _ (List.mem_cons_of_mem _ m_40)) rfl hK hP hD hS hA (fun _ => rfl) (nI_pos (by decide)) (nI_clamp (by decide)) (by decide) (Nat.le_of_ble_eq_true rfl) (Nat.le_of_ble_eq_true rfl) d_De_init_29 (fun qr cA H hK2 hP hD hS => ?_)
  have hcA : cA = dA := rv_cA_int hK hK2 0 1 rfl rfl
  rw [hcA] at hP hD
  clear hK2 hcA
  have hP : va_P (dC, dI) classes [(d0, .inr (2, [.ref aT, .ref qc, .ref aU, .ref qk, .null, .int (nI 0), .int (nI 0), .int (nI 0)])), (qc, .inl (dA, 4, .inl (fun _ => nI 0))), (aU, .inr (1, [.ref u1, .ref u2, .ref u3, .int (nI 0)])), (u1, .inl (dA, 1024, .inl (fun _ => nI 0))), (u2, .inl (dA, 32, .inl (fun _ => nI 0))), (u3, .inl (dA, 32, .inl (fun _ => nI 0))), (qk, .inl (dA, 400, .inl (fun _ => nI 0))), (qr, .inl (dA, 400, .inl (fun _ => nI 0)))] H := hP
  have hD : va_D A [(d0, .inr (2, [.ref aT, .ref qc, .ref aU, .ref qk, .null, .int (nI 0), .int (nI 0), .int (nI 0)])), (qc, .inl (dA, 4, .inl (fun _ => nI 0))), (aU, .inr (1, [.ref u1, .ref u2, .ref u3, .int (nI 0)])), (u1, .inl (dA, 1024, .inl (fun _ => nI 0))), (u2, .inl (dA, 32, .inl (fun _ => nI 0))), (u3, .inl (dA, 32, .inl (fun _ => nI 0))), (qk, .inl (dA, 400, .inl (fun _ => nI 0))), (qr, .inl (dA, 400, .inl (fun _ => nI 0)))] := hD
  refine va_putF (D := (dC, dI)) (ci := 2) (v := .ref qr) (ty := (.array .int)) (C := R_De) (T := F_De) (N := 8) hx hb hts (rg_c i_De) t_De t_De_ok n_De hown hK hP hD hS 0 rfl rfl 4 (by decide) (hts _ (List.mem_cons_of_mem _ m_54)) (fun _ h9 => h9) rfl hin rfl (by decide +kernel) (by rfl) (by rfl) (Nat.le_of_ble_eq_true rfl) d_De_init_31 (fun H locs hP hD hS => ?_)
  have hP : va_P (dC, dI) classes [(d0, .inr (2, [.ref aT, .ref qc, .ref aU, .ref qk, .ref qr, .int (nI 0), .int (nI 0), .int (nI 0)])), (qc, .inl (dA, 4, .inl (fun _ => nI 0))), (aU, .inr (1, [.ref u1, .ref u2, .ref u3, .int (nI 0)])), (u1, .inl (dA, 1024, .inl (fun _ => nI 0))), (u2, .inl (dA, 32, .inl (fun _ => nI 0))), (u3, .inl (dA, 32, .inl (fun _ => nI 0))), (qk, .inl (dA, 400, .inl (fun _ => nI 0))), (qr, .inl (dA, 400, .inl (fun _ => nI 0)))] H := hP
  have hD : va_D A [(d0, .inr (2, [.ref aT, .ref qc, .ref aU, .ref qk, .ref qr, .int (nI 0), .int (nI 0), .int (nI 0)])), (qc, .inl (dA, 4, .inl (fun _ => nI 0))), (aU, .inr (1, [.ref u1, .ref u2, .ref u3, .int (nI 0)])), (u1, .inl (dA, 1024, .inl (fun _ => nI 0))), (u2, .inl (dA, 32, .inl (fun _ => nI 0))), (u3, .inl (dA, 32, .inl (fun _ => nI 0))), (qk, .inl (dA, 400, .inl (fun _ => nI 0))), (qr, .inl (dA, 400, .inl (fun _ => nI 0)))] := hD
  refine lv_aload_n hx hb d_De_init_34 rfl (lv_at hl 0 rfl) ?_
  refine lv_iconst (v := nI 0) hx hb d_De_init_35 (by decide) ?_
  refine va_put (D := (dC, dI)) (ci := 2) (v := .int (nI 0)) (ty := .int) (C := R_De) (T := F_De) (N := 8) hx hb hts (rg_c i_De) t_De t_De_ok n_De hown hK hP hD hS 0 rfl rfl 5 (by decide) (hts _ (List.mem_cons_of_mem _ m_55)) (fun _ h9 => h9) rfl (by decide +kernel) (by rfl) (by rfl) (Nat.le_of_ble_eq_true rfl) d_De_init_36 (fun H locs hP hD hS => ?_)
  have hP : va_P (dC, dI) classes [(d0, .inr (2, [.ref aT, .ref qc, .ref aU, .ref qk, .ref qr, .int (nI 0), .int (nI 0), .int (nI 0)])), (qc, .inl (dA, 4, .inl (fun _ => nI 0))), (aU, .inr (1, [.ref u1, .ref u2, .ref u3, .int (nI 0)])), (u1, .inl (dA, 1024, .inl (fun _ => nI 0))), (u2, .inl (dA, 32, .inl (fun _ => nI 0))), (u3, .inl (dA, 32, .inl (fun _ => nI 0))), (qk, .inl (dA, 400, .inl (fun _ => nI 0))), (qr, .inl (dA, 400, .inl (fun _ => nI 0)))] H := hP
  have hD : va_D A [(d0, .inr (2, [.ref aT, .ref qc, .ref aU, .ref qk, .ref qr, .int (nI 0), .int (nI 0), .int (nI 0)])), (qc, .inl (dA, 4, .inl (fun _ => nI 0))), (aU, .inr (1, [.ref u1, .ref u2, .ref u3, .int (nI 0)])), (u1, .inl (dA, 1024, .inl (fun _ => nI 0))), (u2, .inl (dA, 32, .inl (fun _ => nI 0))), (u3, .inl (dA, 32, .inl (fun _ => nI 0))), (qk, .inl (dA, 400, .inl (fun _ => nI 0))), (qr, .inl (dA, 400, .inl (fun _ => nI 0)))] := hD
  refine lv_aload_n hx hb d_De_init_39 rfl (lv_at hl 0 rfl) ?_
  refine lv_iconst (v := nI 0) hx hb d_De_init_40 (by decide) ?_
  refine va_put (D := (dC, dI)) (ci := 2) (v := .int (nI 0)) (ty := .int) (C := R_De) (T := F_De) (N := 8) hx hb hts (rg_c i_De) t_De t_De_ok n_De hown hK hP hD hS 0 rfl rfl 6 (by decide) (hts _ (List.mem_cons_of_mem _ m_56)) (fun _ h9 => h9) rfl (by decide +kernel) (by rfl) (by rfl) (Nat.le_of_ble_eq_true rfl) d_De_init_41 (fun H locs hP hD hS => ?_)
  have hP : va_P (dC, dI) classes [(d0, .inr (2, [.ref aT, .ref qc, .ref aU, .ref qk, .ref qr, .int (nI 0), .int (nI 0), .int (nI 0)])), (qc, .inl (dA, 4, .inl (fun _ => nI 0))), (aU, .inr (1, [.ref u1, .ref u2, .ref u3, .int (nI 0)])), (u1, .inl (dA, 1024, .inl (fun _ => nI 0))), (u2, .inl (dA, 32, .inl (fun _ => nI 0))), (u3, .inl (dA, 32, .inl (fun _ => nI 0))), (qk, .inl (dA, 400, .inl (fun _ => nI 0))), (qr, .inl (dA, 400, .inl (fun _ => nI 0)))] H := hP
  have hD : va_D A [(d0, .inr (2, [.ref aT, .ref qc, .ref aU, .ref qk, .ref qr, .int (nI 0), .int (nI 0), .int (nI 0)])), (qc, .inl (dA, 4, .inl (fun _ => nI 0))), (aU, .inr (1, [.ref u1, .ref u2, .ref u3, .int (nI 0)])), (u1, .inl (dA, 1024, .inl (fun _ => nI 0))), (u2, .inl (dA, 32, .inl (fun _ => nI 0))), (u3, .inl (dA, 32, .inl (fun _ => nI 0))), (qk, .inl (dA, 400, .inl (fun _ => nI 0))), (qr, .inl (dA, 400, .inl (fun _ => nI 0)))] := hD
  refine lv_aload_n hx hb d_De_init_44 rfl (lv_at hl 0 rfl) ?_
  refine lv_iconst (v := nI 0) hx hb d_De_init_45 (by decide) ?_
  refine va_put (D := (dC, dI)) (ci := 2) (v := .int (nI 0)) (ty := .boolean) (C := R_De) (T := F_De) (N := 8) hx hb hts (rg_c i_De) t_De t_De_ok n_De hown hK hP hD hS 0 rfl rfl 7 (by decide) (hts _ (List.mem_cons_of_mem _ m_58)) (fun _ h9 => h9) rfl (by decide +kernel) (by rfl) (by rfl) (Nat.le_of_ble_eq_true rfl) d_De_init_46 (fun H locs hP hD hS => ?_)
  have hP : va_P (dC, dI) classes [(d0, .inr (2, [.ref aT, .ref qc, .ref aU, .ref qk, .ref qr, .int (nI 0), .int (nI 0), .int (nI 0)])), (qc, .inl (dA, 4, .inl (fun _ => nI 0))), (aU, .inr (1, [.ref u1, .ref u2, .ref u3, .int (nI 0)])), (u1, .inl (dA, 1024, .inl (fun _ => nI 0))), (u2, .inl (dA, 32, .inl (fun _ => nI 0))), (u3, .inl (dA, 32, .inl (fun _ => nI 0))), (qk, .inl (dA, 400, .inl (fun _ => nI 0))), (qr, .inl (dA, 400, .inl (fun _ => nI 0)))] H := hP
  have hD : va_D A [(d0, .inr (2, [.ref aT, .ref qc, .ref aU, .ref qk, .ref qr, .int (nI 0), .int (nI 0), .int (nI 0)])), (qc, .inl (dA, 4, .inl (fun _ => nI 0))), (aU, .inr (1, [.ref u1, .ref u2, .ref u3, .int (nI 0)])), (u1, .inl (dA, 1024, .inl (fun _ => nI 0))), (u2, .inl (dA, 32, .inl (fun _ => nI 0))), (u3, .inl (dA, 32, .inl (fun _ => nI 0))), (qk, .inl (dA, 400, .inl (fun _ => nI 0))), (qr, .inl (dA, 400, .inl (fun _ => nI 0)))] := hD
  have hP : va_P (dC, dI) classes [(d0, .inr (2, [.ref aT, .ref qc, .ref aU, .ref qk, .ref qr, .int (nI 0), .int (nI 0), .int (nI 0)])), (qc, .inl (dA, 4, .inl (fun _ => nI 0))), (aU, .inr (1, [.ref u1, .ref u2, .ref u3, .int (nI 0)])), (u1, .inl (dA, 1024, .inl (fun _ => nI 0))), (u2, .inl (dA, 32, .inl (fun _ => nI 0))), (u3, .inl (dA, 32, .inl (fun _ => nI 0))), (qk, .inl (dA, 400, .inl (fun _ => nI 0))), (qr, .inl (dA, 400, .inl (fun _ => nI 0)))] H := hP.sub [0, 1, 2, 3, 4, 5, 6, 7] rfl
  have hD : va_D A [(d0, .inr (2, [.ref aT, .ref qc, .ref aU, .ref qk, .ref qr, .int (nI 0), .int (nI 0), .int (nI 0)])), (qc, .inl (dA, 4, .inl (fun _ => nI 0))), (aU, .inr (1, [.ref u1, .ref u2, .ref u3, .int (nI 0)])), (u1, .inl (dA, 1024, .inl (fun _ => nI 0))), (u2, .inl (dA, 32, .inl (fun _ => nI 0))), (u3, .inl (dA, 32, .inl (fun _ => nI 0))), (qk, .inl (dA, 400, .inl (fun _ => nI 0))), (qr, .inl (dA, 400, .inl (fun _ => nI 0)))] := hD.sub [0, 1, 2, 3, 4, 5, 6, 7] (by decide) rfl
  refine W.widen (k := 7) (n := 1896) (Nat.le_of_ble_eq_true rfl) (Nat.le_of_ble_eq_true rfl) ?_
  exact W.vret hx hb hr (fun t ht hW => ⟨⟨(), rfl, trivial, qc, aU, u1, u2, u3, qk, qr, by rw [ht]; exact hP, hD⟩, hS.F ht⟩) hS.2.2 d_De_init_49

set_option maxHeartbeats 4000000 in
set_option maxRecDepth 100000 in
theorem c_Se_init (l : Launch) (dC : Nat → ClassId) (dI : Nat → Nat → Nat) (dA : ClassId) (s0 aT : Nat) (sz : Nat) : Met l y_Se_init (w_ y_Se_init b_Se_init 2 none) (rmn_ 2 1 4) (va_Pc [.ref s0, .ref aT] (fun U => U.heap.size = sz ∧ va_P (dC, dI) classes [(s0, .inr (3, [.null, .null, .int (nI 0), .int (nI 0), .int (nI 0)]))] U.heap ∧ va_K (dC, dI) classes [(dA, .int)] U ∧ va_D (fun _ => True) [(s0, .inr (3, [.null, .null, .int (nI 0), .int (nI 0), .int (nI 0)]))])) (va_Qv (fun (_ : Unit) => True) (fun (_ : Unit) t => ∃ qd : Nat, va_P (dC, dI) classes [(s0, .inr (3, [.ref aT, .ref qd, .int (-1), .int (nI 0), .int (nI 0)])), (qd, .inl (dA, 4, .inl (fun _ => nI 0)))] t.heap ∧ va_D (va_A [(s0, .inr (3, [.null, .null, .int (nI 0), .int (nI 0), .int (nI 0)]))] sz) [(s0, .inr (3, [.ref aT, .ref qd, .int (-1), .int (nI 0), .int (nI 0)])), (qd, .inl (dA, 4, .inl (fun _ => nI 0)))]) (va_A [(s0, .inr (3, [.null, .null, .int (nI 0), .int (nI 0), .int (nI 0)]))] sz)) 1 4 (va_A [(s0, .inr (3, [.null, .null, .int (nI 0), .int (nI 0), .int (nI 0)]))] sz) := by
  refine Met.ofW (cc := b_Se_init) (maxL := 2) (ret := none) (by decide) rfl ?_
  intro p e s m args below meth c s₁ B hml hv
  obtain ⟨rfl, hsz, hP, hK, hD0⟩ := hv
  have hx := B.exec
  have hb := B.bytes
  have hr := B.returns
  have hts := atoms_spec (ws := (w_ y_Se_init b_Se_init 2 none)) B.pre
  have hown : s.vm.findClass R_Se = some m.cls := findClass_of_methodNamed B.named
  have hlocks := B.notSynchronized
  have hin : meth.name = "<init>" := (name_of_methodNamed B.named B.method).1
  subst hsz
  have hD := hD0.self (sz := s.heap.size)
  generalize hAe : va_A [(s0, .inr (3, [.null, .null, .int (nI 0), .int (nI 0), .int (nI 0)]))] s.heap.size = A at hD ⊢
  have hA : ∀ q : Nat, s.heap.size ≤ q → A q := fun q h => by rw [← hAe]; exact Or.inr h
  have hS : va_S A s.heap s.heap [] := va_S.rf
  have hl := lv_entry ([.ref s0, .ref aT]) (n := 2) (Nat.le_of_ble_eq_true rfl)
  rw [lg_entry_eq]
  generalize (lg_sl ([.ref s0, .ref aT]) ++ List.replicate (2 - (lg_sl ([.ref s0, .ref aT])).length) Slot.unset).toArray = ls at hl ⊢
  have hl : lv_has ls 2 [(0, .ref s0), (1, .ref aT)] := hl
  refine lv_aload_n hx hb d_Se_init_0 rfl (lv_at hl 0 rfl) ?_
  refine lv_aload_n hx hb d_Se_init_1 rfl (lv_at hl 1 rfl) ?_
  have hPc := hP.sub (ws' := [(s0, .inr (3, [.null, .null, .int (nI 0), .int (nI 0), .int (nI 0)]))]) [0] rfl
  have hDc := hD.sub (ws' := [(s0, .inr (3, [.null, .null, .int (nI 0), .int (nI 0), .int (nI 0)]))]) [0] (by decide) rfl
  have hFc := va_free (wc := [(s0, .inr (3, [.null, .null, .int (nI 0), .int (nI 0), .int (nI 0)]))]) hD hS hA [0] rfl
  refine va_callv (va_runI (As := [.ref aT]) (rest := []) ⟨hx, hb, hml, hown, hts⟩ (c_Ma_initS l dC dI dA s0 aT s.heap.size) (cwI 1 hts (rg_G k_Ma_init) rfl rfl rfl (hts _ (List.mem_cons_of_mem _ m_3)) (hts _ (List.mem_cons_of_mem _ m_88)) (hts _ (List.mem_cons_of_mem _ m_47)) rfl (by decide +kernel) ⟨Nat.le_of_ble_eq_true rfl, Nat.le_of_ble_eq_true rfl⟩) ⟨fun a U g mk q => ⟨q.1, q.2.1, q.2.2.1, va_K.moved (u := U) (U := U.calling g mk a) (Vm.Alike.refl U.vm) q.2.2.2.1, q.2.2.2.2⟩, fun U hU hW => ⟨rfl, by rw [hU], by rw [hU]; exact hPc, va_K.moved hW.alike (hK), hDc.weaken (fun _ _ _ _ => trivial)⟩⟩ rfl rfl hl.1 rfl (lv_room (Nat.le_of_ble_eq_true rfl)) d_Se_init_2 ⟨Nat.le_of_ble_eq_true rfl, Nat.le_of_ble_eq_true rfl⟩) hS (fun q _ h => hFc q h) hFc (fun u t H1 locs ht hvm hw hB hz1 hk1 hS => ?_)
  obtain ⟨qd, hP1, hD1⟩ := hB
  rw [ht] at hP1
  obtain ⟨hP, hD⟩ := va_join (wr := []) (w1 := [(s0, .inr (3, [.ref aT, .ref qd, .int (nI 0), .int (nI 0), .int (nI 0)])), (qd, .inl (dA, 4, .inl (fun _ => nI 0)))]) hP hD [0] [] rfl rfl (by decide) (by decide) hk1 hFc hP1 hD1
  clear hk1 hFc hPc hDc hP1 hD1
  generalize H1 = H at hP hS ⊢
  have hP : va_P (dC, dI) classes [(s0, .inr (3, [.ref aT, .ref qd, .int (nI 0), .int (nI 0), .int (nI 0)])), (qd, .inl (dA, 4, .inl (fun _ => nI 0)))] H := hP
  have hD : va_D A [(s0, .inr (3, [.ref aT, .ref qd, .int (nI 0), .int (nI 0), .int (nI 0)])), (qd, .inl (dA, 4, .inl (fun _ => nI 0)))] := hD
  refine lv_aload_n hx hb d_Se_init_5 rfl (lv_at hl 0 rfl) ?_
  refine lv_iconst (v := (-1)) hx hb d_Se_init_6 (by decide) ?_
  refine va_put (D := (dC, dI)) (ci := 3) (v := .int (-1)) (ty := .int) (C := R_Se) (T := F_Se) (N := 5) hx hb hts (rg_c i_Se) t_Se t_Se_ok n_Se hown hK hP hD hS 0 rfl rfl 2 (by decide) (hts _ (List.mem_cons_of_mem _ m_89)) (fun _ h9 => h9) rfl (by decide +kernel) (by rfl) (by rfl) (Nat.le_of_ble_eq_true rfl) d_Se_init_7 (fun H locs hP hD hS => ?_)
  have hP : va_P (dC, dI) classes [(s0, .inr (3, [.ref aT, .ref qd, .int (-1), .int (nI 0), .int (nI 0)])), (qd, .inl (dA, 4, .inl (fun _ => nI 0)))] H := hP
  have hD : va_D A [(s0, .inr (3, [.ref aT, .ref qd, .int (-1), .int (nI 0), .int (nI 0)])), (qd, .inl (dA, 4, .inl (fun _ => nI 0)))] := hD
  refine lv_aload_n hx hb d_Se_init_10 rfl (lv_at hl 0 rfl) ?_
  refine lv_iconst (v := nI 0) hx hb d_Se_init_11 (by decide) ?_
  refine va_put (D := (dC, dI)) (ci := 3) (v := .int (nI 0)) (ty := .int) (C := R_Se) (T := F_Se) (N := 5) hx hb hts (rg_c i_Se) t_Se t_Se_ok n_Se hown hK hP hD hS 0 rfl rfl 3 (by decide) (hts _ (List.mem_cons_of_mem _ m_90)) (fun _ h9 => h9) rfl (by decide +kernel) (by rfl) (by rfl) (Nat.le_of_ble_eq_true rfl) d_Se_init_12 (fun H locs hP hD hS => ?_)
  have hP : va_P (dC, dI) classes [(s0, .inr (3, [.ref aT, .ref qd, .int (-1), .int (nI 0), .int (nI 0)])), (qd, .inl (dA, 4, .inl (fun _ => nI 0)))] H := hP
  have hD : va_D A [(s0, .inr (3, [.ref aT, .ref qd, .int (-1), .int (nI 0), .int (nI 0)])), (qd, .inl (dA, 4, .inl (fun _ => nI 0)))] := hD
  refine lv_aload_n hx hb d_Se_init_15 rfl (lv_at hl 0 rfl) ?_
  refine lv_iconst (v := nI 0) hx hb d_Se_init_16 (by decide) ?_
  refine va_put (D := (dC, dI)) (ci := 3) (v := .int (nI 0)) (ty := .int) (C := R_Se) (T := F_Se) (N := 5) hx hb hts (rg_c i_Se) t_Se t_Se_ok n_Se hown hK hP hD hS 0 rfl rfl 4 (by decide) (hts _ (List.mem_cons_of_mem _ m_91)) (fun _ h9 => h9) rfl (by decide +kernel) (by rfl) (by rfl) (Nat.le_of_ble_eq_true rfl) d_Se_init_17 (fun H locs hP hD hS => ?_)
  have hP : va_P (dC, dI) classes [(s0, .inr (3, [.ref aT, .ref qd, .int (-1), .int (nI 0), .int (nI 0)])), (qd, .inl (dA, 4, .inl (fun _ => nI 0)))] H := hP
  have hD : va_D A [(s0, .inr (3, [.ref aT, .ref qd, .int (-1), .int (nI 0), .int (nI 0)])), (qd, .inl (dA, 4, .inl (fun _ => nI 0)))] := hD
  have hP : va_P (dC, dI) classes [(s0, .inr (3, [.ref aT, .ref qd, .int (-1), .int (nI 0), .int (nI 0)])), (qd, .inl (dA, 4, .inl (fun _ => nI 0)))] H := hP.sub [0, 1] rfl
  have hD : va_D A [(s0, .inr (3, [.ref aT, .ref qd, .int (-1), .int (nI 0), .int (nI 0)])), (qd, .inl (dA, 4, .inl (fun _ => nI 0)))] := hD.sub [0, 1] (by decide) rfl
  refine W.widen (k := 1) (n := 4) (Nat.le_of_ble_eq_true rfl) (Nat.le_of_ble_eq_true rfl) ?_
  exact W.vret hx hb hr (fun t ht hW => ⟨⟨(), rfl, trivial, qd, by rw [ht]; exact hP, hD⟩, hS.F ht⟩) hS.2.2 d_Se_init_20

set_option maxHeartbeats 4000000 in
set_option maxRecDepth 100000 in
theorem c_Rl_init (l : Launch) (dC : Nat → ClassId) (dI : Nat → Nat → Nat) (dA : ClassId) (x0 : Nat) (sz : Nat) : Met l y_Rl_init (w_ y_Rl_init b_Rl_init 1 none) (rmn_ 3 15 3125) (va_Pc [.ref x0] (fun U => U.heap.size = sz ∧ va_P (dC, dI) classes [(x0, .inr (0, [.null, .int (nI 0), .int (nI 0), .int (nI 0), .null, .null, .null]))] U.heap ∧ va_K (dC, dI) classes [(dA, .int)] U ∧ va_D (fun _ => True) [(x0, .inr (0, [.null, .int (nI 0), .int (nI 0), .int (nI 0), .null, .null, .null]))])) (va_Qv (fun (_ : Unit) => True) (fun (_ : Unit) t => ∃ qs d0 qc aT t1 t2 t3 aU u1 u2 u3 qk qr s0 qd : Nat, va_P (dC, dI) classes [(x0, .inr (0, [.ref qs, .int (nI 0), .int (nI 2097151), .int (nI 0), .ref aT, .ref d0, .ref s0])), (qs, .inl (dA, 120, .inl (fun _ => nI 0))), (d0, .inr (2, [.ref aT, .ref qc, .ref aU, .ref qk, .ref qr, .int (nI 0), .int (nI 0), .int (nI 0)])), (qc, .inl (dA, 4, .inl (fun _ => nI 0))), (aT, .inr (1, [.ref t1, .ref t2, .ref t3, .int (nI 0)])), (t1, .inl (dA, 1024, .inl (fun _ => nI 0))), (t2, .inl (dA, 32, .inl (fun _ => nI 0))), (t3, .inl (dA, 32, .inl (fun _ => nI 0))), (aU, .inr (1, [.ref u1, .ref u2, .ref u3, .int (nI 0)])), (u1, .inl (dA, 1024, .inl (fun _ => nI 0))), (u2, .inl (dA, 32, .inl (fun _ => nI 0))), (u3, .inl (dA, 32, .inl (fun _ => nI 0))), (qk, .inl (dA, 400, .inl (fun _ => nI 0))), (qr, .inl (dA, 400, .inl (fun _ => nI 0))), (s0, .inr (3, [.ref aT, .ref qd, .int (-1), .int (nI 0), .int (nI 0)])), (qd, .inl (dA, 4, .inl (fun _ => nI 0)))] t.heap ∧ va_D (va_A [(x0, .inr (0, [.null, .int (nI 0), .int (nI 0), .int (nI 0), .null, .null, .null]))] sz) [(x0, .inr (0, [.ref qs, .int (nI 0), .int (nI 2097151), .int (nI 0), .ref aT, .ref d0, .ref s0])), (qs, .inl (dA, 120, .inl (fun _ => nI 0))), (d0, .inr (2, [.ref aT, .ref qc, .ref aU, .ref qk, .ref qr, .int (nI 0), .int (nI 0), .int (nI 0)])), (qc, .inl (dA, 4, .inl (fun _ => nI 0))), (aT, .inr (1, [.ref t1, .ref t2, .ref t3, .int (nI 0)])), (t1, .inl (dA, 1024, .inl (fun _ => nI 0))), (t2, .inl (dA, 32, .inl (fun _ => nI 0))), (t3, .inl (dA, 32, .inl (fun _ => nI 0))), (aU, .inr (1, [.ref u1, .ref u2, .ref u3, .int (nI 0)])), (u1, .inl (dA, 1024, .inl (fun _ => nI 0))), (u2, .inl (dA, 32, .inl (fun _ => nI 0))), (u3, .inl (dA, 32, .inl (fun _ => nI 0))), (qk, .inl (dA, 400, .inl (fun _ => nI 0))), (qr, .inl (dA, 400, .inl (fun _ => nI 0))), (s0, .inr (3, [.ref aT, .ref qd, .int (-1), .int (nI 0), .int (nI 0)])), (qd, .inl (dA, 4, .inl (fun _ => nI 0)))]) (va_A [(x0, .inr (0, [.null, .int (nI 0), .int (nI 0), .int (nI 0), .null, .null, .null]))] sz)) 15 3125 (va_A [(x0, .inr (0, [.null, .int (nI 0), .int (nI 0), .int (nI 0), .null, .null, .null]))] sz) := by
  refine Met.ofW (cc := b_Rl_init) (maxL := 1) (ret := none) (by decide) rfl ?_
  intro p e s m args below meth c s₁ B hml hv
  obtain ⟨rfl, hsz, hP, hK, hD0⟩ := hv
  have hx := B.exec
  have hb := B.bytes
  have hr := B.returns
  have hts := atoms_spec (ws := (w_ y_Rl_init b_Rl_init 1 none)) B.pre
  have hown : s.vm.findClass R_Rl = some m.cls := findClass_of_methodNamed B.named
  have hlocks := B.notSynchronized
  have hin : meth.name = "<init>" := (name_of_methodNamed B.named B.method).1
  subst hsz
  have hD := hD0.self (sz := s.heap.size)
  generalize hAe : va_A [(x0, .inr (0, [.null, .int (nI 0), .int (nI 0), .int (nI 0), .null, .null, .null]))] s.heap.size = A at hD ⊢
  have hA : ∀ q : Nat, s.heap.size ≤ q → A q := fun q h => by rw [← hAe]; exact Or.inr h
  have hS : va_S A s.heap s.heap [] := va_S.rf
  have hl := lv_entry ([.ref x0]) (n := 1) (Nat.le_of_ble_eq_true rfl)
  rw [lg_entry_eq]
  generalize (lg_sl ([.ref x0]) ++ List.replicate (1 - (lg_sl ([.ref x0])).length) Slot.unset).toArray = ls at hl ⊢
  have hl : lv_has ls 1 [(0, .ref x0)] := hl
  refine lv_aload_n hx hb d_Rl_init_0 rfl (lv_at hl 0 rfl) ?_
  refine W.objInit hx hb hown (hts _ (List.mem_cons_of_mem _ m_17)) (hts _ (List.mem_cons_of_mem _ m_18)) (hts _ (List.mem_cons_of_mem _ m_19)) rfl (by rw [hml]; exact hl.1) rfl d_Rl_init_1 (Nat.le_of_ble_eq_true rfl) (Nat.le_of_ble_eq_true rfl) ?_
  refine W.eq (g2 := F0 m 4 ls []) rfl ?_
  refine lv_aload_n hx hb d_Rl_init_4 rfl (lv_at hl 0 rfl) ?_
  refine lv_bipush (v := nI 120) hx hb d_Rl_init_5 (by decide) ?_
  refine va_newa (atype := .int) (ty := .int) (a0 := (120, .inl (fun _ => nI 0))) hx hb (hts _ (List.mem_cons_of_mem _ m_40)) rfl hK hP hD hS hA (fun _ => rfl) (nI_pos (by decide)) (nI_clamp (by decide)) (by decide) (Nat.le_of_ble_eq_true rfl) (Nat.le_of_ble_eq_true rfl) d_Rl_init_7 (fun qs cA H hK2 hP hD hS => ?_)
  have hcA : cA = dA := rv_cA_int hK hK2 0 1 rfl rfl
  rw [hcA] at hP hD
  clear hK2 hcA
  have hP : va_P (dC, dI) classes [(x0, .inr (0, [.null, .int (nI 0), .int (nI 0), .int (nI 0), .null, .null, .null])), (qs, .inl (dA, 120, .inl (fun _ => nI 0)))] H := hP
  have hD : va_D A [(x0, .inr (0, [.null, .int (nI 0), .int (nI 0), .int (nI 0), .null, .null, .null])), (qs, .inl (dA, 120, .inl (fun _ => nI 0)))] := hD
  refine va_putF (D := (dC, dI)) (ci := 0) (v := .ref qs) (ty := (.array .int)) (C := R_Rl) (T := F_Rl) (N := 7) hx hb hts (rg_c i_Rl) t_Rl t_Rl_ok n_Rl hown hK hP hD hS 0 rfl rfl 0 (by decide) (hts _ (List.mem_cons_of_mem _ m_102)) (fun _ h9 => h9) rfl hin rfl (by decide +kernel) (by rfl) (by rfl) (Nat.le_of_ble_eq_true rfl) d_Rl_init_9 (fun H locs hP hD hS => ?_)
  have hP : va_P (dC, dI) classes [(x0, .inr (0, [.ref qs, .int (nI 0), .int (nI 0), .int (nI 0), .null, .null, .null])), (qs, .inl (dA, 120, .inl (fun _ => nI 0)))] H := hP
  have hD : va_D A [(x0, .inr (0, [.ref qs, .int (nI 0), .int (nI 0), .int (nI 0), .null, .null, .null])), (qs, .inl (dA, 120, .inl (fun _ => nI 0)))] := hD
  refine lv_aload_n hx hb d_Rl_init_12 rfl (lv_at hl 0 rfl) ?_
  refine lv_iconst (v := nI 0) hx hb d_Rl_init_13 (by decide) ?_
  refine va_put (D := (dC, dI)) (ci := 0) (v := .int (nI 0)) (ty := .int) (C := R_Rl) (T := F_Rl) (N := 7) hx hb hts (rg_c i_Rl) t_Rl t_Rl_ok n_Rl hown hK hP hD hS 0 rfl rfl 1 (by decide) (hts _ (List.mem_cons_of_mem _ m_103)) (fun _ h9 => h9) rfl (by decide +kernel) (by rfl) (by rfl) (Nat.le_of_ble_eq_true rfl) d_Rl_init_14 (fun H locs hP hD hS => ?_)
  have hP : va_P (dC, dI) classes [(x0, .inr (0, [.ref qs, .int (nI 0), .int (nI 0), .int (nI 0), .null, .null, .null])), (qs, .inl (dA, 120, .inl (fun _ => nI 0)))] H := hP
  have hD : va_D A [(x0, .inr (0, [.ref qs, .int (nI 0), .int (nI 0), .int (nI 0), .null, .null, .null])), (qs, .inl (dA, 120, .inl (fun _ => nI 0)))] := hD
  refine lv_aload_n hx hb d_Rl_init_17 rfl (lv_at hl 0 rfl) ?_
  refine lv_ldc (v := nI 2097151) hx hb hown (hts _ (List.mem_cons_of_mem _ m_20)) d_Rl_init_18 ?_
  refine va_put (D := (dC, dI)) (ci := 0) (v := .int (nI 2097151)) (ty := .int) (C := R_Rl) (T := F_Rl) (N := 7) hx hb hts (rg_c i_Rl) t_Rl t_Rl_ok n_Rl hown hK hP hD hS 0 rfl rfl 2 (by decide) (hts _ (List.mem_cons_of_mem _ m_104)) (fun _ h9 => h9) rfl (by decide +kernel) (by rfl) (by rfl) (Nat.le_of_ble_eq_true rfl) d_Rl_init_20 (fun H locs hP hD hS => ?_)
  have hP : va_P (dC, dI) classes [(x0, .inr (0, [.ref qs, .int (nI 0), .int (nI 2097151), .int (nI 0), .null, .null, .null])), (qs, .inl (dA, 120, .inl (fun _ => nI 0)))] H := hP
  have hD : va_D A [(x0, .inr (0, [.ref qs, .int (nI 0), .int (nI 2097151), .int (nI 0), .null, .null, .null])), (qs, .inl (dA, 120, .inl (fun _ => nI 0)))] := hD
  refine lv_aload_n hx hb d_Rl_init_23 rfl (lv_at hl 0 rfl) ?_
  refine lv_iconst (v := nI 0) hx hb d_Rl_init_24 (by decide) ?_
  refine va_put (D := (dC, dI)) (ci := 0) (v := .int (nI 0)) (ty := .boolean) (C := R_Rl) (T := F_Rl) (N := 7) hx hb hts (rg_c i_Rl) t_Rl t_Rl_ok n_Rl hown hK hP hD hS 0 rfl rfl 3 (by decide) (hts _ (List.mem_cons_of_mem _ m_105)) (fun _ h9 => h9) rfl (by decide +kernel) (by rfl) (by rfl) (Nat.le_of_ble_eq_true rfl) d_Rl_init_25 (fun H locs hP hD hS => ?_)
  have hP : va_P (dC, dI) classes [(x0, .inr (0, [.ref qs, .int (nI 0), .int (nI 2097151), .int (nI 0), .null, .null, .null])), (qs, .inl (dA, 120, .inl (fun _ => nI 0)))] H := hP
  have hD : va_D A [(x0, .inr (0, [.ref qs, .int (nI 0), .int (nI 2097151), .int (nI 0), .null, .null, .null])), (qs, .inl (dA, 120, .inl (fun _ => nI 0)))] := hD
  refine lv_aload_n hx hb d_Rl_init_28 rfl (lv_at hl 0 rfl) ?_
  refine va_new (ci := 1) (fs := [.null, .null, .null, .int (nI 0)]) (C := R_Tr) (T := F_Tr) (N := 4) hx hb hts (rg_c i_Tr) t_Tr t_Tr_ok hown (hts _ (List.mem_cons_of_mem _ m_21)) (hts _ (List.mem_cons_of_mem _ m_22)) (hts _ (List.mem_cons_of_mem _ m_2)) hK hP hD hS hA rfl (fun j hj => by rcases (show j = 0 ∨ j = 1 ∨ j = 2 ∨ j = 3 by omega) with rfl | rfl | rfl | rfl <;> rfl) (Nat.le_of_ble_eq_true rfl) (Nat.le_of_ble_eq_true rfl) d_Rl_init_29 (fun aT H hP hD hS => ?_)
  have hP : va_P (dC, dI) classes [(x0, .inr (0, [.ref qs, .int (nI 0), .int (nI 2097151), .int (nI 0), .null, .null, .null])), (qs, .inl (dA, 120, .inl (fun _ => nI 0))), (aT, .inr (1, [.null, .null, .null, .int (nI 0)]))] H := hP
  have hD : va_D A [(x0, .inr (0, [.ref qs, .int (nI 0), .int (nI 2097151), .int (nI 0), .null, .null, .null])), (qs, .inl (dA, 120, .inl (fun _ => nI 0))), (aT, .inr (1, [.null, .null, .null, .int (nI 0)]))] := hD
  refine lv_dup hx hb d_Rl_init_32 rfl ?_
  have hPc := hP.sub (ws' := [(aT, .inr (1, [.null, .null, .null, .int (nI 0)]))]) [2] rfl
  have hDc := hD.sub (ws' := [(aT, .inr (1, [.null, .null, .null, .int (nI 0)]))]) [2] (by decide) rfl
  have hFc := va_free (wc := [(aT, .inr (1, [.null, .null, .null, .int (nI 0)]))]) hD hS hA [2] rfl
  refine va_callv (va_runI (As := []) (rest := [.ref aT, .ref x0]) ⟨hx, hb, hml, hown, hts⟩ (c_Tr_init l dC dI dA aT H.size) (cwI 0 hts (rg_G k_Tr_init) rfl rfl rfl (hts _ (List.mem_cons_of_mem _ m_2)) (hts _ (List.mem_cons_of_mem _ m_23)) (hts _ (List.mem_cons_of_mem _ m_24)) rfl (by decide +kernel) ⟨Nat.le_of_ble_eq_true rfl, Nat.le_of_ble_eq_true rfl⟩) ⟨fun a U g mk q => ⟨q.1, q.2.1, q.2.2.1, va_K.moved (u := U) (U := U.calling g mk a) (Vm.Alike.refl U.vm) q.2.2.2.1, q.2.2.2.2⟩, fun U hU hW => ⟨rfl, by rw [hU], by rw [hU]; exact hPc, va_K.moved hW.alike (hK), hDc.weaken (fun _ _ _ _ => trivial)⟩⟩ rfl rfl hl.1 rfl (lv_room (Nat.le_of_ble_eq_true rfl)) d_Rl_init_33 ⟨Nat.le_of_ble_eq_true rfl, Nat.le_of_ble_eq_true rfl⟩) hS (fun q _ h => hFc q h) hFc (fun u t H1 locs ht hvm hw hB hz1 hk1 hS => ?_)
  obtain ⟨t1, t2, t3, hP1, hD1⟩ := hB
  rw [ht] at hP1
  obtain ⟨hP, hD⟩ := va_join (wr := [(x0, .inr (0, [.ref qs, .int (nI 0), .int (nI 2097151), .int (nI 0), .null, .null, .null])), (qs, .inl (dA, 120, .inl (fun _ => nI 0)))]) (w1 := [(aT, .inr (1, [.ref t1, .ref t2, .ref t3, .int (nI 0)])), (t1, .inl (dA, 1024, .inl (fun _ => nI 0))), (t2, .inl (dA, 32, .inl (fun _ => nI 0))), (t3, .inl (dA, 32, .inl (fun _ => nI 0)))]) hP hD [2] [0, 1] rfl rfl (by decide) (by decide) hk1 hFc hP1 hD1
  clear hk1 hFc hPc hDc hP1 hD1
  generalize H1 = H at hP hS ⊢
  have hP : va_P (dC, dI) classes [(x0, .inr (0, [.ref qs, .int (nI 0), .int (nI 2097151), .int (nI 0), .null, .null, .null])), (qs, .inl (dA, 120, .inl (fun _ => nI 0))), (aT, .inr (1, [.ref t1, .ref t2, .ref t3, .int (nI 0)])), (t1, .inl (dA, 1024, .inl (fun _ => nI 0))), (t2, .inl (dA, 32, .inl (fun _ => nI 0))), (t3, .inl (dA, 32, .inl (fun _ => nI 0)))] H := hP
  have hD : va_D A [(x0, .inr (0, [.ref qs, .int (nI 0), .int (nI 2097151), .int (nI 0), .null, .null, .null])), (qs, .inl (dA, 120, .inl (fun _ => nI 0))), (aT, .inr (1, [.ref t1, .ref t2, .ref t3, .int (nI 0)])), (t1, .inl (dA, 1024, .inl (fun _ => nI 0))), (t2, .inl (dA, 32, .inl (fun _ => nI 0))), (t3, .inl (dA, 32, .inl (fun _ => nI 0)))] := hD
  refine va_putF (D := (dC, dI)) (ci := 0) (v := .ref aT) (ty := (.object "RlRounds$Triples")) (C := R_Rl) (T := F_Rl) (N := 7) hx hb hts (rg_c i_Rl) t_Rl t_Rl_ok n_Rl hown hK hP hD hS 0 rfl rfl 4 (by decide) (hts _ (List.mem_cons_of_mem _ m_106)) (fun _ h9 => h9) rfl hin rfl (by decide +kernel) (by rfl) (by rfl) (Nat.le_of_ble_eq_true rfl) d_Rl_init_36 (fun H locs hP hD hS => ?_)
  have hP : va_P (dC, dI) classes [(x0, .inr (0, [.ref qs, .int (nI 0), .int (nI 2097151), .int (nI 0), .ref aT, .null, .null])), (qs, .inl (dA, 120, .inl (fun _ => nI 0))), (aT, .inr (1, [.ref t1, .ref t2, .ref t3, .int (nI 0)])), (t1, .inl (dA, 1024, .inl (fun _ => nI 0))), (t2, .inl (dA, 32, .inl (fun _ => nI 0))), (t3, .inl (dA, 32, .inl (fun _ => nI 0)))] H := hP
  have hD : va_D A [(x0, .inr (0, [.ref qs, .int (nI 0), .int (nI 2097151), .int (nI 0), .ref aT, .null, .null])), (qs, .inl (dA, 120, .inl (fun _ => nI 0))), (aT, .inr (1, [.ref t1, .ref t2, .ref t3, .int (nI 0)])), (t1, .inl (dA, 1024, .inl (fun _ => nI 0))), (t2, .inl (dA, 32, .inl (fun _ => nI 0))), (t3, .inl (dA, 32, .inl (fun _ => nI 0)))] := hD
  refine lv_aload_n hx hb d_Rl_init_39 rfl (lv_at hl 0 rfl) ?_
  refine va_new (ci := 2) (fs := [.null, .null, .null, .null, .null, .int (nI 0), .int (nI 0), .int (nI 0)]) (C := R_De) (T := F_De) (N := 8) hx hb hts (rg_c i_De) t_De t_De_ok hown (hts _ (List.mem_cons_of_mem _ m_41)) (hts _ (List.mem_cons_of_mem _ m_42)) (hts _ (List.mem_cons_of_mem _ m_4)) hK hP hD hS hA rfl (fun j hj => by rcases (show j = 0 ∨ j = 1 ∨ j = 2 ∨ j = 3 ∨ j = 4 ∨ j = 5 ∨ j = 6 ∨ j = 7 by omega) with rfl | rfl | rfl | rfl | rfl | rfl | rfl | rfl <;> rfl) (Nat.le_of_ble_eq_true rfl) (Nat.le_of_ble_eq_true rfl) d_Rl_init_40 (fun d0 H hP hD hS => ?_)
  have hP : va_P (dC, dI) classes [(x0, .inr (0, [.ref qs, .int (nI 0), .int (nI 2097151), .int (nI 0), .ref aT, .null, .null])), (qs, .inl (dA, 120, .inl (fun _ => nI 0))), (aT, .inr (1, [.ref t1, .ref t2, .ref t3, .int (nI 0)])), (t1, .inl (dA, 1024, .inl (fun _ => nI 0))), (t2, .inl (dA, 32, .inl (fun _ => nI 0))), (t3, .inl (dA, 32, .inl (fun _ => nI 0))), (d0, .inr (2, [.null, .null, .null, .null, .null, .int (nI 0), .int (nI 0), .int (nI 0)]))] H := hP
  have hD : va_D A [(x0, .inr (0, [.ref qs, .int (nI 0), .int (nI 2097151), .int (nI 0), .ref aT, .null, .null])), (qs, .inl (dA, 120, .inl (fun _ => nI 0))), (aT, .inr (1, [.ref t1, .ref t2, .ref t3, .int (nI 0)])), (t1, .inl (dA, 1024, .inl (fun _ => nI 0))), (t2, .inl (dA, 32, .inl (fun _ => nI 0))), (t3, .inl (dA, 32, .inl (fun _ => nI 0))), (d0, .inr (2, [.null, .null, .null, .null, .null, .int (nI 0), .int (nI 0), .int (nI 0)]))] := hD
  refine lv_dup hx hb d_Rl_init_43 rfl ?_
  refine lv_aload_n hx hb d_Rl_init_44 rfl (lv_at hl 0 rfl) ?_
  refine va_get (D := (dC, dI)) (ci := 0) (v := .ref aT) (C := R_Rl) (T := F_Rl) (N := 7) hx hb hts (rg_c i_Rl) hown hK hP 0 rfl rfl 4 (by decide) (hts _ (List.mem_cons_of_mem _ m_106)) (fun _ h9 => h9) rfl d_Rl_init_45 ?_
  have hPc := hP.sub (ws' := [(d0, .inr (2, [.null, .null, .null, .null, .null, .int (nI 0), .int (nI 0), .int (nI 0)]))]) [6] rfl
  have hDc := hD.sub (ws' := [(d0, .inr (2, [.null, .null, .null, .null, .null, .int (nI 0), .int (nI 0), .int (nI 0)]))]) [6] (by decide) rfl
  have hFc := va_free (wc := [(d0, .inr (2, [.null, .null, .null, .null, .null, .int (nI 0), .int (nI 0), .int (nI 0)]))]) hD hS hA [6] rfl
  refine va_callv (va_runI (As := [.ref aT]) (rest := [.ref d0, .ref x0]) ⟨hx, hb, hml, hown, hts⟩ (c_De_init l dC dI dA d0 aT H.size) (cwI 1 hts (rg_G k_De_init) rfl rfl rfl (hts _ (List.mem_cons_of_mem _ m_4)) (hts _ (List.mem_cons_of_mem _ m_43)) (hts _ (List.mem_cons_of_mem _ m_44)) rfl (by decide +kernel) ⟨Nat.le_of_ble_eq_true rfl, Nat.le_of_ble_eq_true rfl⟩) ⟨fun a U g mk q => ⟨q.1, q.2.1, q.2.2.1, va_K.moved (u := U) (U := U.calling g mk a) (Vm.Alike.refl U.vm) q.2.2.2.1, q.2.2.2.2⟩, fun U hU hW => ⟨rfl, by rw [hU], by rw [hU]; exact hPc, va_K.moved hW.alike (hK), hDc.weaken (fun _ _ _ _ => trivial)⟩⟩ rfl rfl hl.1 rfl (lv_room (Nat.le_of_ble_eq_true rfl)) d_Rl_init_48 ⟨Nat.le_of_ble_eq_true rfl, Nat.le_of_ble_eq_true rfl⟩) hS (fun q _ h => hFc q h) hFc (fun u t H1 locs ht hvm hw hB hz1 hk1 hS => ?_)
  obtain ⟨qc, aU, u1, u2, u3, qk, qr, hP1, hD1⟩ := hB
  rw [ht] at hP1
  obtain ⟨hP, hD⟩ := va_join (wr := [(x0, .inr (0, [.ref qs, .int (nI 0), .int (nI 2097151), .int (nI 0), .ref aT, .null, .null])), (qs, .inl (dA, 120, .inl (fun _ => nI 0))), (aT, .inr (1, [.ref t1, .ref t2, .ref t3, .int (nI 0)])), (t1, .inl (dA, 1024, .inl (fun _ => nI 0))), (t2, .inl (dA, 32, .inl (fun _ => nI 0))), (t3, .inl (dA, 32, .inl (fun _ => nI 0)))]) (w1 := [(d0, .inr (2, [.ref aT, .ref qc, .ref aU, .ref qk, .ref qr, .int (nI 0), .int (nI 0), .int (nI 0)])), (qc, .inl (dA, 4, .inl (fun _ => nI 0))), (aU, .inr (1, [.ref u1, .ref u2, .ref u3, .int (nI 0)])), (u1, .inl (dA, 1024, .inl (fun _ => nI 0))), (u2, .inl (dA, 32, .inl (fun _ => nI 0))), (u3, .inl (dA, 32, .inl (fun _ => nI 0))), (qk, .inl (dA, 400, .inl (fun _ => nI 0))), (qr, .inl (dA, 400, .inl (fun _ => nI 0)))]) hP hD [6] [0, 1, 2, 3, 4, 5] rfl rfl (by decide) (by decide) hk1 hFc hP1 hD1
  clear hk1 hFc hPc hDc hP1 hD1
  generalize H1 = H at hP hS ⊢
  have hP : va_P (dC, dI) classes [(x0, .inr (0, [.ref qs, .int (nI 0), .int (nI 2097151), .int (nI 0), .ref aT, .null, .null])), (qs, .inl (dA, 120, .inl (fun _ => nI 0))), (aT, .inr (1, [.ref t1, .ref t2, .ref t3, .int (nI 0)])), (t1, .inl (dA, 1024, .inl (fun _ => nI 0))), (t2, .inl (dA, 32, .inl (fun _ => nI 0))), (t3, .inl (dA, 32, .inl (fun _ => nI 0))), (d0, .inr (2, [.ref aT, .ref qc, .ref aU, .ref qk, .ref qr, .int (nI 0), .int (nI 0), .int (nI 0)])), (qc, .inl (dA, 4, .inl (fun _ => nI 0))), (aU, .inr (1, [.ref u1, .ref u2, .ref u3, .int (nI 0)])), (u1, .inl (dA, 1024, .inl (fun _ => nI 0))), (u2, .inl (dA, 32, .inl (fun _ => nI 0))), (u3, .inl (dA, 32, .inl (fun _ => nI 0))), (qk, .inl (dA, 400, .inl (fun _ => nI 0))), (qr, .inl (dA, 400, .inl (fun _ => nI 0)))] H := hP
  have hD : va_D A [(x0, .inr (0, [.ref qs, .int (nI 0), .int (nI 2097151), .int (nI 0), .ref aT, .null, .null])), (qs, .inl (dA, 120, .inl (fun _ => nI 0))), (aT, .inr (1, [.ref t1, .ref t2, .ref t3, .int (nI 0)])), (t1, .inl (dA, 1024, .inl (fun _ => nI 0))), (t2, .inl (dA, 32, .inl (fun _ => nI 0))), (t3, .inl (dA, 32, .inl (fun _ => nI 0))), (d0, .inr (2, [.ref aT, .ref qc, .ref aU, .ref qk, .ref qr, .int (nI 0), .int (nI 0), .int (nI 0)])), (qc, .inl (dA, 4, .inl (fun _ => nI 0))), (aU, .inr (1, [.ref u1, .ref u2, .ref u3, .int (nI 0)])), (u1, .inl (dA, 1024, .inl (fun _ => nI 0))), (u2, .inl (dA, 32, .inl (fun _ => nI 0))), (u3, .inl (dA, 32, .inl (fun _ => nI 0))), (qk, .inl (dA, 400, .inl (fun _ => nI 0))), (qr, .inl (dA, 400, .inl (fun _ => nI 0)))] := hD
  refine va_putF (D := (dC, dI)) (ci := 0) (v := .ref d0) (ty := (.object "RlRounds$Deriver")) (C := R_Rl) (T := F_Rl) (N := 7) hx hb hts (rg_c i_Rl) t_Rl t_Rl_ok n_Rl hown hK hP hD hS 0 rfl rfl 5 (by decide) (hts _ (List.mem_cons_of_mem _ m_107)) (fun _ h9 => h9) rfl hin rfl (by decide +kernel) (by rfl) (by rfl) (Nat.le_of_ble_eq_true rfl) d_Rl_init_51 (fun H locs hP hD hS => ?_)
  have hP : va_P (dC, dI) classes [(x0, .inr (0, [.ref qs, .int (nI 0), .int (nI 2097151), .int (nI 0), .ref aT, .ref d0, .null])), (qs, .inl (dA, 120, .inl (fun _ => nI 0))), (aT, .inr (1, [.ref t1, .ref t2, .ref t3, .int (nI 0)])), (t1, .inl (dA, 1024, .inl (fun _ => nI 0))), (t2, .inl (dA, 32, .inl (fun _ => nI 0))), (t3, .inl (dA, 32, .inl (fun _ => nI 0))), (d0, .inr (2, [.ref aT, .ref qc, .ref aU, .ref qk, .ref qr, .int (nI 0), .int (nI 0), .int (nI 0)])), (qc, .inl (dA, 4, .inl (fun _ => nI 0))), (aU, .inr (1, [.ref u1, .ref u2, .ref u3, .int (nI 0)])), (u1, .inl (dA, 1024, .inl (fun _ => nI 0))), (u2, .inl (dA, 32, .inl (fun _ => nI 0))), (u3, .inl (dA, 32, .inl (fun _ => nI 0))), (qk, .inl (dA, 400, .inl (fun _ => nI 0))), (qr, .inl (dA, 400, .inl (fun _ => nI 0)))] H := hP
  have hD : va_D A [(x0, .inr (0, [.ref qs, .int (nI 0), .int (nI 2097151), .int (nI 0), .ref aT, .ref d0, .null])), (qs, .inl (dA, 120, .inl (fun _ => nI 0))), (aT, .inr (1, [.ref t1, .ref t2, .ref t3, .int (nI 0)])), (t1, .inl (dA, 1024, .inl (fun _ => nI 0))), (t2, .inl (dA, 32, .inl (fun _ => nI 0))), (t3, .inl (dA, 32, .inl (fun _ => nI 0))), (d0, .inr (2, [.ref aT, .ref qc, .ref aU, .ref qk, .ref qr, .int (nI 0), .int (nI 0), .int (nI 0)])), (qc, .inl (dA, 4, .inl (fun _ => nI 0))), (aU, .inr (1, [.ref u1, .ref u2, .ref u3, .int (nI 0)])), (u1, .inl (dA, 1024, .inl (fun _ => nI 0))), (u2, .inl (dA, 32, .inl (fun _ => nI 0))), (u3, .inl (dA, 32, .inl (fun _ => nI 0))), (qk, .inl (dA, 400, .inl (fun _ => nI 0))), (qr, .inl (dA, 400, .inl (fun _ => nI 0)))] := hD
  refine lv_aload_n hx hb d_Rl_init_54 rfl (lv_at hl 0 rfl) ?_
  refine va_new (ci := 3) (fs := [.null, .null, .int (nI 0), .int (nI 0), .int (nI 0)]) (C := R_Se) (T := F_Se) (N := 5) hx hb hts (rg_c i_Se) t_Se t_Se_ok hown (hts _ (List.mem_cons_of_mem _ m_83)) (hts _ (List.mem_cons_of_mem _ m_84)) (hts _ (List.mem_cons_of_mem _ m_5)) hK hP hD hS hA rfl (fun j hj => by rcases (show j = 0 ∨ j = 1 ∨ j = 2 ∨ j = 3 ∨ j = 4 by omega) with rfl | rfl | rfl | rfl | rfl <;> rfl) (Nat.le_of_ble_eq_true rfl) (Nat.le_of_ble_eq_true rfl) d_Rl_init_55 (fun s0 H hP hD hS => ?_)
  have hP : va_P (dC, dI) classes [(x0, .inr (0, [.ref qs, .int (nI 0), .int (nI 2097151), .int (nI 0), .ref aT, .ref d0, .null])), (qs, .inl (dA, 120, .inl (fun _ => nI 0))), (aT, .inr (1, [.ref t1, .ref t2, .ref t3, .int (nI 0)])), (t1, .inl (dA, 1024, .inl (fun _ => nI 0))), (t2, .inl (dA, 32, .inl (fun _ => nI 0))), (t3, .inl (dA, 32, .inl (fun _ => nI 0))), (d0, .inr (2, [.ref aT, .ref qc, .ref aU, .ref qk, .ref qr, .int (nI 0), .int (nI 0), .int (nI 0)])), (qc, .inl (dA, 4, .inl (fun _ => nI 0))), (aU, .inr (1, [.ref u1, .ref u2, .ref u3, .int (nI 0)])), (u1, .inl (dA, 1024, .inl (fun _ => nI 0))), (u2, .inl (dA, 32, .inl (fun _ => nI 0))), (u3, .inl (dA, 32, .inl (fun _ => nI 0))), (qk, .inl (dA, 400, .inl (fun _ => nI 0))), (qr, .inl (dA, 400, .inl (fun _ => nI 0))), (s0, .inr (3, [.null, .null, .int (nI 0), .int (nI 0), .int (nI 0)]))] H := hP
  have hD : va_D A [(x0, .inr (0, [.ref qs, .int (nI 0), .int (nI 2097151), .int (nI 0), .ref aT, .ref d0, .null])), (qs, .inl (dA, 120, .inl (fun _ => nI 0))), (aT, .inr (1, [.ref t1, .ref t2, .ref t3, .int (nI 0)])), (t1, .inl (dA, 1024, .inl (fun _ => nI 0))), (t2, .inl (dA, 32, .inl (fun _ => nI 0))), (t3, .inl (dA, 32, .inl (fun _ => nI 0))), (d0, .inr (2, [.ref aT, .ref qc, .ref aU, .ref qk, .ref qr, .int (nI 0), .int (nI 0), .int (nI 0)])), (qc, .inl (dA, 4, .inl (fun _ => nI 0))), (aU, .inr (1, [.ref u1, .ref u2, .ref u3, .int (nI 0)])), (u1, .inl (dA, 1024, .inl (fun _ => nI 0))), (u2, .inl (dA, 32, .inl (fun _ => nI 0))), (u3, .inl (dA, 32, .inl (fun _ => nI 0))), (qk, .inl (dA, 400, .inl (fun _ => nI 0))), (qr, .inl (dA, 400, .inl (fun _ => nI 0))), (s0, .inr (3, [.null, .null, .int (nI 0), .int (nI 0), .int (nI 0)]))] := hD
  refine lv_dup hx hb d_Rl_init_58 rfl ?_
  refine lv_aload_n hx hb d_Rl_init_59 rfl (lv_at hl 0 rfl) ?_
  refine va_get (D := (dC, dI)) (ci := 0) (v := .ref aT) (C := R_Rl) (T := F_Rl) (N := 7) hx hb hts (rg_c i_Rl) hown hK hP 0 rfl rfl 4 (by decide) (hts _ (List.mem_cons_of_mem _ m_106)) (fun _ h9 => h9) rfl d_Rl_init_60 ?_
  have hPc := hP.sub (ws' := [(s0, .inr (3, [.null, .null, .int (nI 0), .int (nI 0), .int (nI 0)]))]) [14] rfl
  have hDc := hD.sub (ws' := [(s0, .inr (3, [.null, .null, .int (nI 0), .int (nI 0), .int (nI 0)]))]) [14] (by decide) rfl
  have hFc := va_free (wc := [(s0, .inr (3, [.null, .null, .int (nI 0), .int (nI 0), .int (nI 0)]))]) hD hS hA [14] rfl
  refine va_callv (va_runI (As := [.ref aT]) (rest := [.ref s0, .ref x0]) ⟨hx, hb, hml, hown, hts⟩ (c_Se_init l dC dI dA s0 aT H.size) (cwI 1 hts (rg_G k_Se_init) rfl rfl rfl (hts _ (List.mem_cons_of_mem _ m_5)) (hts _ (List.mem_cons_of_mem _ m_85)) (hts _ (List.mem_cons_of_mem _ m_86)) rfl (by decide +kernel) ⟨Nat.le_of_ble_eq_true rfl, Nat.le_of_ble_eq_true rfl⟩) ⟨fun a U g mk q => ⟨q.1, q.2.1, q.2.2.1, va_K.moved (u := U) (U := U.calling g mk a) (Vm.Alike.refl U.vm) q.2.2.2.1, q.2.2.2.2⟩, fun U hU hW => ⟨rfl, by rw [hU], by rw [hU]; exact hPc, va_K.moved hW.alike (hK), hDc.weaken (fun _ _ _ _ => trivial)⟩⟩ rfl rfl hl.1 rfl (lv_room (Nat.le_of_ble_eq_true rfl)) d_Rl_init_63 ⟨Nat.le_of_ble_eq_true rfl, Nat.le_of_ble_eq_true rfl⟩) hS (fun q _ h => hFc q h) hFc (fun u t H1 locs ht hvm hw hB hz1 hk1 hS => ?_)
  obtain ⟨qd, hP1, hD1⟩ := hB
  rw [ht] at hP1
  obtain ⟨hP, hD⟩ := va_join (wr := [(x0, .inr (0, [.ref qs, .int (nI 0), .int (nI 2097151), .int (nI 0), .ref aT, .ref d0, .null])), (qs, .inl (dA, 120, .inl (fun _ => nI 0))), (aT, .inr (1, [.ref t1, .ref t2, .ref t3, .int (nI 0)])), (t1, .inl (dA, 1024, .inl (fun _ => nI 0))), (t2, .inl (dA, 32, .inl (fun _ => nI 0))), (t3, .inl (dA, 32, .inl (fun _ => nI 0))), (d0, .inr (2, [.ref aT, .ref qc, .ref aU, .ref qk, .ref qr, .int (nI 0), .int (nI 0), .int (nI 0)])), (qc, .inl (dA, 4, .inl (fun _ => nI 0))), (aU, .inr (1, [.ref u1, .ref u2, .ref u3, .int (nI 0)])), (u1, .inl (dA, 1024, .inl (fun _ => nI 0))), (u2, .inl (dA, 32, .inl (fun _ => nI 0))), (u3, .inl (dA, 32, .inl (fun _ => nI 0))), (qk, .inl (dA, 400, .inl (fun _ => nI 0))), (qr, .inl (dA, 400, .inl (fun _ => nI 0)))]) (w1 := [(s0, .inr (3, [.ref aT, .ref qd, .int (-1), .int (nI 0), .int (nI 0)])), (qd, .inl (dA, 4, .inl (fun _ => nI 0)))]) hP hD [14] [0, 1, 2, 3, 4, 5, 6, 7, 8, 9, 10, 11, 12, 13] rfl rfl (by decide) (by decide) hk1 hFc hP1 hD1
  clear hk1 hFc hPc hDc hP1 hD1
  generalize H1 = H at hP hS ⊢
  have hP : va_P (dC, dI) classes [(x0, .inr (0, [.ref qs, .int (nI 0), .int (nI 2097151), .int (nI 0), .ref aT, .ref d0, .null])), (qs, .inl (dA, 120, .inl (fun _ => nI 0))), (aT, .inr (1, [.ref t1, .ref t2, .ref t3, .int (nI 0)])), (t1, .inl (dA, 1024, .inl (fun _ => nI 0))), (t2, .inl (dA, 32, .inl (fun _ => nI 0))), (t3, .inl (dA, 32, .inl (fun _ => nI 0))), (d0, .inr (2, [.ref aT, .ref qc, .ref aU, .ref qk, .ref qr, .int (nI 0), .int (nI 0), .int (nI 0)])), (qc, .inl (dA, 4, .inl (fun _ => nI 0))), (aU, .inr (1, [.ref u1, .ref u2, .ref u3, .int (nI 0)])), (u1, .inl (dA, 1024, .inl (fun _ => nI 0))), (u2, .inl (dA, 32, .inl (fun _ => nI 0))), (u3, .inl (dA, 32, .inl (fun _ => nI 0))), (qk, .inl (dA, 400, .inl (fun _ => nI 0))), (qr, .inl (dA, 400, .inl (fun _ => nI 0))), (s0, .inr (3, [.ref aT, .ref qd, .int (-1), .int (nI 0), .int (nI 0)])), (qd, .inl (dA, 4, .inl (fun _ => nI 0)))] H := hP
  have hD : va_D A [(x0, .inr (0, [.ref qs, .int (nI 0), .int (nI 2097151), .int (nI 0), .ref aT, .ref d0, .null])), (qs, .inl (dA, 120, .inl (fun _ => nI 0))), (aT, .inr (1, [.ref t1, .ref t2, .ref t3, .int (nI 0)])), (t1, .inl (dA, 1024, .inl (fun _ => nI 0))), (t2, .inl (dA, 32, .inl (fun _ => nI 0))), (t3, .inl (dA, 32, .inl (fun _ => nI 0))), (d0, .inr (2, [.ref aT, .ref qc, .ref aU, .ref qk, .ref qr, .int (nI 0), .int (nI 0), .int (nI 0)])), (qc, .inl (dA, 4, .inl (fun _ => nI 0))), (aU, .inr (1, [.ref u1, .ref u2, .ref u3, .int (nI 0)])), (u1, .inl (dA, 1024, .inl (fun _ => nI 0))), (u2, .inl (dA, 32, .inl (fun _ => nI 0))), (u3, .inl (dA, 32, .inl (fun _ => nI 0))), (qk, .inl (dA, 400, .inl (fun _ => nI 0))), (qr, .inl (dA, 400, .inl (fun _ => nI 0))), (s0, .inr (3, [.ref aT, .ref qd, .int (-1), .int (nI 0), .int (nI 0)])), (qd, .inl (dA, 4, .inl (fun _ => nI 0)))] := hD
  refine va_putF (D := (dC, dI)) (ci := 0) (v := .ref s0) (ty := (.object "RlRounds$Seeker")) (C := R_Rl) (T := F_Rl) (N := 7) hx hb hts (rg_c i_Rl) t_Rl t_Rl_ok n_Rl hown hK hP hD hS 0 rfl rfl 6 (by decide) (hts _ (List.mem_cons_of_mem _ m_108)) (fun _ h9 => h9) rfl hin rfl (by decide +kernel) (by rfl) (by rfl) (Nat.le_of_ble_eq_true rfl) d_Rl_init_66 (fun H locs hP hD hS => ?_)
  have hP : va_P (dC, dI) classes [(x0, .inr (0, [.ref qs, .int (nI 0), .int (nI 2097151), .int (nI 0), .ref aT, .ref d0, .ref s0])), (qs, .inl (dA, 120, .inl (fun _ => nI 0))), (aT, .inr (1, [.ref t1, .ref t2, .ref t3, .int (nI 0)])), (t1, .inl (dA, 1024, .inl (fun _ => nI 0))), (t2, .inl (dA, 32, .inl (fun _ => nI 0))), (t3, .inl (dA, 32, .inl (fun _ => nI 0))), (d0, .inr (2, [.ref aT, .ref qc, .ref aU, .ref qk, .ref qr, .int (nI 0), .int (nI 0), .int (nI 0)])), (qc, .inl (dA, 4, .inl (fun _ => nI 0))), (aU, .inr (1, [.ref u1, .ref u2, .ref u3, .int (nI 0)])), (u1, .inl (dA, 1024, .inl (fun _ => nI 0))), (u2, .inl (dA, 32, .inl (fun _ => nI 0))), (u3, .inl (dA, 32, .inl (fun _ => nI 0))), (qk, .inl (dA, 400, .inl (fun _ => nI 0))), (qr, .inl (dA, 400, .inl (fun _ => nI 0))), (s0, .inr (3, [.ref aT, .ref qd, .int (-1), .int (nI 0), .int (nI 0)])), (qd, .inl (dA, 4, .inl (fun _ => nI 0)))] H := hP
  have hD : va_D A [(x0, .inr (0, [.ref qs, .int (nI 0), .int (nI 2097151), .int (nI 0), .ref aT, .ref d0, .ref s0])), (qs, .inl (dA, 120, .inl (fun _ => nI 0))), (aT, .inr (1, [.ref t1, .ref t2, .ref t3, .int (nI 0)])), (t1, .inl (dA, 1024, .inl (fun _ => nI 0))), (t2, .inl (dA, 32, .inl (fun _ => nI 0))), (t3, .inl (dA, 32, .inl (fun _ => nI 0))), (d0, .inr (2, [.ref aT, .ref qc, .ref aU, .ref qk, .ref qr, .int (nI 0), .int (nI 0), .int (nI 0)])), (qc, .inl (dA, 4, .inl (fun _ => nI 0))), (aU, .inr (1, [.ref u1, .ref u2, .ref u3, .int (nI 0)])), (u1, .inl (dA, 1024, .inl (fun _ => nI 0))), (u2, .inl (dA, 32, .inl (fun _ => nI 0))), (u3, .inl (dA, 32, .inl (fun _ => nI 0))), (qk, .inl (dA, 400, .inl (fun _ => nI 0))), (qr, .inl (dA, 400, .inl (fun _ => nI 0))), (s0, .inr (3, [.ref aT, .ref qd, .int (-1), .int (nI 0), .int (nI 0)])), (qd, .inl (dA, 4, .inl (fun _ => nI 0)))] := hD
  have hP : va_P (dC, dI) classes [(x0, .inr (0, [.ref qs, .int (nI 0), .int (nI 2097151), .int (nI 0), .ref aT, .ref d0, .ref s0])), (qs, .inl (dA, 120, .inl (fun _ => nI 0))), (d0, .inr (2, [.ref aT, .ref qc, .ref aU, .ref qk, .ref qr, .int (nI 0), .int (nI 0), .int (nI 0)])), (qc, .inl (dA, 4, .inl (fun _ => nI 0))), (aT, .inr (1, [.ref t1, .ref t2, .ref t3, .int (nI 0)])), (t1, .inl (dA, 1024, .inl (fun _ => nI 0))), (t2, .inl (dA, 32, .inl (fun _ => nI 0))), (t3, .inl (dA, 32, .inl (fun _ => nI 0))), (aU, .inr (1, [.ref u1, .ref u2, .ref u3, .int (nI 0)])), (u1, .inl (dA, 1024, .inl (fun _ => nI 0))), (u2, .inl (dA, 32, .inl (fun _ => nI 0))), (u3, .inl (dA, 32, .inl (fun _ => nI 0))), (qk, .inl (dA, 400, .inl (fun _ => nI 0))), (qr, .inl (dA, 400, .inl (fun _ => nI 0))), (s0, .inr (3, [.ref aT, .ref qd, .int (-1), .int (nI 0), .int (nI 0)])), (qd, .inl (dA, 4, .inl (fun _ => nI 0)))] H := hP.sub [0, 1, 6, 7, 2, 3, 4, 5, 8, 9, 10, 11, 12, 13, 14, 15] rfl
  have hD : va_D A [(x0, .inr (0, [.ref qs, .int (nI 0), .int (nI 2097151), .int (nI 0), .ref aT, .ref d0, .ref s0])), (qs, .inl (dA, 120, .inl (fun _ => nI 0))), (d0, .inr (2, [.ref aT, .ref qc, .ref aU, .ref qk, .ref qr, .int (nI 0), .int (nI 0), .int (nI 0)])), (qc, .inl (dA, 4, .inl (fun _ => nI 0))), (aT, .inr (1, [.ref t1, .ref t2, .ref t3, .int (nI 0)])), (t1, .inl (dA, 1024, .inl (fun _ => nI 0))), (t2, .inl (dA, 32, .inl (fun _ => nI 0))), (t3, .inl (dA, 32, .inl (fun _ => nI 0))), (aU, .inr (1, [.ref u1, .ref u2, .ref u3, .int (nI 0)])), (u1, .inl (dA, 1024, .inl (fun _ => nI 0))), (u2, .inl (dA, 32, .inl (fun _ => nI 0))), (u3, .inl (dA, 32, .inl (fun _ => nI 0))), (qk, .inl (dA, 400, .inl (fun _ => nI 0))), (qr, .inl (dA, 400, .inl (fun _ => nI 0))), (s0, .inr (3, [.ref aT, .ref qd, .int (-1), .int (nI 0), .int (nI 0)])), (qd, .inl (dA, 4, .inl (fun _ => nI 0)))] := hD.sub [0, 1, 6, 7, 2, 3, 4, 5, 8, 9, 10, 11, 12, 13, 14, 15] (by decide) rfl
  refine W.widen (k := 15) (n := 3125) (Nat.le_of_ble_eq_true rfl) (Nat.le_of_ble_eq_true rfl) ?_
  exact W.vret hx hb hr (fun t ht hW => ⟨⟨(), rfl, trivial, qs, d0, qc, aT, t1, t2, t3, aU, u1, u2, u3, qk, qr, s0, qd, by rw [ht]; exact hP, hD⟩, hS.F ht⟩) hS.2.2 d_Rl_init_69

set_option maxHeartbeats 4000000 in
set_option maxRecDepth 100000 in
theorem c_Mo_init (l : Launch) (dC : Nat → ClassId) (dI : Nat → Nat → Nat) (dA dZ : ClassId) (m0 : Nat) (sz : Nat) : Met l y_Mo_init (w_ y_Mo_init b_Mo_init 1 none) (rmn_ 1 8 98790) (va_Pc [.ref m0] (fun U => U.heap.size = sz ∧ va_P (dC, dI) classes [(m0, .inr (4, [.null, .int (nI 0), .null, .int (nI 0), .int (nI 0), .int (nI 0), .null, .null, .null, .int (nI 0), .null, .null, .null, .int (nI 0), .int (nI 0)]))] U.heap ∧ va_K (dC, dI) classes [(dA, .int), (dZ, .boolean)] U ∧ va_D (fun _ => True) [(m0, .inr (4, [.null, .int (nI 0), .null, .int (nI 0), .int (nI 0), .int (nI 0), .null, .null, .null, .int (nI 0), .null, .null, .null, .int (nI 0), .int (nI 0)]))])) (va_Qv (fun (_ : Unit) => True) (fun (_ : Unit) t => ∃ aS aO aR aC aH aA aL aB : Nat, va_P (dC, dI) classes [(m0, .inr (4, [.ref aS, .int (nI 0), .ref aO, .int (rb_z false), .int (rb_z false), .int (nI 0), .ref aR, .ref aC, .ref aH, .int (nI 0), .ref aA, .ref aL, .ref aB, .int (nI ((fun _ => 1, rt_free, fun _ => 0, 1) : sQ).2.2.2 - 1), .int (nI 0)])), (aS, .inl (dZ, 32768, .inl (rzf (fun _ => false)))), (aO, .inl (dZ, 21, .inl (rzf (fun _ => false)))), (aR, .inl (dA, 32768, .inl (rnf (fun _ => 0)))), (aC, .inl (dZ, 32768, .inl (rzf (fun _ => false)))), (aH, .inl (dA, 401, .inl (rnf (fun _ => 0)))), (aA, .inl (dA, 4, .inl (raf (((fun _ => 1, rt_free, fun _ => 0, 1) : sQ).1)))), (aL, .inl (dA, 48, .inl (rlf (((fun _ => 1, rt_free, fun _ => 0, 1) : sQ).2.1)))), (aB, .inl (dA, 12, .inl (rnf (((fun _ => 1, rt_free, fun _ => 0, 1) : sQ).2.2.1))))] t.heap ∧ va_D (va_A [(m0, .inr (4, [.null, .int (nI 0), .null, .int (nI 0), .int (nI 0), .int (nI 0), .null, .null, .null, .int (nI 0), .null, .null, .null, .int (nI 0), .int (nI 0)]))] sz) [(m0, .inr (4, [.ref aS, .int (nI 0), .ref aO, .int (rb_z false), .int (rb_z false), .int (nI 0), .ref aR, .ref aC, .ref aH, .int (nI 0), .ref aA, .ref aL, .ref aB, .int (nI ((fun _ => 1, rt_free, fun _ => 0, 1) : sQ).2.2.2 - 1), .int (nI 0)])), (aS, .inl (dZ, 32768, .inl (rzf (fun _ => false)))), (aO, .inl (dZ, 21, .inl (rzf (fun _ => false)))), (aR, .inl (dA, 32768, .inl (rnf (fun _ => 0)))), (aC, .inl (dZ, 32768, .inl (rzf (fun _ => false)))), (aH, .inl (dA, 401, .inl (rnf (fun _ => 0)))), (aA, .inl (dA, 4, .inl (raf (((fun _ => 1, rt_free, fun _ => 0, 1) : sQ).1)))), (aL, .inl (dA, 48, .inl (rlf (((fun _ => 1, rt_free, fun _ => 0, 1) : sQ).2.1)))), (aB, .inl (dA, 12, .inl (rnf (((fun _ => 1, rt_free, fun _ => 0, 1) : sQ).2.2.1))))]) (va_A [(m0, .inr (4, [.null, .int (nI 0), .null, .int (nI 0), .int (nI 0), .int (nI 0), .null, .null, .null, .int (nI 0), .null, .null, .null, .int (nI 0), .int (nI 0)]))] sz)) 8 98790 (va_A [(m0, .inr (4, [.null, .int (nI 0), .null, .int (nI 0), .int (nI 0), .int (nI 0), .null, .null, .null, .int (nI 0), .null, .null, .null, .int (nI 0), .int (nI 0)]))] sz) := by
  refine Met.ofW (cc := b_Mo_init) (maxL := 1) (ret := none) (by decide) rfl ?_
  intro p e s m args below meth c s₁ B hml hv
  obtain ⟨rfl, hsz, hP, hK, hD0⟩ := hv
  have hx := B.exec
  have hb := B.bytes
  have hr := B.returns
  have hts := atoms_spec (ws := (w_ y_Mo_init b_Mo_init 1 none)) B.pre
  have hown : s.vm.findClass R_Mo = some m.cls := findClass_of_methodNamed B.named
  have hlocks := B.notSynchronized
  have hin : meth.name = "<init>" := (name_of_methodNamed B.named B.method).1
  subst hsz
  have hD := hD0.self (sz := s.heap.size)
  generalize hAe : va_A [(m0, .inr (4, [.null, .int (nI 0), .null, .int (nI 0), .int (nI 0), .int (nI 0), .null, .null, .null, .int (nI 0), .null, .null, .null, .int (nI 0), .int (nI 0)]))] s.heap.size = A at hD ⊢
  have hA : ∀ q : Nat, s.heap.size ≤ q → A q := fun q h => by rw [← hAe]; exact Or.inr h
  have hS : va_S A s.heap s.heap [] := va_S.rf
  have hl := lv_entry ([.ref m0]) (n := 1) (Nat.le_of_ble_eq_true rfl)
  rw [lg_entry_eq]
  generalize (lg_sl ([.ref m0]) ++ List.replicate (1 - (lg_sl ([.ref m0])).length) Slot.unset).toArray = ls at hl ⊢
  have hl : lv_has ls 1 [(0, .ref m0)] := hl
  refine lv_aload_n hx hb d_Mo_init_0 rfl (lv_at hl 0 rfl) ?_
  refine W.objInit hx hb hown (hts _ (List.mem_cons_of_mem _ m_365)) (hts _ (List.mem_cons_of_mem _ m_18)) (hts _ (List.mem_cons_of_mem _ m_19)) rfl (by rw [hml]; exact hl.1) rfl d_Mo_init_1 (Nat.le_of_ble_eq_true rfl) (Nat.le_of_ble_eq_true rfl) ?_
  refine W.eq (g2 := F0 m 4 ls []) rfl ?_
  refine lv_aload_n hx hb d_Mo_init_4 rfl (lv_at hl 0 rfl) ?_
  refine lv_ldc (v := nI 32768) hx hb hown (hts _ (List.mem_cons_of_mem _ m_366)) d_Mo_init_5 ?_
  refine va_newa (atype := .boolean) (ty := .boolean) (a0 := (32768, .inl (rzf (fun _ => false)))) hx hb (hts _ (List.mem_cons_of_mem _ m_413)) rfl hK hP hD hS hA (fun _ => rfl) (nI_pos (by decide)) (nI_clamp (by decide)) (by decide) (Nat.le_of_ble_eq_true rfl) (Nat.le_of_ble_eq_true rfl) d_Mo_init_7 (fun aS cA H hK2 hP hD hS => ?_)
  have hcA : cA = dZ := rv_cA_boolean hK hK2 1 2 rfl rfl
  rw [hcA] at hP hD
  clear hK2 hcA
  have hP : va_P (dC, dI) classes [(m0, .inr (4, [.null, .int (nI 0), .null, .int (nI 0), .int (nI 0), .int (nI 0), .null, .null, .null, .int (nI 0), .null, .null, .null, .int (nI 0), .int (nI 0)])), (aS, .inl (dZ, 32768, .inl (rzf (fun _ => false))))] H := hP
  have hD : va_D A [(m0, .inr (4, [.null, .int (nI 0), .null, .int (nI 0), .int (nI 0), .int (nI 0), .null, .null, .null, .int (nI 0), .null, .null, .null, .int (nI 0), .int (nI 0)])), (aS, .inl (dZ, 32768, .inl (rzf (fun _ => false))))] := hD
  refine va_putF (D := (dC, dI)) (ci := 4) (v := .ref aS) (ty := (.array .boolean)) (C := R_Mo) (T := F_Mo) (N := 15) hx hb hts (rg_c i_Mo) t_Mo t_Mo_ok n_Mo hown hK hP hD hS 0 rfl rfl 0 (by decide) (hts _ (List.mem_cons_of_mem _ m_367)) (fun _ h9 => h9) rfl hin rfl (by decide +kernel) (by rfl) (by rfl) (Nat.le_of_ble_eq_true rfl) d_Mo_init_9 (fun H locs hP hD hS => ?_)
  have hP : va_P (dC, dI) classes [(m0, .inr (4, [.ref aS, .int (nI 0), .null, .int (nI 0), .int (nI 0), .int (nI 0), .null, .null, .null, .int (nI 0), .null, .null, .null, .int (nI 0), .int (nI 0)])), (aS, .inl (dZ, 32768, .inl (rzf (fun _ => false))))] H := hP
  have hD : va_D A [(m0, .inr (4, [.ref aS, .int (nI 0), .null, .int (nI 0), .int (nI 0), .int (nI 0), .null, .null, .null, .int (nI 0), .null, .null, .null, .int (nI 0), .int (nI 0)])), (aS, .inl (dZ, 32768, .inl (rzf (fun _ => false))))] := hD
  refine lv_aload_n hx hb d_Mo_init_12 rfl (lv_at hl 0 rfl) ?_
  refine lv_bipush (v := nI 21) hx hb d_Mo_init_13 (by decide) ?_
  refine va_newa (atype := .boolean) (ty := .boolean) (a0 := (21, .inl (rzf (fun _ => false)))) hx hb (hts _ (List.mem_cons_of_mem _ m_413)) rfl hK hP hD hS hA (fun _ => rfl) (nI_pos (by decide)) (nI_clamp (by decide)) (by decide) (Nat.le_of_ble_eq_true rfl) (Nat.le_of_ble_eq_true rfl) d_Mo_init_15 (fun aO cA H hK2 hP hD hS => ?_)
  have hcA : cA = dZ := rv_cA_boolean hK hK2 1 2 rfl rfl
  rw [hcA] at hP hD
  clear hK2 hcA
  have hP : va_P (dC, dI) classes [(m0, .inr (4, [.ref aS, .int (nI 0), .null, .int (nI 0), .int (nI 0), .int (nI 0), .null, .null, .null, .int (nI 0), .null, .null, .null, .int (nI 0), .int (nI 0)])), (aS, .inl (dZ, 32768, .inl (rzf (fun _ => false)))), (aO, .inl (dZ, 21, .inl (rzf (fun _ => false))))] H := hP
  have hD : va_D A [(m0, .inr (4, [.ref aS, .int (nI 0), .null, .int (nI 0), .int (nI 0), .int (nI 0), .null, .null, .null, .int (nI 0), .null, .null, .null, .int (nI 0), .int (nI 0)])), (aS, .inl (dZ, 32768, .inl (rzf (fun _ => false)))), (aO, .inl (dZ, 21, .inl (rzf (fun _ => false))))] := hD
  refine va_putF (D := (dC, dI)) (ci := 4) (v := .ref aO) (ty := (.array .boolean)) (C := R_Mo) (T := F_Mo) (N := 15) hx hb hts (rg_c i_Mo) t_Mo t_Mo_ok n_Mo hown hK hP hD hS 0 rfl rfl 2 (by decide) (hts _ (List.mem_cons_of_mem _ m_369)) (fun _ h9 => h9) rfl hin rfl (by decide +kernel) (by rfl) (by rfl) (Nat.le_of_ble_eq_true rfl) d_Mo_init_17 (fun H locs hP hD hS => ?_)
  have hP : va_P (dC, dI) classes [(m0, .inr (4, [.ref aS, .int (nI 0), .ref aO, .int (nI 0), .int (nI 0), .int (nI 0), .null, .null, .null, .int (nI 0), .null, .null, .null, .int (nI 0), .int (nI 0)])), (aS, .inl (dZ, 32768, .inl (rzf (fun _ => false)))), (aO, .inl (dZ, 21, .inl (rzf (fun _ => false))))] H := hP
  have hD : va_D A [(m0, .inr (4, [.ref aS, .int (nI 0), .ref aO, .int (nI 0), .int (nI 0), .int (nI 0), .null, .null, .null, .int (nI 0), .null, .null, .null, .int (nI 0), .int (nI 0)])), (aS, .inl (dZ, 32768, .inl (rzf (fun _ => false)))), (aO, .inl (dZ, 21, .inl (rzf (fun _ => false))))] := hD
  refine lv_aload_n hx hb d_Mo_init_20 rfl (lv_at hl 0 rfl) ?_
  refine lv_ldc (v := nI 32768) hx hb hown (hts _ (List.mem_cons_of_mem _ m_366)) d_Mo_init_21 ?_
  refine va_newa (atype := .int) (ty := .int) (a0 := (32768, .inl (rnf (fun _ => 0)))) hx hb (hts _ (List.mem_cons_of_mem _ m_40)) rfl hK hP hD hS hA (fun _ => rfl) (nI_pos (by decide)) (nI_clamp (by decide)) (by decide) (Nat.le_of_ble_eq_true rfl) (Nat.le_of_ble_eq_true rfl) d_Mo_init_23 (fun aR cA H hK2 hP hD hS => ?_)
  have hcA : cA = dA := rv_cA_int hK hK2 0 2 rfl rfl
  rw [hcA] at hP hD
  clear hK2 hcA
  have hP : va_P (dC, dI) classes [(m0, .inr (4, [.ref aS, .int (nI 0), .ref aO, .int (nI 0), .int (nI 0), .int (nI 0), .null, .null, .null, .int (nI 0), .null, .null, .null, .int (nI 0), .int (nI 0)])), (aS, .inl (dZ, 32768, .inl (rzf (fun _ => false)))), (aO, .inl (dZ, 21, .inl (rzf (fun _ => false)))), (aR, .inl (dA, 32768, .inl (rnf (fun _ => 0))))] H := hP
  have hD : va_D A [(m0, .inr (4, [.ref aS, .int (nI 0), .ref aO, .int (nI 0), .int (nI 0), .int (nI 0), .null, .null, .null, .int (nI 0), .null, .null, .null, .int (nI 0), .int (nI 0)])), (aS, .inl (dZ, 32768, .inl (rzf (fun _ => false)))), (aO, .inl (dZ, 21, .inl (rzf (fun _ => false)))), (aR, .inl (dA, 32768, .inl (rnf (fun _ => 0))))] := hD
  refine va_putF (D := (dC, dI)) (ci := 4) (v := .ref aR) (ty := (.array .int)) (C := R_Mo) (T := F_Mo) (N := 15) hx hb hts (rg_c i_Mo) t_Mo t_Mo_ok n_Mo hown hK hP hD hS 0 rfl rfl 6 (by decide) (hts _ (List.mem_cons_of_mem _ m_373)) (fun _ h9 => h9) rfl hin rfl (by decide +kernel) (by rfl) (by rfl) (Nat.le_of_ble_eq_true rfl) d_Mo_init_25 (fun H locs hP hD hS => ?_)
  have hP : va_P (dC, dI) classes [(m0, .inr (4, [.ref aS, .int (nI 0), .ref aO, .int (nI 0), .int (nI 0), .int (nI 0), .ref aR, .null, .null, .int (nI 0), .null, .null, .null, .int (nI 0), .int (nI 0)])), (aS, .inl (dZ, 32768, .inl (rzf (fun _ => false)))), (aO, .inl (dZ, 21, .inl (rzf (fun _ => false)))), (aR, .inl (dA, 32768, .inl (rnf (fun _ => 0))))] H := hP
  have hD : va_D A [(m0, .inr (4, [.ref aS, .int (nI 0), .ref aO, .int (nI 0), .int (nI 0), .int (nI 0), .ref aR, .null, .null, .int (nI 0), .null, .null, .null, .int (nI 0), .int (nI 0)])), (aS, .inl (dZ, 32768, .inl (rzf (fun _ => false)))), (aO, .inl (dZ, 21, .inl (rzf (fun _ => false)))), (aR, .inl (dA, 32768, .inl (rnf (fun _ => 0))))] := hD
  refine lv_aload_n hx hb d_Mo_init_28 rfl (lv_at hl 0 rfl) ?_
  refine lv_ldc (v := nI 32768) hx hb hown (hts _ (List.mem_cons_of_mem _ m_366)) d_Mo_init_29 ?_
  refine va_newa (atype := .boolean) (ty := .boolean) (a0 := (32768, .inl (rzf (fun _ => false)))) hx hb (hts _ (List.mem_cons_of_mem _ m_413)) rfl hK hP hD hS hA (fun _ => rfl) (nI_pos (by decide)) (nI_clamp (by decide)) (by decide) (Nat.le_of_ble_eq_true rfl) (Nat.le_of_ble_eq_true rfl) d_Mo_init_31 (fun aC cA H hK2 hP hD hS => ?_)
  have hcA : cA = dZ := rv_cA_boolean hK hK2 1 2 rfl rfl
  rw [hcA] at hP hD
  clear hK2 hcA
  have hP : va_P (dC, dI) classes [(m0, .inr (4, [.ref aS, .int (nI 0), .ref aO, .int (nI 0), .int (nI 0), .int (nI 0), .ref aR, .null, .null, .int (nI 0), .null, .null, .null, .int (nI 0), .int (nI 0)])), (aS, .inl (dZ, 32768, .inl (rzf (fun _ => false)))), (aO, .inl (dZ, 21, .inl (rzf (fun _ => false)))), (aR, .inl (dA, 32768, .inl (rnf (fun _ => 0)))), (aC, .inl (dZ, 32768, .inl (rzf (fun _ => false))))] H := hP
  have hD : va_D A [(m0, .inr (4, [.ref aS, .int (nI 0), .ref aO, .int (nI 0), .int (nI 0), .int (nI 0), .ref aR, .null, .null, .int (nI 0), .null, .null, .null, .int (nI 0), .int (nI 0)])), (aS, .inl (dZ, 32768, .inl (rzf (fun _ => false)))), (aO, .inl (dZ, 21, .inl (rzf (fun _ => false)))), (aR, .inl (dA, 32768, .inl (rnf (fun _ => 0)))), (aC, .inl (dZ, 32768, .inl (rzf (fun _ => false))))] := hD
  refine va_putF (D := (dC, dI)) (ci := 4) (v := .ref aC) (ty := (.array .boolean)) (C := R_Mo) (T := F_Mo) (N := 15) hx hb hts (rg_c i_Mo) t_Mo t_Mo_ok n_Mo hown hK hP hD hS 0 rfl rfl 7 (by decide) (hts _ (List.mem_cons_of_mem _ m_374)) (fun _ h9 => h9) rfl hin rfl (by decide +kernel) (by rfl) (by rfl) (Nat.le_of_ble_eq_true rfl) d_Mo_init_33 (fun H locs hP hD hS => ?_)
  have hP : va_P (dC, dI) classes [(m0, .inr (4, [.ref aS, .int (nI 0), .ref aO, .int (nI 0), .int (nI 0), .int (nI 0), .ref aR, .ref aC, .null, .int (nI 0), .null, .null, .null, .int (nI 0), .int (nI 0)])), (aS, .inl (dZ, 32768, .inl (rzf (fun _ => false)))), (aO, .inl (dZ, 21, .inl (rzf (fun _ => false)))), (aR, .inl (dA, 32768, .inl (rnf (fun _ => 0)))), (aC, .inl (dZ, 32768, .inl (rzf (fun _ => false))))] H := hP
  have hD : va_D A [(m0, .inr (4, [.ref aS, .int (nI 0), .ref aO, .int (nI 0), .int (nI 0), .int (nI 0), .ref aR, .ref aC, .null, .int (nI 0), .null, .null, .null, .int (nI 0), .int (nI 0)])), (aS, .inl (dZ, 32768, .inl (rzf (fun _ => false)))), (aO, .inl (dZ, 21, .inl (rzf (fun _ => false)))), (aR, .inl (dA, 32768, .inl (rnf (fun _ => 0)))), (aC, .inl (dZ, 32768, .inl (rzf (fun _ => false))))] := hD
  refine lv_aload_n hx hb d_Mo_init_36 rfl (lv_at hl 0 rfl) ?_
  refine lv_sipush (v := nI 401) hx hb d_Mo_init_37 (by decide) ?_
  refine va_newa (atype := .int) (ty := .int) (a0 := (401, .inl (rnf (fun _ => 0)))) hx hb (hts _ (List.mem_cons_of_mem _ m_40)) rfl hK hP hD hS hA (fun _ => rfl) (nI_pos (by decide)) (nI_clamp (by decide)) (by decide) (Nat.le_of_ble_eq_true rfl) (Nat.le_of_ble_eq_true rfl) d_Mo_init_40 (fun aH cA H hK2 hP hD hS => ?_)
  have hcA : cA = dA := rv_cA_int hK hK2 0 2 rfl rfl
  rw [hcA] at hP hD
  clear hK2 hcA
  have hP : va_P (dC, dI) classes [(m0, .inr (4, [.ref aS, .int (nI 0), .ref aO, .int (nI 0), .int (nI 0), .int (nI 0), .ref aR, .ref aC, .null, .int (nI 0), .null, .null, .null, .int (nI 0), .int (nI 0)])), (aS, .inl (dZ, 32768, .inl (rzf (fun _ => false)))), (aO, .inl (dZ, 21, .inl (rzf (fun _ => false)))), (aR, .inl (dA, 32768, .inl (rnf (fun _ => 0)))), (aC, .inl (dZ, 32768, .inl (rzf (fun _ => false)))), (aH, .inl (dA, 401, .inl (rnf (fun _ => 0))))] H := hP
  have hD : va_D A [(m0, .inr (4, [.ref aS, .int (nI 0), .ref aO, .int (nI 0), .int (nI 0), .int (nI 0), .ref aR, .ref aC, .null, .int (nI 0), .null, .null, .null, .int (nI 0), .int (nI 0)])), (aS, .inl (dZ, 32768, .inl (rzf (fun _ => false)))), (aO, .inl (dZ, 21, .inl (rzf (fun _ => false)))), (aR, .inl (dA, 32768, .inl (rnf (fun _ => 0)))), (aC, .inl (dZ, 32768, .inl (rzf (fun _ => false)))), (aH, .inl (dA, 401, .inl (rnf (fun _ => 0))))] := hD
  refine va_putF (D := (dC, dI)) (ci := 4) (v := .ref aH) (ty := (.array .int)) (C := R_Mo) (T := F_Mo) (N := 15) hx hb hts (rg_c i_Mo) t_Mo t_Mo_ok n_Mo hown hK hP hD hS 0 rfl rfl 8 (by decide) (hts _ (List.mem_cons_of_mem _ m_375)) (fun _ h9 => h9) rfl hin rfl (by decide +kernel) (by rfl) (by rfl) (Nat.le_of_ble_eq_true rfl) d_Mo_init_42 (fun H locs hP hD hS => ?_)
  have hP : va_P (dC, dI) classes [(m0, .inr (4, [.ref aS, .int (nI 0), .ref aO, .int (nI 0), .int (nI 0), .int (nI 0), .ref aR, .ref aC, .ref aH, .int (nI 0), .null, .null, .null, .int (nI 0), .int (nI 0)])), (aS, .inl (dZ, 32768, .inl (rzf (fun _ => false)))), (aO, .inl (dZ, 21, .inl (rzf (fun _ => false)))), (aR, .inl (dA, 32768, .inl (rnf (fun _ => 0)))), (aC, .inl (dZ, 32768, .inl (rzf (fun _ => false)))), (aH, .inl (dA, 401, .inl (rnf (fun _ => 0))))] H := hP
  have hD : va_D A [(m0, .inr (4, [.ref aS, .int (nI 0), .ref aO, .int (nI 0), .int (nI 0), .int (nI 0), .ref aR, .ref aC, .ref aH, .int (nI 0), .null, .null, .null, .int (nI 0), .int (nI 0)])), (aS, .inl (dZ, 32768, .inl (rzf (fun _ => false)))), (aO, .inl (dZ, 21, .inl (rzf (fun _ => false)))), (aR, .inl (dA, 32768, .inl (rnf (fun _ => 0)))), (aC, .inl (dZ, 32768, .inl (rzf (fun _ => false)))), (aH, .inl (dA, 401, .inl (rnf (fun _ => 0))))] := hD
  refine lv_aload_n hx hb d_Mo_init_45 rfl (lv_at hl 0 rfl) ?_
  refine lv_iconst (v := nI 4) hx hb d_Mo_init_46 (by decide) ?_
  refine va_newa (atype := .int) (ty := .int) (a0 := (4, .inl (raf (fun _ => 1)))) hx hb (hts _ (List.mem_cons_of_mem _ m_40)) rfl hK hP hD hS hA (fun _ => rfl) (nI_pos (by decide)) (nI_clamp (by decide)) (by decide) (Nat.le_of_ble_eq_true rfl) (Nat.le_of_ble_eq_true rfl) d_Mo_init_47 (fun aA cA H hK2 hP hD hS => ?_)
  have hcA : cA = dA := rv_cA_int hK hK2 0 2 rfl rfl
  rw [hcA] at hP hD
  clear hK2 hcA
  have hP : va_P (dC, dI) classes [(m0, .inr (4, [.ref aS, .int (nI 0), .ref aO, .int (nI 0), .int (nI 0), .int (nI 0), .ref aR, .ref aC, .ref aH, .int (nI 0), .null, .null, .null, .int (nI 0), .int (nI 0)])), (aS, .inl (dZ, 32768, .inl (rzf (fun _ => false)))), (aO, .inl (dZ, 21, .inl (rzf (fun _ => false)))), (aR, .inl (dA, 32768, .inl (rnf (fun _ => 0)))), (aC, .inl (dZ, 32768, .inl (rzf (fun _ => false)))), (aH, .inl (dA, 401, .inl (rnf (fun _ => 0)))), (aA, .inl (dA, 4, .inl (raf (fun _ => 1))))] H := hP
  have hD : va_D A [(m0, .inr (4, [.ref aS, .int (nI 0), .ref aO, .int (nI 0), .int (nI 0), .int (nI 0), .ref aR, .ref aC, .ref aH, .int (nI 0), .null, .null, .null, .int (nI 0), .int (nI 0)])), (aS, .inl (dZ, 32768, .inl (rzf (fun _ => false)))), (aO, .inl (dZ, 21, .inl (rzf (fun _ => false)))), (aR, .inl (dA, 32768, .inl (rnf (fun _ => 0)))), (aC, .inl (dZ, 32768, .inl (rzf (fun _ => false)))), (aH, .inl (dA, 401, .inl (rnf (fun _ => 0)))), (aA, .inl (dA, 4, .inl (raf (fun _ => 1))))] := hD
  refine va_putF (D := (dC, dI)) (ci := 4) (v := .ref aA) (ty := (.array .int)) (C := R_Mo) (T := F_Mo) (N := 15) hx hb hts (rg_c i_Mo) t_Mo t_Mo_ok n_Mo hown hK hP hD hS 0 rfl rfl 10 (by decide) (hts _ (List.mem_cons_of_mem _ m_377)) (fun _ h9 => h9) rfl hin rfl (by decide +kernel) (by rfl) (by rfl) (Nat.le_of_ble_eq_true rfl) d_Mo_init_49 (fun H locs hP hD hS => ?_)
  have hP : va_P (dC, dI) classes [(m0, .inr (4, [.ref aS, .int (nI 0), .ref aO, .int (nI 0), .int (nI 0), .int (nI 0), .ref aR, .ref aC, .ref aH, .int (nI 0), .ref aA, .null, .null, .int (nI 0), .int (nI 0)])), (aS, .inl (dZ, 32768, .inl (rzf (fun _ => false)))), (aO, .inl (dZ, 21, .inl (rzf (fun _ => false)))), (aR, .inl (dA, 32768, .inl (rnf (fun _ => 0)))), (aC, .inl (dZ, 32768, .inl (rzf (fun _ => false)))), (aH, .inl (dA, 401, .inl (rnf (fun _ => 0)))), (aA, .inl (dA, 4, .inl (raf (fun _ => 1))))] H := hP
  have hD : va_D A [(m0, .inr (4, [.ref aS, .int (nI 0), .ref aO, .int (nI 0), .int (nI 0), .int (nI 0), .ref aR, .ref aC, .ref aH, .int (nI 0), .ref aA, .null, .null, .int (nI 0), .int (nI 0)])), (aS, .inl (dZ, 32768, .inl (rzf (fun _ => false)))), (aO, .inl (dZ, 21, .inl (rzf (fun _ => false)))), (aR, .inl (dA, 32768, .inl (rnf (fun _ => 0)))), (aC, .inl (dZ, 32768, .inl (rzf (fun _ => false)))), (aH, .inl (dA, 401, .inl (rnf (fun _ => 0)))), (aA, .inl (dA, 4, .inl (raf (fun _ => 1))))] := hD
  refine lv_aload_n hx hb d_Mo_init_52 rfl (lv_at hl 0 rfl) ?_
  refine lv_bipush (v := nI 48) hx hb d_Mo_init_53 (by decide) ?_
  refine va_newa (atype := .int) (ty := .int) (a0 := (48, .inl (fun _ => nI 0))) hx hb (hts _ (List.mem_cons_of_mem _ m_40)) rfl hK hP hD hS hA (fun _ => rfl) (nI_pos (by decide)) (nI_clamp (by decide)) (by decide) (Nat.le_of_ble_eq_true rfl) (Nat.le_of_ble_eq_true rfl) d_Mo_init_55 (fun aL cA H hK2 hP hD hS => ?_)
  have hcA : cA = dA := rv_cA_int hK hK2 0 2 rfl rfl
  rw [hcA] at hP hD
  clear hK2 hcA
  have hP : va_P (dC, dI) classes [(m0, .inr (4, [.ref aS, .int (nI 0), .ref aO, .int (nI 0), .int (nI 0), .int (nI 0), .ref aR, .ref aC, .ref aH, .int (nI 0), .ref aA, .null, .null, .int (nI 0), .int (nI 0)])), (aS, .inl (dZ, 32768, .inl (rzf (fun _ => false)))), (aO, .inl (dZ, 21, .inl (rzf (fun _ => false)))), (aR, .inl (dA, 32768, .inl (rnf (fun _ => 0)))), (aC, .inl (dZ, 32768, .inl (rzf (fun _ => false)))), (aH, .inl (dA, 401, .inl (rnf (fun _ => 0)))), (aA, .inl (dA, 4, .inl (raf (fun _ => 1)))), (aL, .inl (dA, 48, .inl (fun _ => nI 0)))] H := hP
  have hD : va_D A [(m0, .inr (4, [.ref aS, .int (nI 0), .ref aO, .int (nI 0), .int (nI 0), .int (nI 0), .ref aR, .ref aC, .ref aH, .int (nI 0), .ref aA, .null, .null, .int (nI 0), .int (nI 0)])), (aS, .inl (dZ, 32768, .inl (rzf (fun _ => false)))), (aO, .inl (dZ, 21, .inl (rzf (fun _ => false)))), (aR, .inl (dA, 32768, .inl (rnf (fun _ => 0)))), (aC, .inl (dZ, 32768, .inl (rzf (fun _ => false)))), (aH, .inl (dA, 401, .inl (rnf (fun _ => 0)))), (aA, .inl (dA, 4, .inl (raf (fun _ => 1)))), (aL, .inl (dA, 48, .inl (fun _ => nI 0)))] := hD
  refine va_putF (D := (dC, dI)) (ci := 4) (v := .ref aL) (ty := (.array .int)) (C := R_Mo) (T := F_Mo) (N := 15) hx hb hts (rg_c i_Mo) t_Mo t_Mo_ok n_Mo hown hK hP hD hS 0 rfl rfl 11 (by decide) (hts _ (List.mem_cons_of_mem _ m_378)) (fun _ h9 => h9) rfl hin rfl (by decide +kernel) (by rfl) (by rfl) (Nat.le_of_ble_eq_true rfl) d_Mo_init_57 (fun H locs hP hD hS => ?_)
  have hP : va_P (dC, dI) classes [(m0, .inr (4, [.ref aS, .int (nI 0), .ref aO, .int (nI 0), .int (nI 0), .int (nI 0), .ref aR, .ref aC, .ref aH, .int (nI 0), .ref aA, .ref aL, .null, .int (nI 0), .int (nI 0)])), (aS, .inl (dZ, 32768, .inl (rzf (fun _ => false)))), (aO, .inl (dZ, 21, .inl (rzf (fun _ => false)))), (aR, .inl (dA, 32768, .inl (rnf (fun _ => 0)))), (aC, .inl (dZ, 32768, .inl (rzf (fun _ => false)))), (aH, .inl (dA, 401, .inl (rnf (fun _ => 0)))), (aA, .inl (dA, 4, .inl (raf (fun _ => 1)))), (aL, .inl (dA, 48, .inl (fun _ => nI 0)))] H := hP
  have hD : va_D A [(m0, .inr (4, [.ref aS, .int (nI 0), .ref aO, .int (nI 0), .int (nI 0), .int (nI 0), .ref aR, .ref aC, .ref aH, .int (nI 0), .ref aA, .ref aL, .null, .int (nI 0), .int (nI 0)])), (aS, .inl (dZ, 32768, .inl (rzf (fun _ => false)))), (aO, .inl (dZ, 21, .inl (rzf (fun _ => false)))), (aR, .inl (dA, 32768, .inl (rnf (fun _ => 0)))), (aC, .inl (dZ, 32768, .inl (rzf (fun _ => false)))), (aH, .inl (dA, 401, .inl (rnf (fun _ => 0)))), (aA, .inl (dA, 4, .inl (raf (fun _ => 1)))), (aL, .inl (dA, 48, .inl (fun _ => nI 0)))] := hD
  refine lv_aload_n hx hb d_Mo_init_60 rfl (lv_at hl 0 rfl) ?_
  refine lv_bipush (v := nI 12) hx hb d_Mo_init_61 (by decide) ?_
  refine va_newa (atype := .int) (ty := .int) (a0 := (12, .inl (rnf (fun _ => 0)))) hx hb (hts _ (List.mem_cons_of_mem _ m_40)) rfl hK hP hD hS hA (fun _ => rfl) (nI_pos (by decide)) (nI_clamp (by decide)) (by decide) (Nat.le_of_ble_eq_true rfl) (Nat.le_of_ble_eq_true rfl) d_Mo_init_63 (fun aB cA H hK2 hP hD hS => ?_)
  have hcA : cA = dA := rv_cA_int hK hK2 0 2 rfl rfl
  rw [hcA] at hP hD
  clear hK2 hcA
  have hP : va_P (dC, dI) classes [(m0, .inr (4, [.ref aS, .int (nI 0), .ref aO, .int (nI 0), .int (nI 0), .int (nI 0), .ref aR, .ref aC, .ref aH, .int (nI 0), .ref aA, .ref aL, .null, .int (nI 0), .int (nI 0)])), (aS, .inl (dZ, 32768, .inl (rzf (fun _ => false)))), (aO, .inl (dZ, 21, .inl (rzf (fun _ => false)))), (aR, .inl (dA, 32768, .inl (rnf (fun _ => 0)))), (aC, .inl (dZ, 32768, .inl (rzf (fun _ => false)))), (aH, .inl (dA, 401, .inl (rnf (fun _ => 0)))), (aA, .inl (dA, 4, .inl (raf (fun _ => 1)))), (aL, .inl (dA, 48, .inl (fun _ => nI 0))), (aB, .inl (dA, 12, .inl (rnf (fun _ => 0))))] H := hP
  have hD : va_D A [(m0, .inr (4, [.ref aS, .int (nI 0), .ref aO, .int (nI 0), .int (nI 0), .int (nI 0), .ref aR, .ref aC, .ref aH, .int (nI 0), .ref aA, .ref aL, .null, .int (nI 0), .int (nI 0)])), (aS, .inl (dZ, 32768, .inl (rzf (fun _ => false)))), (aO, .inl (dZ, 21, .inl (rzf (fun _ => false)))), (aR, .inl (dA, 32768, .inl (rnf (fun _ => 0)))), (aC, .inl (dZ, 32768, .inl (rzf (fun _ => false)))), (aH, .inl (dA, 401, .inl (rnf (fun _ => 0)))), (aA, .inl (dA, 4, .inl (raf (fun _ => 1)))), (aL, .inl (dA, 48, .inl (fun _ => nI 0))), (aB, .inl (dA, 12, .inl (rnf (fun _ => 0))))] := hD
  refine va_putF (D := (dC, dI)) (ci := 4) (v := .ref aB) (ty := (.array .int)) (C := R_Mo) (T := F_Mo) (N := 15) hx hb hts (rg_c i_Mo) t_Mo t_Mo_ok n_Mo hown hK hP hD hS 0 rfl rfl 12 (by decide) (hts _ (List.mem_cons_of_mem _ m_379)) (fun _ h9 => h9) rfl hin rfl (by decide +kernel) (by rfl) (by rfl) (Nat.le_of_ble_eq_true rfl) d_Mo_init_65 (fun H locs hP hD hS => ?_)
  have hP : va_P (dC, dI) classes [(m0, .inr (4, [.ref aS, .int (nI 0), .ref aO, .int (nI 0), .int (nI 0), .int (nI 0), .ref aR, .ref aC, .ref aH, .int (nI 0), .ref aA, .ref aL, .ref aB, .int (nI 0), .int (nI 0)])), (aS, .inl (dZ, 32768, .inl (rzf (fun _ => false)))), (aO, .inl (dZ, 21, .inl (rzf (fun _ => false)))), (aR, .inl (dA, 32768, .inl (rnf (fun _ => 0)))), (aC, .inl (dZ, 32768, .inl (rzf (fun _ => false)))), (aH, .inl (dA, 401, .inl (rnf (fun _ => 0)))), (aA, .inl (dA, 4, .inl (raf (fun _ => 1)))), (aL, .inl (dA, 48, .inl (fun _ => nI 0))), (aB, .inl (dA, 12, .inl (rnf (fun _ => 0))))] H := hP
  have hD : va_D A [(m0, .inr (4, [.ref aS, .int (nI 0), .ref aO, .int (nI 0), .int (nI 0), .int (nI 0), .ref aR, .ref aC, .ref aH, .int (nI 0), .ref aA, .ref aL, .ref aB, .int (nI 0), .int (nI 0)])), (aS, .inl (dZ, 32768, .inl (rzf (fun _ => false)))), (aO, .inl (dZ, 21, .inl (rzf (fun _ => false)))), (aR, .inl (dA, 32768, .inl (rnf (fun _ => 0)))), (aC, .inl (dZ, 32768, .inl (rzf (fun _ => false)))), (aH, .inl (dA, 401, .inl (rnf (fun _ => 0)))), (aA, .inl (dA, 4, .inl (raf (fun _ => 1)))), (aL, .inl (dA, 48, .inl (fun _ => nI 0))), (aB, .inl (dA, 12, .inl (rnf (fun _ => 0))))] := hD
  refine lv_aload_n hx hb d_Mo_init_68 rfl (lv_at hl 0 rfl) ?_
  refine lv_iconst (v := nI 0) hx hb d_Mo_init_69 (by decide) ?_
  refine va_put (D := (dC, dI)) (ci := 4) (v := .int (nI 0)) (ty := .boolean) (C := R_Mo) (T := F_Mo) (N := 15) hx hb hts (rg_c i_Mo) t_Mo t_Mo_ok n_Mo hown hK hP hD hS 0 rfl rfl 3 (by decide) (hts _ (List.mem_cons_of_mem _ m_370)) (fun _ h9 => h9) rfl (by decide +kernel) (by rfl) (by rfl) (Nat.le_of_ble_eq_true rfl) d_Mo_init_70 (fun H locs hP hD hS => ?_)
  have hP : va_P (dC, dI) classes [(m0, .inr (4, [.ref aS, .int (nI 0), .ref aO, .int (nI 0), .int (nI 0), .int (nI 0), .ref aR, .ref aC, .ref aH, .int (nI 0), .ref aA, .ref aL, .ref aB, .int (nI 0), .int (nI 0)])), (aS, .inl (dZ, 32768, .inl (rzf (fun _ => false)))), (aO, .inl (dZ, 21, .inl (rzf (fun _ => false)))), (aR, .inl (dA, 32768, .inl (rnf (fun _ => 0)))), (aC, .inl (dZ, 32768, .inl (rzf (fun _ => false)))), (aH, .inl (dA, 401, .inl (rnf (fun _ => 0)))), (aA, .inl (dA, 4, .inl (raf (fun _ => 1)))), (aL, .inl (dA, 48, .inl (fun _ => nI 0))), (aB, .inl (dA, 12, .inl (rnf (fun _ => 0))))] H := hP
  have hD : va_D A [(m0, .inr (4, [.ref aS, .int (nI 0), .ref aO, .int (nI 0), .int (nI 0), .int (nI 0), .ref aR, .ref aC, .ref aH, .int (nI 0), .ref aA, .ref aL, .ref aB, .int (nI 0), .int (nI 0)])), (aS, .inl (dZ, 32768, .inl (rzf (fun _ => false)))), (aO, .inl (dZ, 21, .inl (rzf (fun _ => false)))), (aR, .inl (dA, 32768, .inl (rnf (fun _ => 0)))), (aC, .inl (dZ, 32768, .inl (rzf (fun _ => false)))), (aH, .inl (dA, 401, .inl (rnf (fun _ => 0)))), (aA, .inl (dA, 4, .inl (raf (fun _ => 1)))), (aL, .inl (dA, 48, .inl (fun _ => nI 0))), (aB, .inl (dA, 12, .inl (rnf (fun _ => 0))))] := hD
  have hP : va_P (dC, dI) classes [(m0, .inr (4, [.ref aS, .int (nI 0), .ref aO, .int (nI 0), .int (nI 0), .int (nI 0), .ref aR, .ref aC, .ref aH, .int (nI 0), .ref aA, .ref aL, .ref aB, .int (nI 0), .int (nI 0)])), (aS, .inl (dZ, 32768, .inl (rzf (fun _ => false)))), (aO, .inl (dZ, 21, .inl (rzf (fun _ => false)))), (aR, .inl (dA, 32768, .inl (rnf (fun _ => 0)))), (aC, .inl (dZ, 32768, .inl (rzf (fun _ => false)))), (aH, .inl (dA, 401, .inl (rnf (fun _ => 0)))), (aA, .inl (dA, 4, .inl (raf (fun _ => 1)))), (aL, .inl (dA, 48, .inl (fun _ => nI 0))), (aB, .inl (dA, 12, .inl (rnf (fun _ => 0))))] H := hP.sub [0, 1, 2, 3, 4, 5, 6, 7, 8] rfl
  have hD : va_D A [(m0, .inr (4, [.ref aS, .int (nI 0), .ref aO, .int (nI 0), .int (nI 0), .int (nI 0), .ref aR, .ref aC, .ref aH, .int (nI 0), .ref aA, .ref aL, .ref aB, .int (nI 0), .int (nI 0)])), (aS, .inl (dZ, 32768, .inl (rzf (fun _ => false)))), (aO, .inl (dZ, 21, .inl (rzf (fun _ => false)))), (aR, .inl (dA, 32768, .inl (rnf (fun _ => 0)))), (aC, .inl (dZ, 32768, .inl (rzf (fun _ => false)))), (aH, .inl (dA, 401, .inl (rnf (fun _ => 0)))), (aA, .inl (dA, 4, .inl (raf (fun _ => 1)))), (aL, .inl (dA, 48, .inl (fun _ => nI 0))), (aB, .inl (dA, 12, .inl (rnf (fun _ => 0))))] := hD.sub [0, 1, 2, 3, 4, 5, 6, 7, 8] (by decide) rfl
  refine W.widen (k := 8) (n := 98790) (Nat.le_of_ble_eq_true rfl) (Nat.le_of_ble_eq_true rfl) ?_
  have hP := rv_fn hP 7 (f' := rlf rt_free) rfl rf_letters
  have hD := hD.set (p := 7) (e := .inl (dA, 48, .inl (rlf rt_free))) rfl
  have hP : va_P (dC, dI) classes [(m0, .inr (4, [.ref aS, .int (nI 0), .ref aO, .int (rb_z false), .int (rb_z false), .int (nI 0), .ref aR, .ref aC, .ref aH, .int (nI 0), .ref aA, .ref aL, .ref aB, .int (nI ((fun _ => 1, rt_free, fun _ => 0, 1) : sQ).2.2.2 - 1), .int (nI 0)])), (aS, .inl (dZ, 32768, .inl (rzf (fun _ => false)))), (aO, .inl (dZ, 21, .inl (rzf (fun _ => false)))), (aR, .inl (dA, 32768, .inl (rnf (fun _ => 0)))), (aC, .inl (dZ, 32768, .inl (rzf (fun _ => false)))), (aH, .inl (dA, 401, .inl (rnf (fun _ => 0)))), (aA, .inl (dA, 4, .inl (raf (((fun _ => 1, rt_free, fun _ => 0, 1) : sQ).1)))), (aL, .inl (dA, 48, .inl (rlf (((fun _ => 1, rt_free, fun _ => 0, 1) : sQ).2.1)))), (aB, .inl (dA, 12, .inl (rnf (((fun _ => 1, rt_free, fun _ => 0, 1) : sQ).2.2.1))))] H := hP
  have hD : va_D A [(m0, .inr (4, [.ref aS, .int (nI 0), .ref aO, .int (rb_z false), .int (rb_z false), .int (nI 0), .ref aR, .ref aC, .ref aH, .int (nI 0), .ref aA, .ref aL, .ref aB, .int (nI ((fun _ => 1, rt_free, fun _ => 0, 1) : sQ).2.2.2 - 1), .int (nI 0)])), (aS, .inl (dZ, 32768, .inl (rzf (fun _ => false)))), (aO, .inl (dZ, 21, .inl (rzf (fun _ => false)))), (aR, .inl (dA, 32768, .inl (rnf (fun _ => 0)))), (aC, .inl (dZ, 32768, .inl (rzf (fun _ => false)))), (aH, .inl (dA, 401, .inl (rnf (fun _ => 0)))), (aA, .inl (dA, 4, .inl (raf (((fun _ => 1, rt_free, fun _ => 0, 1) : sQ).1)))), (aL, .inl (dA, 48, .inl (rlf (((fun _ => 1, rt_free, fun _ => 0, 1) : sQ).2.1)))), (aB, .inl (dA, 12, .inl (rnf (((fun _ => 1, rt_free, fun _ => 0, 1) : sQ).2.2.1))))] := hD
  exact W.vret hx hb hr (fun t ht hW => ⟨⟨(), rfl, trivial, aS, aO, aR, aC, aH, aA, aL, aB, by rw [ht]; exact hP, hD⟩, hS.F ht⟩) hS.2.2 d_Mo_init_73
