set_option maxHeartbeats 4000000 in
set_option maxRecDepth 100000 in
theorem lw_next {p : Program} {l : Launch} {e : Env} {s : State} {m : MethodId} {below : List Frame} {meth : Method} {c : Code} {b L : Nat} {xs : Nat → Int32} {dC : Nat → ClassId} {dI : Nat → Nat → Nat} {dA dZ : ClassId} {tP tG tC : Nat} {A : Nat → Prop} {x0 qs d0 qc aT t1 t2 t3 aU u1 u2 u3 qk qr s0 qd m0 aS aO aR aC aH aA aL aB : Nat} {Q : State → Prop} {i : Nat} (C0 : lw_ctx p s m meth c b L xs dC dI dA dZ tP tG tC A) (kk : lw_at p l e s m below meth c b dC dI dA dZ A x0 qs d0 qc aT t1 t2 t3 aU u1 u2 u3 qk qr s0 qd m0 aS aO aR aC aH aA aL aB Q (i + 6) 18) : lw_at p l e s m below meth c b dC dI dA dZ A x0 qs d0 qc aT t1 t2 t3 aU u1 u2 u3 qk qr s0 qd m0 aS aO aR aC aH aA aL aB Q i 515 := by
  obtain ⟨hx, hb, hml, hown, hts, hX, hbl, hbA, hK, hN, hZ, hA, hL⟩ := C0
  have hK1 : va_K (dC, dI) classes [(dA, .int)] s := hK.sub [0] rfl
  intro zx zm Q9 rr9 H locs ls hR hP hD hS hl
  refine lv_iinc (v := nI (i + 6)) (lv' := [(3, .int (nI (i + 6))), (2, .ref m0), (1, .ref x0), (0, .ref b)]) hx hb d_Lw_law_515 hl (k := 0) rfl (by exact nI_add i 6) (by decide) rfl (fun ls hl => ?_)
  refine lv_goto (tgt := 18) hx hb d_Lw_law_518 (by decide) ?_
  exact kk _ _ _ _ _ _ _ hR hP hD hS hl

set_option maxHeartbeats 4000000 in
set_option maxRecDepth 100000 in
theorem lw_head {p : Program} {l : Launch} {e : Env} {s : State} {m : MethodId} {below : List Frame} {meth : Method} {c : Code} {b L : Nat} {xs : Nat → Int32} {dC : Nat → ClassId} {dI : Nat → Nat → Nat} {dA dZ : ClassId} {tP tG tC : Nat} {A : Nat → Prop} {x0 qs d0 qc aT t1 t2 t3 aU u1 u2 u3 qk qr s0 qd m0 aS aO aR aC aH aA aL aB : Nat} {Q : State → Prop} {i : Nat} (C0 : lw_ctx p s m meth c b L xs dC dI dA dZ tP tG tC A) (hi3 : i ≤ 3072) (kk : i + 6 ≤ L → lw_at p l e s m below meth c b dC dI dA dZ A x0 qs d0 qc aT t1 t2 t3 aU u1 u2 u3 qk qr s0 qd m0 aS aO aR aC aH aA aL aB Q i 515) (ke : lw_at p l e s m below meth c b dC dI dA dZ A x0 qs d0 qc aT t1 t2 t3 aU u1 u2 u3 qk qr s0 qd m0 aS aO aR aC aH aA aL aB Q i 521) : lw_at p l e s m below meth c b dC dI dA dZ A x0 qs d0 qc aT t1 t2 t3 aU u1 u2 u3 qk qr s0 qd m0 aS aO aR aC aH aA aL aB Q i 18 := by
  have C1 := C0
  obtain ⟨hx, hb, hml, hown, hts, hX, hbl, hbA, hK, hN, hZ, hA, hL⟩ := C0
  have hK1 : va_K (dC, dI) classes [(dA, .int)] s := hK.sub [0] rfl
  intro zx zm Q9 rr9 H locs ls hR hP hD hS hl
  refine lv_iload_n hx hb d_Lw_law_18 rfl (lv_at hl 0 rfl) ?_
  refine lv_aload_n hx hb d_Lw_law_19 rfl (lv_at hl 3 rfl) ?_
  refine va_slen hx hb hX hbl hbA hS d_Lw_law_20 ?_
  refine lv_bipush (v := nI 6) hx hb d_Lw_law_21 (by decide) ?_
  refine lv_isub hx hb d_Lw_law_23 ?_
  refine lv_icmp_gt (tgt := 521) hx hb d_Lw_law_24 (by decide) (fun c_24 => ?_) (fun c_24 => ?_)
  · exact ke _ _ _ _ _ _ _ hR hP hD hS hl
  · have hi : i + 6 ≤ L := Nat.le_of_not_lt (fun w => c_24 ((lw_cmp hi3 hL).mpr w))
    refine lv_aload_n hx hb d_Lw_law_27 rfl (lv_at hl 3 rfl) ?_
    refine lv_iload_n hx hb d_Lw_law_28 rfl (lv_at hl 0 rfl) ?_
    refine va_sld hx hb hX hbl hbA hS (nI_in (by omega) (by omega)) d_Lw_law_29 ?_
    refine lv_bipush (v := nI 15) hx hb d_Lw_law_30 (by decide) ?_
    refine lv_iand hx hb d_Lw_law_32 ?_
    obtain ⟨k, hk16, hk⟩ := lw_sw (xs (nI i).toNatClampNeg)
    refine rv_eq (y := nI k) hk ?_
    rcases (show k = 0 ∨ k = 1 ∨ k = 2 ∨ k = 3 ∨ k = 4 ∨ k = 5 ∨ k = 6 ∨ k = 7 ∨ k = 8 ∨ k = 9 ∨ k = 10 ∨ k = 11 ∨ k = 12 ∨ 13 ≤ k by omega) with rfl | rfl | rfl | rfl | rfl | rfl | rfl | rfl | rfl | rfl | rfl | rfl | rfl | hk13
    · refine lv_tableIn (off := 67) (tgt := 100) hx hb d_Lw_law_33 (by decide) (by decide) (by decide) (by decide) ?_
      exact lw_case_0 C1 hi (kk hi) _ _ _ _ _ _ _ hR hP hD hS hl
    · refine lv_tableIn (off := 110) (tgt := 143) hx hb d_Lw_law_33 (by decide) (by decide) (by decide) (by decide) ?_
      exact lw_case_1 C1 hi (kk hi) _ _ _ _ _ _ _ hR hP hD hS hl
    · refine lv_tableIn (off := 153) (tgt := 186) hx hb d_Lw_law_33 (by decide) (by decide) (by decide) (by decide) ?_
      exact lw_case_2 C1 hi (kk hi) _ _ _ _ _ _ _ hR hP hD hS hl
    · refine lv_tableIn (off := 202) (tgt := 235) hx hb d_Lw_law_33 (by decide) (by decide) (by decide) (by decide) ?_
      exact lw_case_3 C1 hi (kk hi) _ _ _ _ _ _ _ hR hP hD hS hl
    · refine lv_tableIn (off := 215) (tgt := 248) hx hb d_Lw_law_33 (by decide) (by decide) (by decide) (by decide) ?_
      exact lw_case_4 C1 hi (kk hi) _ _ _ _ _ _ _ hR hP hD hS hl
    · refine lv_tableIn (off := 228) (tgt := 261) hx hb d_Lw_law_33 (by decide) (by decide) (by decide) (by decide) ?_
      exact lw_case_5 C1 hi (kk hi) _ _ _ _ _ _ _ hR hP hD hS hl
    · refine lv_tableIn (off := 251) (tgt := 284) hx hb d_Lw_law_33 (by decide) (by decide) (by decide) (by decide) ?_
      exact lw_case_6 C1 hi (kk hi) _ _ _ _ _ _ _ hR hP hD hS hl
    · refine lv_tableIn (off := 294) (tgt := 327) hx hb d_Lw_law_33 (by decide) (by decide) (by decide) (by decide) ?_
      exact lw_case_7 C1 hi (kk hi) _ _ _ _ _ _ _ hR hP hD hS hl
    · refine lv_tableIn (off := 337) (tgt := 370) hx hb d_Lw_law_33 (by decide) (by decide) (by decide) (by decide) ?_
      exact lw_case_8 C1 hi (kk hi) _ _ _ _ _ _ _ hR hP hD hS hl
    · refine lv_tableIn (off := 400) (tgt := 433) hx hb d_Lw_law_33 (by decide) (by decide) (by decide) (by decide) ?_
      exact lw_case_9 C1 hi (kk hi) _ _ _ _ _ _ _ hR hP hD hS hl
    · refine lv_tableIn (off := 413) (tgt := 446) hx hb d_Lw_law_33 (by decide) (by decide) (by decide) (by decide) ?_
      exact lw_case_10 C1 hi (kk hi) _ _ _ _ _ _ _ hR hP hD hS hl
    · refine lv_tableIn (off := 446) (tgt := 479) hx hb d_Lw_law_33 (by decide) (by decide) (by decide) (by decide) ?_
      exact lw_case_11 C1 hi (kk hi) _ _ _ _ _ _ _ hR hP hD hS hl
    · refine lv_tableIn (off := 469) (tgt := 502) hx hb d_Lw_law_33 (by decide) (by decide) (by decide) (by decide) ?_
      exact lw_case_12 C1 hi (kk hi) _ _ _ _ _ _ _ hR hP hD hS hl
    · refine lv_tableOut (tgt := 515) hx hb d_Lw_law_33 (Or.inr (by rw [nI_toInt (by omega)]; omega)) (by decide) ?_
      exact kk hi _ _ _ _ _ _ _ hR hP hD hS hl

set_option maxHeartbeats 4000000 in
set_option maxRecDepth 100000 in
theorem lw_loop {p : Program} {l : Launch} {e : Env} {s : State} {m : MethodId} {below : List Frame} {meth : Method} {c : Code} {b L : Nat} {xs : Nat → Int32} {dC : Nat → ClassId} {dI : Nat → Nat → Nat} {dA dZ : ClassId} {tP tG tC : Nat} {A : Nat → Prop} {x0 qs d0 qc aT t1 t2 t3 aU u1 u2 u3 qk qr s0 qd m0 aS aO aR aC aH aA aL aB : Nat} {Q : State → Prop} (C0 : lw_ctx p s m meth c b L xs dC dI dA dZ tP tG tC A) (ke : ∀ i, lw_at p l e s m below meth c b dC dI dA dZ A x0 qs d0 qc aT t1 t2 t3 aU u1 u2 u3 qk qr s0 qd m0 aS aO aR aC aH aA aL aB Q i 521) : ∀ (n i : Nat), L ≤ i + n → i ≤ 3072 → lw_at p l e s m below meth c b dC dI dA dZ A x0 qs d0 qc aT t1 t2 t3 aU u1 u2 u3 qk qr s0 qd m0 aS aO aR aC aH aA aL aB Q i 18
  | 0, i, h, hi => lw_head C0 hi (fun h6 => by omega) (ke i)
  | n + 1, i, h, hi => lw_head C0 hi (fun h6 => lw_next C0 (lw_loop C0 ke n (i + 6) (by omega) (by have := C0.2.2.2.2.2.2.2.2.2.2.2.2; omega))) (ke i)
