/-! the reference: rows of its arrays, said by naturals, by truth values, by letters -/
def rnf (f : Nat → Nat) : Nat → Int32 := fun j => nI (f j)
def rzf (b : Nat → Bool) : Nat → Int32 := fun j => rb_z (b j)
def raf (a : Nat → Nat) : Nat → Int32 := fun j => nI (a j) - 1
def rlf (ds : List Nat) : Nat → Int32 := fun j => nI (if j < 32 then 0 else ds.getD (j - 32) 0)
def ua {α : Type} (f : Nat → α) (k : Nat) (v : α) : Nat → α := fun j => if j = k then v else f j
theorem rnf_st (f : Nat → Nat) (k v : Nat) : upd (rnf f) k (nI v) = rnf (ua f k v) := by
  funext j
  unfold upd rnf ua
  split <;> rfl
theorem raf_st (f : Nat → Nat) (k v : Nat) : upd (raf f) k (nI v - 1) = raf (ua f k v) := by
  funext j
  unfold upd raf ua
  split <;> rfl
theorem rzf_st (b : Nat → Bool) (k : Nat) (v : Bool) : upd (rzf b) k (vp_nar .boolean (rb_z v)) = rzf (ua b k v) := by
  funext j
  unfold upd rzf ua
  split
  · cases v <;> rfl
  · rfl
theorem rlf_st (ds : List Nat) (k v : Nat) (hk : 32 ≤ k) (hl : k - 32 < ds.length) : upd (rlf ds) k (nI v) = rlf (ds.set (k - 32) v) := by
  funext j
  unfold upd rlf
  by_cases h : j = k
  · subst h
    rw [if_pos rfl, if_neg (by omega), List.getD_eq_getElem?_getD, List.getElem?_set_self hl]
    rfl
  · rw [if_neg h]
    by_cases h2 : j < 32
    · rw [if_pos h2, if_pos h2]
    · rw [if_neg h2, if_neg h2, List.getD_eq_getElem?_getD, List.getD_eq_getElem?_getD, List.getElem?_set_ne (by omega)]
section RM
variable {p : Program} {l : Launch} {e : Env} {R : Room} {s : State} {m : MethodId} {args : Array Value} {below : List Frame} {meth : Method} {c : Code} {H : Heap} {locs : List Loc} {cells slots : Nat} {Q : State → Prop} {cc : ByteArray} {pc : Nat} {ls : Array Slot} {rest : List Value}
variable {D : va_G} {cl : List vw_C} {tys : List (ClassId × FieldType)} {ws : va_W} {A : Nat → Prop} {H0 : Heap} {a : Nat}
theorem rm_nld (hx : p.tables.exec = Jvm.exec) (hb : c.code = cc) (hK : va_K D cl tys s) (hP : va_P D cl ws H) (q0 t0 : Nat) {cA : ClassId} {n k : Nat} {f : Nat → Nat} (ha : ws[q0]? = some (a, .inl (cA, n, .inl (rnf f)))) (ht : tys[t0]? = some (cA, .int)) (hk : k < n) (hn : n < 2 ^ 31) (hdg : decode cc pc = .ok (.iaload, 1)) (kk : W p l e R s m args below meth c H locs cells slots Q (F0 m (pc + 1) ls (.int (nI (f k)) :: rest))) : W p l e R s m args below meth c H locs cells slots Q (F0 m pc ls (.int (nI k) :: .ref a :: rest)) :=
  rv_ald hx hb hK hP q0 t0 ha ht hk hn hdg kk
theorem rm_nst (hx : p.tables.exec = Jvm.exec) (hb : c.code = cc) (hK : va_K D cl tys s) (hP : va_P D cl ws H) (hD : va_D A ws) (hS : va_S A H0 H locs) (q0 t0 : Nat) {cA : ClassId} {n k v : Nat} {f : Nat → Nat} (ha : ws[q0]? = some (a, .inl (cA, n, .inl (rnf f)))) (ht : tys[t0]? = some (cA, .int)) (hk : k < n) (hn : n < 2 ^ 31) (hdg : decode cc pc = .ok (.iastore, 1)) (kk : ∀ (H1 : Heap) (locs1 : List Loc), va_P D cl (ws.set q0 (a, .inl (cA, n, .inl (rnf (ua f k v))))) H1 → va_D A (ws.set q0 (a, .inl (cA, n, .inl (rnf (ua f k v))))) → va_S A H0 H1 locs1 → W p l e R s m args below meth c H1 locs1 cells slots Q (F0 m (pc + 1) ls rest)) : W p l e R s m args below meth c H locs cells slots Q (F0 m pc ls (.int (nI v) :: .int (nI k) :: .ref a :: rest)) :=
  rv_ast hx hb hK hP hD hS q0 t0 ha ht hk hn hdg (by rw [rnf_st]; exact kk)
theorem rm_ald (hx : p.tables.exec = Jvm.exec) (hb : c.code = cc) (hK : va_K D cl tys s) (hP : va_P D cl ws H) (q0 t0 : Nat) {cA : ClassId} {n k : Nat} {f : Nat → Nat} (ha : ws[q0]? = some (a, .inl (cA, n, .inl (raf f)))) (ht : tys[t0]? = some (cA, .int)) (hk : k < n) (hn : n < 2 ^ 31) (hdg : decode cc pc = .ok (.iaload, 1)) (kk : W p l e R s m args below meth c H locs cells slots Q (F0 m (pc + 1) ls (.int (nI (f k) - 1) :: rest))) : W p l e R s m args below meth c H locs cells slots Q (F0 m pc ls (.int (nI k) :: .ref a :: rest)) :=
  rv_ald hx hb hK hP q0 t0 ha ht hk hn hdg kk
theorem rm_ast (hx : p.tables.exec = Jvm.exec) (hb : c.code = cc) (hK : va_K D cl tys s) (hP : va_P D cl ws H) (hD : va_D A ws) (hS : va_S A H0 H locs) (q0 t0 : Nat) {cA : ClassId} {n k v : Nat} {x : Int32} {f : Nat → Nat} (ha : ws[q0]? = some (a, .inl (cA, n, .inl (raf f)))) (ht : tys[t0]? = some (cA, .int)) (hk : k < n) (hn : n < 2 ^ 31) (hv : x = nI v - 1) (hdg : decode cc pc = .ok (.iastore, 1)) (kk : ∀ (H1 : Heap) (locs1 : List Loc), va_P D cl (ws.set q0 (a, .inl (cA, n, .inl (raf (ua f k v))))) H1 → va_D A (ws.set q0 (a, .inl (cA, n, .inl (raf (ua f k v))))) → va_S A H0 H1 locs1 → W p l e R s m args below meth c H1 locs1 cells slots Q (F0 m (pc + 1) ls rest)) : W p l e R s m args below meth c H locs cells slots Q (F0 m pc ls (.int x :: .int (nI k) :: .ref a :: rest)) :=
  rv_ast hx hb hK hP hD hS q0 t0 ha ht hk hn hdg (by rw [hv, raf_st]; exact kk)
theorem rm_lld (hx : p.tables.exec = Jvm.exec) (hb : c.code = cc) (hK : va_K D cl tys s) (hP : va_P D cl ws H) (q0 t0 : Nat) {cA : ClassId} {n k : Nat} {ds : List Nat} (ha : ws[q0]? = some (a, .inl (cA, n, .inl (rlf ds)))) (ht : tys[t0]? = some (cA, .int)) (hk : k < n) (hn : n < 2 ^ 31) (h32 : 32 ≤ k) (hdg : decode cc pc = .ok (.iaload, 1)) (kk : W p l e R s m args below meth c H locs cells slots Q (F0 m (pc + 1) ls (.int (nI (ds.getD (k - 32) 0)) :: rest))) : W p l e R s m args below meth c H locs cells slots Q (F0 m pc ls (.int (nI k) :: .ref a :: rest)) :=
  rv_ald hx hb hK hP q0 t0 ha ht hk hn hdg (by unfold rlf; rw [if_neg (by omega)]; exact kk)
theorem rm_lst (hx : p.tables.exec = Jvm.exec) (hb : c.code = cc) (hK : va_K D cl tys s) (hP : va_P D cl ws H) (hD : va_D A ws) (hS : va_S A H0 H locs) (q0 t0 : Nat) {cA : ClassId} {n k v : Nat} {ds : List Nat} (ha : ws[q0]? = some (a, .inl (cA, n, .inl (rlf ds)))) (ht : tys[t0]? = some (cA, .int)) (hk : k < n) (hn : n < 2 ^ 31) (h32 : 32 ≤ k) (hl : k - 32 < ds.length) (hdg : decode cc pc = .ok (.iastore, 1)) (kk : ∀ (H1 : Heap) (locs1 : List Loc), va_P D cl (ws.set q0 (a, .inl (cA, n, .inl (rlf (ds.set (k - 32) v))))) H1 → va_D A (ws.set q0 (a, .inl (cA, n, .inl (rlf (ds.set (k - 32) v))))) → va_S A H0 H1 locs1 → W p l e R s m args below meth c H1 locs1 cells slots Q (F0 m (pc + 1) ls rest)) : W p l e R s m args below meth c H locs cells slots Q (F0 m pc ls (.int (nI v) :: .int (nI k) :: .ref a :: rest)) :=
  rv_ast hx hb hK hP hD hS q0 t0 ha ht hk hn hdg (by rw [rlf_st _ _ _ h32 hl]; exact kk)
theorem rm_zld (hx : p.tables.exec = Jvm.exec) (hb : c.code = cc) (hK : va_K D cl tys s) (hP : va_P D cl ws H) (q0 t0 : Nat) {cA : ClassId} {n k : Nat} {f : Nat → Bool} (ha : ws[q0]? = some (a, .inl (cA, n, .inl (rzf f)))) (ht : tys[t0]? = some (cA, .boolean)) (hk : k < n) (hn : n < 2 ^ 31) (hdg : decode cc pc = .ok (.baload, 1)) (kk : W p l e R s m args below meth c H locs cells slots Q (F0 m (pc + 1) ls (.int (rb_z (f k)) :: rest))) : W p l e R s m args below meth c H locs cells slots Q (F0 m pc ls (.int (nI k) :: .ref a :: rest)) :=
  va_zald hx hb hK hP q0 t0 ha ht (vp_in_nI hk hn) hdg (by rw [nI_clamp (by omega)]; exact kk)
theorem rm_zst (hx : p.tables.exec = Jvm.exec) (hb : c.code = cc) (hK : va_K D cl tys s) (hP : va_P D cl ws H) (hD : va_D A ws) (hS : va_S A H0 H locs) (q0 t0 : Nat) {cA : ClassId} {n k : Nat} {v : Bool} {x : Int32} {f : Nat → Bool} (ha : ws[q0]? = some (a, .inl (cA, n, .inl (rzf f)))) (ht : tys[t0]? = some (cA, .boolean)) (hk : k < n) (hn : n < 2 ^ 31) (hv : x = rb_z v) (hdg : decode cc pc = .ok (.bastore, 1)) (kk : ∀ (H1 : Heap) (locs1 : List Loc), va_P D cl (ws.set q0 (a, .inl (cA, n, .inl (rzf (ua f k v))))) H1 → va_D A (ws.set q0 (a, .inl (cA, n, .inl (rzf (ua f k v))))) → va_S A H0 H1 locs1 → W p l e R s m args below meth c H1 locs1 cells slots Q (F0 m (pc + 1) ls rest)) : W p l e R s m args below meth c H locs cells slots Q (F0 m pc ls (.int x :: .int (nI k) :: .ref a :: rest)) :=
  va_zast hx hb hK hP hD hS q0 t0 ha ht (vp_in_nI hk hn) hdg (by rw [nI_clamp (show k < 2 ^ 31 by omega), hv, rzf_st]; exact kk)
end RM
