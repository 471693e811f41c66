/-! a round as one fold of adding -/
abbrev sE : Type := sT × (Nat → Int32) × (Nat → Int32) × Nat × Bool
def re_add (now c : Nat) (e : sE) : sE := if rb_b (e.1.1 (c / 32)) (c % 32) then e else if 400 ≤ e.2.2.2.1 then (e.1, e.2.1, e.2.2.1, e.2.2.2.1, true) else
  (rx_put c e.1, upd e.2.1 e.2.2.2.1 (nI c), upd e.2.2.1 e.2.2.2.1 (nI now), e.2.2.2.1 + 1, e.2.2.2.2)
theorem re_add_E {now c : Nat} {st : sD} : (rd_add now c st).2 = re_add now c st.2 := by
  unfold rd_add re_add
  split
  · rfl
  · split
    · rfl
    · rfl
def re_lk (e : sE) : Prop := e.2.2.2.2 = true → 400 ≤ e.2.2.2.1
theorem re_lk_add {now c : Nat} {e : sE} (h : re_lk e) : re_lk (re_add now c e) := by
  unfold re_add
  split
  · exact h
  · split
    · intro _; assumption
    · intro hl
      have := h hl
      show 400 ≤ e.2.2.2.1 + 1
      omega
theorem re_add_large {now c : Nat} {e : sE} (h : e.2.2.2.2 = true) (hk : re_lk e) : re_add now c e = e := by
  unfold re_add
  split
  · rfl
  · rw [if_pos (hk h)]
    obtain ⟨a, b, c, d, f⟩ := e
    have h : f = true := h
    rw [h]
def re_fold (now : Nat) (L : List Nat) (e : sE) : sE := L.foldl (fun e c => re_add now c e) e
theorem re_fold_large {now : Nat} {e : sE} (h : e.2.2.2.2 = true) (hk : re_lk e) : ∀ (L : List Nat), re_fold now L e = e
  | [] => rfl
  | c :: L => by
    show re_fold now L (re_add now c e) = e
    rw [re_add_large h hk]
    exact re_fold_large h hk L
theorem re_fold_lk {now : Nat} : ∀ (L : List Nat) {e : sE}, re_lk e → re_lk (re_fold now L e)
  | [], _, h => h
  | c :: L, e, h => re_fold_lk L (e := re_add now c e) (re_lk_add h)
theorem re_fold_app {now : Nat} (L M : List Nat) (e : sE) : re_fold now (L ++ M) e = re_fold now M (re_fold now L e) := List.foldl_append
/-- folds that end early are folds -/
theorem re_rj {α : Type} {now : Nat} {f : sD → α → sD × Bool} {G : α → List Nat} : ∀ (l : List α) (st : sD), (∀ st a, a ∈ l → re_lk st.2 → st.2.2.2.2.2 = false → (f st a).1.2 = re_fold now (G a) st.2 ∧ (f st a).2 = (f st a).1.2.2.2.2.2) → re_lk st.2 → st.2.2.2.2.2 = false → (rj_fold f st l).1.2 = re_fold now (l.flatMap G) st.2 ∧ (rj_fold f st l).2 = (rj_fold f st l).1.2.2.2.2.2
  | [], st, _, _, h0 => ⟨rfl, h0.symm⟩
  | a :: l, st, hf, hk, h0 => by
    obtain ⟨g1, g2⟩ := hf st a List.mem_cons_self hk h0
    have hk2 : re_lk (f st a).1.2 := by rw [g1]; exact re_fold_lk _ hk
    have e : rj_fold f st (a :: l) = if (f st a).2 = true then f st a else rj_fold f (f st a).1 l := rfl
    rw [e, List.flatMap_cons, re_fold_app, ← g1]
    by_cases hb : (f st a).2 = true
    · rw [if_pos hb]
      refine ⟨?_, g2⟩
      rw [re_fold_large (by rw [← g2]; exact hb) hk2]
    · rw [if_neg hb]
      exact re_rj l _ (fun st b hb => hf st b (List.mem_cons_of_mem _ hb)) hk2 (by rw [← g2]; simpa using hb)
def rw_fo (hs : List Nat) (r : Nat) (fx : Option Nat) (rem k : Nat) : Option (List Nat) → List (List Nat)
  | none => []
  | some d => rw_fs hs r fx rem k d
theorem rw_fs_s {hs : List Nat} {r : Nat} {fx : Option Nat} {rem k : Nat} {ds : List Nat} (h : ¬ fx = some k) : rw_fs hs r fx (rem + 1) k ds = hs.flatMap (fun c => rw_fo hs r fx rem (k + 1) (rs_fit r k c ds)) := by
  show (if fx = some k then _ else hs.flatMap _) = _
  rw [if_neg h]
  apply ry_congr
  intro c _
  cases rs_fit r k c ds <;> rfl
theorem re_join {X : Nat → Bool} {he : sT} (hT : rx_TR X he.1 he.2.1 he.2.2.1 he.2.2.2) {now r : Nat} {fx : Option Nat} : ∀ (rem k : Nat) (ds : List Nat) (st : sD), rt_ok ds → re_lk st.2 → st.2.2.2.2.2 = false →
    (rj_join (rx_trav he.1 he.2.1 he.2.2.1 he.2.2.2) (rd_meet now r) rd_ch r fx rem k ds st).1.2 = re_fold now ((rw_fs (rx_codes X) r fx rem k ds).map (rj_given r)) st.2 ∧
    (rj_join (rx_trav he.1 he.2.1 he.2.2.1 he.2.2.2) (rd_meet now r) rd_ch r fx rem k ds st).2 = (rj_join (rx_trav he.1 he.2.1 he.2.2.1 he.2.2.2) (rd_meet now r) rd_ch r fx rem k ds st).1.2.2.2.2.2
  | 0, k, ds, st, _, _, _ => ⟨re_add_E, rfl⟩
  | rem + 1, k, ds, st, hd, hk, h0 => by
    have e : rj_join (rx_trav he.1 he.2.1 he.2.2.1 he.2.2.2) (rd_meet now r) rd_ch r fx (rem + 1) k ds st = if fx = some k then rj_join (rx_trav he.1 he.2.1 he.2.2.1 he.2.2.2) (rd_meet now r) rd_ch r fx rem (k + 1) ds st else
      rj_fold (rj_body rd_ch r k ds (rj_join (rx_trav he.1 he.2.1 he.2.2.1 he.2.2.2) (rd_meet now r) rd_ch r fx rem (k + 1))) st (rx_trav he.1 he.2.1 he.2.2.1 he.2.2.2 (rt_term (rq_prem.getD (12 * r + 3 * k) 0) ds) (rt_term (rq_prem.getD (12 * r + 3 * k + 1) 0) ds) (rt_term (rq_prem.getD (12 * r + 3 * k + 2) 0) ds)) := rfl
    rw [e]
    by_cases hfx : fx = some k
    · rw [if_pos hfx]
      have e2 : rw_fs (rx_codes X) r fx (rem + 1) k ds = rw_fs (rx_codes X) r fx rem (k + 1) ds := by
        show (if fx = some k then _ else _) = _
        rw [if_pos hfx]
      rw [e2]
      exact re_join hT rem (k + 1) ds st hd hk h0
    · rw [if_neg hfx, rw_fs_s hfx, rw_map_flat]
      rw [← rw_trav hT hd (fun c => (rw_fo (rx_codes X) r fx rem (k + 1) (rs_fit r k c ds)).map (rj_given r)) (fun c hc => by show (rw_fo (rx_codes X) r fx rem (k + 1) (rs_fit r k c ds)).map (rj_given r) = []; rw [hc]; rfl)]
      refine re_rj _ st (fun st c hc hk h0 => ?_) hk h0
      have hc' := rx_trav_lt _ _ _ c hc
      unfold rj_body
      cases hq : rs_fit r k c ds with
      | none =>
        have hq' : rt_fit (rq_prem.getD (12 * r + 3 * k) 0) (rq_prem.getD (12 * r + 3 * k + 1) 0) (rq_prem.getD (12 * r + 3 * k + 2) 0) c ds = none := hq
        rw [hq']
        exact ⟨rfl, h0.symm⟩
      | some d =>
        have hq' : rt_fit (rq_prem.getD (12 * r + 3 * k) 0) (rq_prem.getD (12 * r + 3 * k + 1) 0) (rq_prem.getD (12 * r + 3 * k + 2) 0) c ds = some d := hq
        rw [hq']
        exact re_join hT rem (k + 1) d (rd_ch k c st) (rw_ps_r hc' ds d hd hq) hk h0
/-- what one code brings -/
def re_one (hs : List Nat) (c : Nat) (q : Nat × Nat) : List Nat := (rw_fo hs q.1 (some q.2) (rq_cnts.getD q.1 0) 0 (rs_fit q.1 q.2 c rt_free)).map (rj_given q.1)
def re_code (hs : List Nat) (x : Int32) (c : Nat) : List Nat := ((List.range' 0 21).flatMap (rd_row x)).flatMap (re_one hs c)
theorem re_apply {X : Nat → Bool} {he : sT} (hT : rx_TR X he.1 he.2.1 he.2.2.1 he.2.2.2) {now c : Nat} {x : Int32} {st : sD} (hc : c < 32768) (hk : re_lk st.2) (h0 : st.2.2.2.2.2 = false) : (rd_apply he now x c st).2 = re_fold now (re_code (rx_codes X) x c) st.2 := by
  unfold rd_apply re_code
  refine (re_rj _ st (fun st q _ hk h0 => ?_) hk h0).1
  unfold rd_F re_one
  cases hq : rs_fit q.1 q.2 c rt_free with
  | none =>
    have hq' : rt_fit (rq_prem.getD (12 * q.1 + 3 * q.2) 0) (rq_prem.getD (12 * q.1 + 3 * q.2 + 1) 0) (rq_prem.getD (12 * q.1 + 3 * q.2 + 2) 0) c rt_free = none := hq
    rw [hq']
    exact ⟨rfl, h0.symm⟩
  | some d =>
    have hq' : rt_fit (rq_prem.getD (12 * q.1 + 3 * q.2) 0) (rq_prem.getD (12 * q.1 + 3 * q.2 + 1) 0) (rq_prem.getD (12 * q.1 + 3 * q.2 + 2) 0) c rt_free = some d := hq
    rw [hq']
    exact re_join hT _ _ d st (rw_ps_r hc rt_free d rt_free_ok hq) hk h0
theorem re_all {X : Nat → Bool} {he : sT} (hT : rx_TR X he.1 he.2.1 he.2.2.1 he.2.2.2) {now : Nat} {x : Int32} : ∀ (n i : Nat) (st : sD), i + n ≤ st.2.2.2.2.1 → rd_ok st → re_lk st.2 → (rd_all he now x n i st).2 = re_fold now ((List.range' i n).flatMap (fun j => re_code (rx_codes X) x (rk_ st.2.2.1 j))) st.2
  | 0, i, st, _, _, _ => rfl
  | n + 1, i, st, hi, hok, hk => by
    have e : rd_all he now x (n + 1) i st = if st.2.2.2.2.2 = true then st else rd_all he now x n (i + 1) (rd_apply he now x (rk_ st.2.2.1 i) st) := rfl
    rw [e]
    by_cases hl : st.2.2.2.2.2 = true
    · rw [if_pos hl, re_fold_large hl hk]
    · rw [if_neg hl]
      have hl0 : st.2.2.2.2.2 = false := by simpa using hl
      have hc := hok.2 i (by omega)
      have ha := re_apply hT (now := now) (x := x) hc hk hl0
      have hle := rd_le_apply (he := he) (now := now) (x := x) (c := rk_ st.2.2.1 i) (st := st)
      have hk2 : re_lk (rd_apply he now x (rk_ st.2.2.1 i) st).2 := by rw [ha]; exact re_fold_lk _ hk
      rw [re_all hT n (i + 1) _ (by have := hle.1; omega) (rd_ok_apply hc hok) hk2, List.range'_succ, List.flatMap_cons, re_fold_app, ha]
      congr 1
      apply ry_congr
      intro j hj
      obtain ⟨a, ha1, ha2⟩ := List.mem_range'.mp hj
      have : rk_ (rd_apply he now x (rk_ st.2.2.1 i) st).2.2.1 j = rk_ st.2.2.1 j := congrArg (fun z : Int32 => z.toBitVec.toNat) (hle.2 j (by omega))
      rw [← ha, this]
/-! the set behind a row of rows -/
theorem rw_cnt_ua {X : Nat → Bool} {c : Nat} (h : X c = false) : ∀ N : Nat, ((List.range N).filter (ua X c true)).length = ((List.range N).filter X).length + if c < N then 1 else 0
  | 0 => by simp
  | N + 1 => by
    rw [List.range_succ, List.filter_append, List.filter_append, List.length_append, List.length_append, rw_cnt_ua h N]
    by_cases e : N = c
    · subst e
      have e1 : ua X N true N = true := ua_self _ _ _
      simp [List.filter_cons, e1, h]
    · have e1 : ua X c true N = X N := ua_ne _ _ e
      by_cases hlt : c < N
      · simp only [List.filter_cons, List.filter_nil, e1, if_pos hlt, if_pos (show c < N + 1 by omega)]
        omega
      · simp only [List.filter_cons, List.filter_nil, e1, if_neg hlt, if_neg (show ¬ c < N + 1 by omega)]
        omega
theorem rw_one0 {i j : Nat} (hi : i < 32) (hj : j < 32) : rb_b ((nI 1) <<< (nI i &&& 31)) j = decide (j = i) := ry_one hi j hj
theorem rw_set (x : Int32) {i j : Nat} (hi : i < 32) (hj : j < 32) : rb_b (x ||| (nI 1) <<< (nI i &&& 31)) j = (rb_b x j || decide (j = i)) := by rw [ry_or, rw_one0 hi hj]
theorem rx_code_inj {s p o s' p' o' : Nat} (hp : p < 32) (ho : o < 32) (hp' : p' < 32) (ho' : o' < 32) : rx_code s p o = rx_code s' p' o' ↔ s = s' ∧ p = p' ∧ o = o' := by
  unfold rx_code
  omega
theorem rx_TR_put {X : Nat → Bool} {y : sT} {c : Nat} (hc : c < 32768) (h : rx_TR X y.1 y.2.1 y.2.2.1 y.2.2.2) : rx_TR (ua X c true) (rx_put c y).1 (rx_put c y).2.1 (rx_put c y).2.2.1 (rx_put c y).2.2.2 := by
  obtain ⟨h1, h2, h3, h4⟩ := h
  obtain ⟨s0, p0, o0, hs0, hp0, ho0, ec⟩ : ∃ s p o, s < 32 ∧ p < 32 ∧ o < 32 ∧ c = rx_code s p o := ⟨c / 32 / 32, c / 32 % 32, c % 32, by omega, by omega, by omega, (rx_code_of c).symm⟩
  have e1 : c / 32 = s0 * 32 + p0 := by rw [ec]; unfold rx_code; omega
  have e2 : c / 32 % 32 = p0 := by rw [ec]; exact rx_code_p hp0 ho0
  have e3 : c / 32 / 32 = s0 := by rw [ec]; exact rx_code_s hp0 ho0
  have e4 : c % 32 = o0 := by rw [ec]; exact rx_code_o ho0
  have hX : ∀ s p o, s < 32 → p < 32 → o < 32 → (ua X c true (rx_code s p o) = true ↔ X (rx_code s p o) = true ∨ (s = s0 ∧ p = p0 ∧ o = o0)) := by
    intro s p o hs hp ho
    unfold ua
    by_cases e : rx_code s p o = c
    · rw [if_pos e]
      rw [ec, rx_code_inj hp ho hp0 ho0] at e
      simp [e]
    · rw [if_neg e]
      rw [ec, rx_code_inj hp ho hp0 ho0] at e
      simp [e]
  unfold rx_put
  refine ⟨fun s p o hs hp ho => ?_, fun p s hp hs => ?_, fun s p hs hp => ?_, fun s hs => ?_⟩
  · show rb_b (upd y.1 (c / 32) (y.1 (c / 32) ||| (nI 1) <<< (nI (c % 32) &&& 31)) (s * 32 + p)) o = _
    rw [Bool.eq_iff_iff, hX s p o hs hp ho, e4]
    unfold upd
    by_cases e : s * 32 + p = c / 32
    · rw [if_pos e, rw_set _ ho0 ho, ← e, h1 s p o hs hp ho]
      have : s = s0 ∧ p = p0 := by omega
      simp [this]
    · rw [if_neg e, h1 s p o hs hp ho]
      have : ¬ (s = s0 ∧ p = p0 ∧ o = o0) := by omega
      simp [this]
  · show rb_b (upd y.2.1 (c / 32 % 32) (y.2.1 (c / 32 % 32) ||| (nI 1) <<< (nI (c / 32 / 32) &&& 31)) p) s = true ↔ _
    have hE : (∃ o, o < 32 ∧ ua X c true (rx_code s p o) = true) ↔ (∃ o, o < 32 ∧ X (rx_code s p o) = true) ∨ (s = s0 ∧ p = p0) := by
      constructor
      · rintro ⟨o, ho, hx⟩
        rcases (hX s p o hs hp ho).mp hx with z | z
        · exact Or.inl ⟨o, ho, z⟩
        · exact Or.inr ⟨z.1, z.2.1⟩
      · rintro (⟨o, ho, hx⟩ | ⟨z1, z2⟩)
        · exact ⟨o, ho, (hX s p o hs hp ho).mpr (Or.inl hx)⟩
        · exact ⟨o0, ho0, (hX s p o0 hs hp ho0).mpr (Or.inr ⟨z1, z2, rfl⟩)⟩
    rw [hE, e2, e3]
    unfold upd
    by_cases e : p = p0
    · subst e
      rw [if_pos rfl, rw_set _ hs0 hs, Bool.or_eq_true, h2 p s hp hs, decide_eq_true_eq]
      simp
    · rw [if_neg e, h2 p s hp hs]
      simp [e]
  · show rb_b (upd y.2.2.1 (c / 32 / 32) (y.2.2.1 (c / 32 / 32) ||| (nI 1) <<< (nI (c / 32 % 32) &&& 31)) s) p = true ↔ _
    have hE : (∃ o, o < 32 ∧ ua X c true (rx_code s p o) = true) ↔ (∃ o, o < 32 ∧ X (rx_code s p o) = true) ∨ (s = s0 ∧ p = p0) := by
      constructor
      · rintro ⟨o, ho, hx⟩
        rcases (hX s p o hs hp ho).mp hx with z | z
        · exact Or.inl ⟨o, ho, z⟩
        · exact Or.inr ⟨z.1, z.2.1⟩
      · rintro (⟨o, ho, hx⟩ | ⟨z1, z2⟩)
        · exact ⟨o, ho, (hX s p o hs hp ho).mpr (Or.inl hx)⟩
        · exact ⟨o0, ho0, (hX s p o0 hs hp ho0).mpr (Or.inr ⟨z1, z2, rfl⟩)⟩
    rw [hE, e2, e3]
    unfold upd
    by_cases e : s = s0
    · subst e
      rw [if_pos rfl, rw_set _ hp0 hp, Bool.or_eq_true, h3 s p hs hp, decide_eq_true_eq]
      simp
    · rw [if_neg e, h3 s p hs hp]
      simp [e]
  · show rb_b (y.2.2.2 ||| (nI 1) <<< (nI (c / 32 / 32) &&& 31)) s = true ↔ _
    rw [e3, rw_set _ hs0 hs, Bool.or_eq_true, h4 s hs, decide_eq_true_eq]
    constructor
    · rintro (⟨p, o, hp, ho, hx⟩ | z)
      · exact ⟨p, o, hp, ho, (hX s p o hs hp ho).mpr (Or.inl hx)⟩
      · exact ⟨p0, o0, hp0, ho0, (hX s p0 o0 hs hp0 ho0).mpr (Or.inr ⟨z, rfl, rfl⟩)⟩
    · rintro ⟨p, o, hp, ho, hx⟩
      rcases (hX s p o hs hp ho).mp hx with z | z
      · exact Or.inl ⟨p, o, hp, ho, z⟩
      · exact Or.inr z.1
theorem rx_TR_zero : rx_TR (fun _ => false) rx_zero.1 rx_zero.2.1 rx_zero.2.2.1 rx_zero.2.2.2 := by
  have h0 : ∀ i, rb_b (nI 0) i = false := fun i => by
    show (0 : Int32).toBitVec.toNat.testBit i = false
    rw [show (0 : Int32).toBitVec.toNat = 0 from rfl, Nat.zero_testBit]
  refine ⟨fun s p o _ _ _ => h0 o, fun p s _ _ => ?_, fun s p _ _ => ?_, fun s _ => ?_⟩
  · show rb_b (nI 0) s = true ↔ _
    rw [h0]; simp
  · show rb_b (nI 0) p = true ↔ _
    rw [h0]; simp
  · show rb_b (nI 0) s = true ↔ _
    rw [h0]; simp
theorem rx_TR_has {X : Nat → Bool} {y : sT} {c : Nat} (hc : c < 32768) (h : rx_TR X y.1 y.2.1 y.2.2.1 y.2.2.2) : rb_b (y.1 (c / 32)) (c % 32) = X c := by
  have := h.1 (c / 32 / 32) (c / 32 % 32) (c % 32) (by omega) (by omega) (by omega)
  rw [rx_code_of] at this
  rw [← this, show c / 32 / 32 * 32 + c / 32 % 32 = c / 32 by omega]
