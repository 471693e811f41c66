/-! a state stands for a set; a round of the one and a round of the other -/
def ri_ (X : Nat → Bool) (e : sE) : Prop := rx_TR X e.1.1 e.1.2.1 e.1.2.2.1 e.1.2.2.2 ∧ e.2.2.2.1 ≤ 400 ∧ (∀ i, i < e.2.2.2.1 → rk_ e.2.1 i < 32768 ∧ X (rk_ e.2.1 i) = true) ∧ (∀ i j, i < e.2.2.2.1 → j < e.2.2.2.1 → rk_ e.2.1 i = rk_ e.2.1 j → i = j) ∧ (∀ c, c < 32768 → X c = true → ∃ i, i < e.2.2.2.1 ∧ rk_ e.2.1 i = c) ∧ (rx_codes X).length = e.2.2.2.1 ∧ re_lk e
def ri_f (now : Nat) (L : List Nat) (X X' : Nat → Bool) (e e' : sE) : Prop := (∀ c, X c = true → X' c = true) ∧ (∀ c, c < 32768 → X' c = true → X c = true ∨ c ∈ L) ∧ (e'.2.2.2.2 = false → ∀ c, c ∈ L → X' c = true) ∧ (e'.2.2.2.2 = true → e.2.2.2.2 = true ∨ ∃ c, c ∈ L ∧ X' c = false) ∧ e.2.2.2.1 ≤ e'.2.2.2.1 ∧ (∀ i, i < e.2.2.2.1 → rk_ e'.2.1 i = rk_ e.2.1 i ∧ e'.2.2.1 i = e.2.2.1 i) ∧ (∀ i, e.2.2.2.1 ≤ i → i < e'.2.2.2.1 → e'.2.2.1 i = nI now)
theorem ri_f_refl {now : Nat} {L : List Nat} {X : Nat → Bool} {e : sE} (h : ∀ c, c ∈ L → X c = true) : ri_f now L X X e e :=
  ⟨fun _ h => h, fun _ _ h => Or.inl h, fun _ => h, fun h => Or.inl h, Nat.le_refl _, fun _ _ => ⟨rfl, rfl⟩, fun i h1 h2 => by omega⟩
theorem upd_self {f : Nat → Int32} {i : Nat} {v : Int32} : upd f i v i = v := by
  unfold upd
  rw [if_pos rfl]
theorem upd_ne {f : Nat → Int32} {i j : Nat} {v : Int32} (h : j ≠ i) : upd f i v j = f j := by
  unfold upd
  rw [if_neg h]
theorem ri_add {now c : Nat} {X : Nat → Bool} {e : sE} (hc : c < 32768) (h : ri_ X e) : ∃ X', ri_ X' (re_add now c e) ∧ ri_f now [c] X X' e (re_add now c e) := by
  have hlk := re_lk_add (now := now) (c := c) h.2.2.2.2.2.2
  obtain ⟨h1, h2, h3, h4, h5, h6, h7⟩ := h
  have hb := rx_TR_has hc h1
  unfold re_add at hlk ⊢
  rw [hb] at hlk ⊢
  by_cases hx : X c = true
  · rw [if_pos hx]
    exact ⟨X, ⟨h1, h2, h3, h4, h5, h6, h7⟩, ri_f_refl (fun d hd => by rw [List.mem_singleton.mp hd]; exact hx)⟩
  · have hx0 : X c = false := by simpa using hx
    rw [if_neg hx] at hlk ⊢
    by_cases hn : 400 ≤ e.2.2.2.1
    · rw [if_pos hn] at hlk ⊢
      exact ⟨X, ⟨h1, h2, h3, h4, h5, h6, hlk⟩, fun _ h => h, fun _ _ h => Or.inl h, (fun hf => by cases hf), fun _ => Or.inr ⟨c, List.mem_singleton.mpr rfl, hx0⟩, Nat.le_refl _, fun _ _ => ⟨rfl, rfl⟩, fun i g1 g2 => by have g2 : i < e.2.2.2.1 := g2; omega⟩
    · rw [if_neg hn] at hlk ⊢
      have hk : ∀ j, rk_ (upd e.2.1 e.2.2.2.1 (nI c)) j = if j = e.2.2.2.1 then c else rk_ e.2.1 j := fun j => rk_upd (by omega)
      have hne : ∀ j, j < e.2.2.2.1 → rk_ e.2.1 j ≠ c := fun j hj e9 => by
        have := (h3 j hj).2
        rw [e9, hx0] at this
        cases this
      refine ⟨ua X c true, ⟨rx_TR_put hc h1, by show e.2.2.2.1 + 1 ≤ 400; omega, fun i hi => ?_, fun i j hi hj => ?_, fun d hd hxd => ?_, ?_, hlk⟩, fun d hd => ?_, fun d _ hd => ?_, fun _ d hd => ?_, fun hf => Or.inl hf, Nat.le_succ _, fun i hi => ⟨?_, ?_⟩, fun i g1 g2 => ?_⟩
      · have hi : i < e.2.2.2.1 + 1 := hi
        show rk_ (upd e.2.1 e.2.2.2.1 (nI c)) i < 32768 ∧ ua X c true (rk_ (upd e.2.1 e.2.2.2.1 (nI c)) i) = true
        rw [hk]
        split
        · exact ⟨hc, ua_self _ _ _⟩
        · have := h3 i (by omega)
          refine ⟨this.1, ?_⟩
          unfold ua
          split
          · rfl
          · exact this.2
      · have hi : i < e.2.2.2.1 + 1 := hi
        have hj : j < e.2.2.2.1 + 1 := hj
        show rk_ (upd e.2.1 e.2.2.2.1 (nI c)) i = rk_ (upd e.2.1 e.2.2.2.1 (nI c)) j → i = j
        rw [hk, hk]
        intro he
        split at he
        · split at he
          · omega
          · exact absurd he.symm (hne j (by omega))
        · split at he
          · exact absurd he (hne i (by omega))
          · exact h4 i j (by omega) (by omega) he
      · show ∃ i, i < e.2.2.2.1 + 1 ∧ rk_ (upd e.2.1 e.2.2.2.1 (nI c)) i = d
        by_cases e9 : d = c
        · refine ⟨e.2.2.2.1, by omega, ?_⟩
          rw [hk, if_pos rfl, e9]
        · rw [ua_ne _ _ e9] at hxd
          obtain ⟨i, hi, hid⟩ := h5 d hd hxd
          refine ⟨i, by omega, ?_⟩
          rw [hk, if_neg (by omega)]
          exact hid
      · show ((List.range 32768).filter (ua X c true)).length = e.2.2.2.1 + 1
        rw [rw_cnt_ua hx0, if_pos hc]
        exact congrArg (· + 1) h6
      · unfold ua
        split
        · rfl
        · exact hd
      · by_cases e9 : d = c
        · exact Or.inr (List.mem_singleton.mpr e9)
        · rw [ua_ne _ _ e9] at hd
          exact Or.inl hd
      · rw [List.mem_singleton.mp hd]
        exact ua_self _ _ _
      · show rk_ (upd e.2.1 e.2.2.2.1 (nI c)) i = _
        rw [hk, if_neg (by omega)]
      · exact upd_ne (by omega)
      · have g2 : i < e.2.2.2.1 + 1 := g2
        show upd e.2.2.1 e.2.2.2.1 (nI now) i = nI now
        rw [show i = e.2.2.2.1 by omega]
        exact upd_self
theorem ri_same {X Y : Nat → Bool} {e : sE} (h1 : ri_ X e) (h2 : ri_ Y e) (c : Nat) (hc : c < 32768) : X c = Y c := by
  rw [← rx_TR_has hc h1.1, ← rx_TR_has hc h2.1]
theorem ri_fold {now : Nat} : ∀ (L : List Nat) (X : Nat → Bool) (e : sE), (∀ c, c ∈ L → c < 32768) → ri_ X e → ∃ X', ri_ X' (re_fold now L e) ∧ ri_f now L X X' e (re_fold now L e)
  | [], X, e, _, h => ⟨X, h, ri_f_refl (fun c hc => by cases hc)⟩
  | c :: L, X, e, hL, h => by
    obtain ⟨X1, g1, a1, a2, a3, a4, a5, a6, a7⟩ := ri_add (now := now) (hL c List.mem_cons_self) h
    obtain ⟨X2, g2, b1, b2, b3, b4, b5, b6, b7⟩ := ri_fold (now := now) L X1 (re_add now c e) (fun d hd => hL d (List.mem_cons_of_mem _ hd)) g1
    have hst : (re_add now c e).2.2.2.2 = true → re_fold now L (re_add now c e) = re_add now c e := fun hl => re_fold_large hl g1.2.2.2.2.2.2 L
    show ∃ X', ri_ X' (re_fold now L (re_add now c e)) ∧ ri_f now (c :: L) X X' e (re_fold now L (re_add now c e))
    refine ⟨X2, g2, fun d hd => b1 d (a1 d hd), fun d hd hx => ?_, fun hf d hd => ?_, fun ht => ?_, Nat.le_trans a5 b5, fun i hi => ?_, fun i h1 h2 => ?_⟩
    · rcases b2 d hd hx with z | z
      · rcases a2 d hd z with w | w
        · exact Or.inl w
        · exact Or.inr (List.mem_cons.mpr (Or.inl (List.mem_singleton.mp w)))
      · exact Or.inr (List.mem_cons_of_mem _ z)
    · rcases List.mem_cons.mp hd with rfl | hd
      · apply b1
        apply a3
        · cases hl : (re_add now d e).2.2.2.2 with
          | false => rfl
          | true => rw [hst hl, hl] at hf; cases hf
        · exact List.mem_singleton.mpr rfl
      · exact b3 hf d hd
    · rcases b4 ht with z | ⟨d, hd, hx⟩
      · rcases a4 z with w | ⟨d, hd, hx⟩
        · exact Or.inl w
        · refine Or.inr ⟨c, List.mem_cons_self, ?_⟩
          rw [List.mem_singleton.mp hd] at hx
          rw [hst z] at g2
          rw [ri_same g2 g1 c (hL c List.mem_cons_self)]
          exact hx
      · exact Or.inr ⟨d, List.mem_cons_of_mem _ hd, hx⟩
    · have g := b6 i (by omega)
      have g' := a6 i hi
      exact ⟨g.1.trans g'.1, g.2.trans g'.2⟩
    · by_cases h3 : i < (re_add now c e).2.2.2.1
      · rw [(b6 i h3).2]
        exact a7 i h1 h3
      · exact b7 i (by omega) h2
theorem re_fold_n {now : Nat} : ∀ (L : List Nat) (e : sE), (re_fold now L e).2.2.2.1 ≤ e.2.2.2.1 + L.length
  | [], e => Nat.le_refl _
  | c :: L, e => by
    have h := re_fold_n (now := now) L (re_add now c e)
    have h2 : (re_add now c e).2.2.2.1 ≤ e.2.2.2.1 + 1 := by
      unfold re_add
      split
      · omega
      · split
        · show e.2.2.2.1 ≤ _; omega
        · exact Nat.le_refl _
    show (re_fold now L (re_add now c e)).2.2.2.1 ≤ _
    rw [List.length_cons]
    omega
theorem rx_TR_congr {X Y : Nat → Bool} {f g h : Nat → Int32} {al : Int32} (hT : rx_TR X f g h al) (hXY : ∀ c, c < 32768 → X c = Y c) : rx_TR Y f g h al := by
  obtain ⟨h1, h2, h3, h4⟩ := hT
  refine ⟨fun s p o hs hp ho => by rw [h1 s p o hs hp ho, hXY _ (rx_code_lt hs hp ho)], fun p s hp hs => ?_, fun s p hs hp => ?_, fun s hs => ?_⟩
  · rw [h2 p s hp hs]
    constructor
    · rintro ⟨o, ho, hx⟩
      exact ⟨o, ho, by rw [← hXY _ (rx_code_lt hs hp ho)]; exact hx⟩
    · rintro ⟨o, ho, hx⟩
      exact ⟨o, ho, by rw [hXY _ (rx_code_lt hs hp ho)]; exact hx⟩
  · rw [h3 s p hs hp]
    constructor
    · rintro ⟨o, ho, hx⟩
      exact ⟨o, ho, by rw [← hXY _ (rx_code_lt hs hp ho)]; exact hx⟩
    · rintro ⟨o, ho, hx⟩
      exact ⟨o, ho, by rw [hXY _ (rx_code_lt hs hp ho)]; exact hx⟩
  · rw [h4 s hs]
    constructor
    · rintro ⟨p, o, hp, ho, hx⟩
      exact ⟨p, o, hp, ho, by rw [← hXY _ (rx_code_lt hs hp ho)]; exact hx⟩
    · rintro ⟨p, o, hp, ho, hx⟩
      exact ⟨p, o, hp, ho, by rw [hXY _ (rx_code_lt hs hp ho)]; exact hx⟩
theorem ri_puts {f : Nat → Int32} : ∀ (n i : Nat) (Y : Nat → Bool) (y : sT), (∀ j, i ≤ j → j < i + n → rk_ f j < 32768) → rx_TR Y y.1 y.2.1 y.2.2.1 y.2.2.2 → ∃ Y', rx_TR Y' (rd_puts f n i y).1 (rd_puts f n i y).2.1 (rd_puts f n i y).2.2.1 (rd_puts f n i y).2.2.2 ∧ ∀ c, Y' c = true ↔ Y c = true ∨ ∃ j, i ≤ j ∧ j < i + n ∧ rk_ f j = c
  | 0, i, Y, y, _, h => ⟨Y, h, fun c => ⟨Or.inl, fun z => z.elim id (fun ⟨j, h1, h2, _⟩ => by omega)⟩⟩
  | n + 1, i, Y, y, hf, h => by
    obtain ⟨Y', g1, g2⟩ := ri_puts n (i + 1) (ua Y (rk_ f i) true) (rx_put (rk_ f i) y) (fun j h1 h2 => hf j (by omega) (by omega)) (rx_TR_put (hf i (by omega) (by omega)) h)
    refine ⟨Y', g1, fun c => ?_⟩
    rw [g2]
    constructor
    · rintro (z | ⟨j, h1, h2, h3⟩)
      · by_cases e : c = rk_ f i
        · exact Or.inr ⟨i, by omega, by omega, e.symm⟩
        · rw [ua_ne _ _ e] at z
          exact Or.inl z
      · exact Or.inr ⟨j, by omega, by omega, h3⟩
    · rintro (z | ⟨j, h1, h2, h3⟩)
      · left
        unfold ua
        split
        · rfl
        · exact z
      · by_cases e : j = i
        · left
          rw [← h3, e]
          exact ua_self _ _ _
        · exact Or.inr ⟨j, by omega, by omega, h3⟩
theorem rd_reach_b {g : Nat → Int32} : ∀ (n r : Nat) (m : Int32), r + n ≤ 32 → ∀ j, j < 32 → (rb_b (rd_reach g n r m) j = true ↔ rb_b m j = true ∨ (r ≤ j ∧ j < r + n ∧ ¬ g (rq_prem.getD (12 * j + 3 * 0 + 1) 0) = 0))
  | 0, r, m, _, j, _ => by
    show rb_b m j = true ↔ _
    constructor
    · exact Or.inl
    · rintro (z | ⟨h1, h2, _⟩)
      · exact z
      · omega
  | n + 1, r, m, hr, j, hj => by
    show rb_b (rd_reach g n (r + 1) (if g (rq_prem.getD (12 * r + 3 * 0 + 1) 0) = 0 then m else m ||| (nI 1) <<< (nI r &&& 31))) j = true ↔ _
    rw [rd_reach_b n (r + 1) _ (by omega) j hj]
    by_cases hg : g (rq_prem.getD (12 * r + 3 * 0 + 1) 0) = 0
    · rw [if_pos hg]
      constructor
      · rintro (z | ⟨h1, h2, h3⟩)
        · exact Or.inl z
        · exact Or.inr ⟨by omega, by omega, h3⟩
      · rintro (z | ⟨h1, h2, h3⟩)
        · exact Or.inl z
        · by_cases e : j = r
          · rw [e] at h3
            exact absurd hg h3
          · exact Or.inr ⟨by omega, by omega, h3⟩
    · rw [if_neg hg, rw_set _ (by omega) hj, Bool.or_eq_true, decide_eq_true_eq]
      constructor
      · rintro ((z | z) | ⟨h1, h2, h3⟩)
        · exact Or.inl z
        · exact Or.inr ⟨by omega, by omega, by rw [z]; exact hg⟩
        · exact Or.inr ⟨by omega, by omega, h3⟩
      · rintro (z | ⟨h1, h2, h3⟩)
        · exact Or.inl (Or.inl z)
        · by_cases e : j = r
          · exact Or.inl (Or.inr e)
          · exact Or.inr ⟨by omega, by omega, h3⟩
/-- what can be met has its first predicate in reach -/
theorem rw_reach {X : Nat → Bool} {f g h : Nat → Int32} {al : Int32} (hT : rx_TR X f g h al) {r : Nat} (hr : r < 24) {p d : List Nat} (hq : (p, d) ∈ rv_sol (rx_codes X) r (rq_cnts.getD r 0) 0 rt_free) : ¬ g (rq_prem.getD (12 * r + 3 * 0 + 1) 0) = 0 := by
  obtain ⟨g1, g2, g3⟩ := (rw_mem _ _ _ _).mp hq
  have hc := rq_cnts_le r hr
  cases p with
  | nil => have g1 : 0 = rq_cnts.getD r 0 := g1; omega
  | cons c p =>
    have g3 : (rs_fit r 0 c rt_free).bind (rw_run r (0 + 1) p) = some d := g3
    obtain ⟨d0, hf, -⟩ := Option.bind_eq_some_iff.mp g3
    obtain ⟨hc1, hc2⟩ := rx_codes_mem.mp (g2 c List.mem_cons_self)
    obtain ⟨-, t2, -⟩ := rt_fit_this rt_free_ok hc1 (rq_prem_lt _) (rq_prem_lt _) (rq_prem_lt _) hf
    have hp := rq_prem_p r hr
    have e : rq_prem.getD (12 * r + 3 * 0 + 1) 0 = c / 32 % 32 := by
      unfold rt_term at t2
      rw [if_pos hp] at t2
      exact Option.some.inj t2
    intro h0
    have := (hT.2.1 (c / 32 % 32) (c / 32 / 32) (by omega) (by omega)).mpr ⟨c % 32, by omega, by rw [rx_code_of]; exact hc2⟩
    rw [← e, h0] at this
    have h9 : rb_b 0 (c / 32 / 32) = false := by
      show (0 : Int32).toBitVec.toNat.testBit _ = false
      rw [show (0 : Int32).toBitVec.toNat = 0 from rfl, Nat.zero_testBit]
    rw [h9] at this
    cases this
/-- what a stretch of codes brings -/
theorem re_NL {hs : List Nat} (hhs : ∀ c ∈ hs, c < 32768) {x : Int32} {f : Nat → Int32} {frm n c : Nat} (hf : ∀ j, frm ≤ j → j < frm + n → rk_ f j ∈ hs) : c ∈ (List.range' frm n).flatMap (fun j => re_code hs x (rk_ f j)) ↔ ∃ r, r < 21 ∧ rb_b x r = true ∧ ∃ p d, (p, d) ∈ rv_sol hs r (rq_cnts.getD r 0) 0 rt_free ∧ (∃ j, frm ≤ j ∧ j < frm + n ∧ rk_ f j ∈ p) ∧ rj_given r d = c := by
  constructor
  · intro h
    obtain ⟨j, hj, h⟩ := List.mem_flatMap.mp h
    obtain ⟨a, ha, ej⟩ := List.mem_range'.mp hj
    obtain ⟨q, hq, h⟩ := List.mem_flatMap.mp h
    obtain ⟨r, hr, hq⟩ := List.mem_flatMap.mp hq
    obtain ⟨b, hb, er⟩ := List.mem_range'.mp hr
    unfold rd_row at hq
    split at hq
    · rename_i hx
      obtain ⟨f0, hf0, rfl⟩ := List.mem_map.mp hq
      obtain ⟨a9, ha9, ef⟩ := List.mem_range'.mp hf0
      obtain ⟨d, hd, hgc⟩ := List.mem_map.mp h
      have hd : d ∈ rw_fo hs r (some f0) (rq_cnts.getD r 0) 0 (rs_fit r f0 (rk_ f j) rt_free) := hd
      cases hfit : rs_fit r f0 (rk_ f j) rt_free with
      | none => rw [hfit] at hd; cases hd
      | some d0 =>
        rw [hfit] at hd
        obtain ⟨p, hp, hpc⟩ := (rw_fs_fix hhs (hf j (by omega) (by omega)) (rq_cnts.getD r 0) 0 rt_free rt_free_ok (Nat.zero_le f0) (by omega) d).mpr ⟨d0, hfit, hd⟩
        exact ⟨r, by omega, hx, p, d, hp, ⟨j, by omega, by omega, List.mem_of_getElem? hpc⟩, hgc⟩
    · cases hq
  · rintro ⟨r, hr, hx, p, d, hp, ⟨j, h1, h2, hm⟩, hgc⟩
    obtain ⟨f0, hf0⟩ := List.mem_iff_getElem?.mp hm
    have hlen := ((rw_mem _ _ _ _).mp hp).1
    have hlt : f0 < rq_cnts.getD r 0 := by
      have := (List.getElem?_eq_some_iff.mp hf0).1
      have hlen : p.length = rq_cnts.getD r 0 := hlen
      omega
    obtain ⟨d0, hfit, hd⟩ := (rw_fs_fix hhs (hf j h1 h2) (rq_cnts.getD r 0) 0 rt_free rt_free_ok (Nat.zero_le f0) (by omega) d).mp ⟨p, hp, hf0⟩
    refine List.mem_flatMap.mpr ⟨j, List.mem_range'.mpr ⟨j - frm, by omega, by omega⟩, ?_⟩
    refine List.mem_flatMap.mpr ⟨(r, f0), List.mem_flatMap.mpr ⟨r, List.mem_range'.mpr ⟨r, by omega, by omega⟩, ?_⟩, ?_⟩
    · unfold rd_row
      rw [if_pos hx]
      exact List.mem_map.mpr ⟨f0, List.mem_range'.mpr ⟨f0, by omega, by omega⟩, rfl⟩
    · unfold re_one
      refine List.mem_map.mpr ⟨d, ?_, hgc⟩
      show d ∈ rw_fo hs r (some f0) (rq_cnts.getD r 0) 0 (rs_fit r f0 (rk_ f j) rt_free)
      rw [hfit]
      exact hd
theorem mk_G_mem {hl : Nat → Nat} {mn : Nat} {of : Nat → Bool} {c : Nat} : c ∈ mk_G hl mn of ↔ ∃ r, r < 21 ∧ of r = false ∧ ∃ p d, (p, d) ∈ rv_sol ((List.range' 0 mn).map hl) r (rq_cnts.getD r 0) 0 rt_free ∧ rj_given r d = c := by
  unfold mk_G
  constructor
  · intro h
    obtain ⟨r, hr, h⟩ := List.mem_flatMap.mp h
    obtain ⟨b, hb, er⟩ := List.mem_range'.mp hr
    unfold mk_row at h
    split at h
    · cases h
    · rename_i ho
      obtain ⟨q, hq, e⟩ := List.mem_map.mp h
      exact ⟨r, by omega, by simpa using ho, q.1, q.2, hq, e⟩
  · rintro ⟨r, hr, ho, p, d, hp, e⟩
    refine List.mem_flatMap.mpr ⟨r, List.mem_range'.mpr ⟨r, by omega, by omega⟩, ?_⟩
    unfold mk_row
    rw [if_neg (by rw [ho]; simp)]
    exact List.mem_map.mpr ⟨(p, d), hp, e⟩
/-- collecting -/
theorem mc_list {rn : Nat → Nat} : ∀ (n c : Nat) (x : (Nat → Nat) × Nat), x.2 ≤ 401 → (List.range' 0 (mc_ rn n c x).2).map (mc_ rn n c x).1 = ((List.range' 0 x.2).map x.1 ++ (List.range' c n).filter (fun c => decide (0 < rn c))).take 401
  | 0, c, x, h => by
    show (List.range' 0 x.2).map x.1 = _
    rw [List.range'_zero, List.filter_nil, List.append_nil, List.take_of_length_le (by simpa using h)]
  | n + 1, c, x, h => by
    have e : mc_ rn (n + 1) c x = if x.2 ≤ 400 then mc_ rn n (c + 1) (if 0 < rn c then (ua x.1 x.2 c, x.2 + 1) else x) else x := rfl
    rw [e, List.range'_succ, List.filter_cons]
    by_cases h4 : x.2 ≤ 400
    · rw [if_pos h4]
      by_cases hr : 0 < rn c
      · rw [if_pos hr, if_pos (by simpa using hr), mc_list n (c + 1) _ (by show x.2 + 1 ≤ 401; omega)]
        have e2 : (List.range' 0 (x.2 + 1)).map (ua x.1 x.2 c) = (List.range' 0 x.2).map x.1 ++ [c] := by
          rw [List.range'_1_concat, List.map_append]
          have e3 : (List.range' 0 x.2).map (ua x.1 x.2 c) = (List.range' 0 x.2).map x.1 := by
            apply List.map_congr_left
            intro j hj
            obtain ⟨b, hb, eb⟩ := List.mem_range'.mp hj
            exact ua_ne _ _ (by omega)
          rw [e3]
          simp [ua_self]
        show ((List.range' 0 (x.2 + 1)).map (ua x.1 x.2 c) ++ _).take 401 = _
        rw [e2, List.append_assoc]
        rfl
      · rw [if_neg hr, if_neg (by simpa using hr), mc_list n (c + 1) _ h]
    · rw [if_neg h4, List.take_append_of_le_length (by simp; omega), List.take_of_length_le (by simpa using h)]
theorem mc_codes {rn hl : Nat → Nat} {X : Nat → Bool} (hX : ∀ c, c < 32768 → X c = decide (0 < rn c)) : (List.range' 0 (mc_ rn 32768 0 (hl, 0)).2).map (mc_ rn 32768 0 (hl, 0)).1 = (rx_codes X).take 401 := by
  rw [mc_list 32768 0 (hl, 0) (Nat.zero_le _)]
  unfold rx_codes
  show (([] : List Nat) ++ _).take 401 = _
  rw [List.nil_append, List.range_eq_range']
  congr 1
  apply List.filter_congr
  intro c hc
  obtain ⟨b, hb, eb⟩ := List.mem_range'.mp hc
  exact (hX c (by omega)).symm
theorem mc_len {rn hl : Nat → Nat} {X : Nat → Bool} (hX : ∀ c, c < 32768 → X c = decide (0 < rn c)) : (mc_ rn 32768 0 (hl, 0)).2 = min 401 (rx_codes X).length := by
  have := congrArg List.length (mc_codes (hl := hl) hX)
  rw [List.length_map, List.length_range', List.length_take] at this
  exact this
theorem rx_codes_congr {X Y : Nat → Bool} (h : ∀ c, c < 32768 → X c = Y c) : rx_codes X = rx_codes Y := by
  unfold rx_codes
  apply List.filter_congr
  intro c hc
  exact h c (List.mem_range.mp hc)
theorem rx_codes_le {X Y : Nat → Bool} (h : ∀ c, c < 32768 → X c = true → Y c = true) : (rx_codes X).length ≤ (rx_codes Y).length := by
  unfold rx_codes
  rw [← List.countP_eq_length_filter, ← List.countP_eq_length_filter]
  exact List.countP_mono_left (fun c hc => h c (List.mem_range.mp hc))
