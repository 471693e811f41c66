/-! both go on side by side -/
/-- what is the same once all is known -/
def fr_ (D : sR) (N : sN) : Prop := D.2.1.2.2.2.2.2 = N.2.2.2.2 ∧ (N.2.2.2.2 = false → ∃ X : Nat → Bool, rx_TR X D.1.1 D.1.2.1 D.1.2.2.1 D.1.2.2.2 ∧ ri_ X D.2.1.2 ∧ (∀ c, c < 32768 → X c = decide (0 < N.2.1 c)) ∧ (∀ i, i < D.2.1.2.2.2.2.1 → D.2.1.2.2.2.1 i = nI (N.2.1 (rk_ D.2.1.2.2.1 i) - 1)) ∧ rd_last D.2.1 = nI N.1 ∧ mm_hs N = rx_codes X)
/-- before a round -/
def fj_ (of : Nat → Bool) (z : sR) (X : Nat → Bool) (frm gr : Nat) (rn hl : Nat → Nat) (mn : Nat) : Prop :=
  ri_ X z.2.1.2 ∧ z.2.1.2.2.2.2.2 = false ∧ (∃ Y : Nat → Bool, rx_TR Y z.1.1 z.1.2.1 z.1.2.2.1 z.1.2.2.2 ∧ ∀ c, c < 32768 → (Y c = true ↔ ∃ j, j < frm ∧ rk_ z.2.1.2.2.1 j = c)) ∧ frm ≤ z.2.1.2.2.2.2.1 ∧ (∀ c, c < 32768 → X c = decide (0 < rn c)) ∧ (∀ i, i < z.2.1.2.2.2.2.1 → z.2.1.2.2.2.1 i = nI (rn (rk_ z.2.1.2.2.1 i) - 1)) ∧ (∀ i, frm ≤ i → i < z.2.1.2.2.2.2.1 → z.2.1.2.2.2.1 i = nI gr) ∧ (List.range' 0 mn).map hl = rx_codes X ∧
  (∀ r, r < 21 → of r = false → ∀ p d, (p, d) ∈ rv_sol (rx_codes X) r (rq_cnts.getD r 0) 0 rt_free → (∀ c, c ∈ p → ∃ j, j < frm ∧ rk_ z.2.1.2.2.1 j = c) → X (rj_given r d) = true)
theorem rb_and_b (x y : Int32) (j : Nat) : rb_b (x &&& y) j = true ↔ rb_b x j = true ∧ rb_b y j = true := by rw [ry_and, Bool.and_eq_true]
theorem fr_step {x : Int32} {of : Nat → Bool} (hof : ∀ r, r < 21 → rb_b x r = !of r) {z : sR} {X : Nat → Bool} {frm gr mn : Nat} {rn hl : Nat → Nat} (hj : fj_ of z X frm gr rn hl mn) :
    ∃ (NL : List Nat) (X' : Nat → Bool), ri_ X' (rd_round x (gr + 1) frm z).2.1.2 ∧ ri_f (gr + 1) NL X X' z.2.1.2 (rd_round x (gr + 1) frm z).2.1.2 ∧ rx_TR X (rd_round x (gr + 1) frm z).1.1 (rd_round x (gr + 1) frm z).1.2.1 (rd_round x (gr + 1) frm z).1.2.2.1 (rd_round x (gr + 1) frm z).1.2.2.2 ∧ (∀ c, c ∈ NL → c < 32768) ∧ (∀ c, c ∈ NL → c ∈ mk_G hl mn of) ∧ (∀ c, c ∈ mk_G hl mn of → X c = true ∨ c ∈ NL) := by
  obtain ⟨j1, j2, ⟨Y, jY, jY2⟩, j4, j5, j6, j7, j8, j9⟩ := hj
  have hri := j1
  obtain ⟨i1, i2, i3, i4, i5, i6, i7⟩ := hri
  have hok : rd_ok z.2.1 := ⟨i2, fun i hi => (i3 i hi).1⟩
  obtain ⟨Y', g1, g2⟩ := ri_puts (f := z.2.1.2.2.1) (z.2.1.2.2.2.2.1 - frm) frm Y z.1 (fun j h1 h2 => (i3 j (by show j < z.2.1.2.2.2.2.1; omega)).1) jY
  have hYX : ∀ c, c < 32768 → Y' c = X c := by
    intro c hc
    rw [Bool.eq_iff_iff, g2, jY2 c hc]
    constructor
    · rintro (⟨j, h1, h2⟩ | ⟨j, h1, h2, h3⟩)
      · rw [← h2]; exact (i3 j (by show j < z.2.1.2.2.2.2.1; omega)).2
      · rw [← h3]; exact (i3 j (by show j < z.2.1.2.2.2.2.1; omega)).2
    · intro hx
      obtain ⟨j, h1, h2⟩ := i5 c hc hx
      by_cases h : j < frm
      · exact Or.inl ⟨j, h, h2⟩
      · exact Or.inr ⟨j, by omega, by have h1 : j < z.2.1.2.2.2.2.1 := h1; omega, h2⟩
  have hTR := rx_TR_congr g1 hYX
  have hcm : ∀ j, frm ≤ j → j < frm + (z.2.1.2.2.2.2.1 - frm) → rk_ z.2.1.2.2.1 j ∈ rx_codes X := fun j h1 h2 => rx_codes_mem.mpr (i3 j (by show j < z.2.1.2.2.2.2.1; omega))
  have hall := re_all hTR (now := gr + 1) (x := x &&& rd_reach (rd_puts z.2.1.2.2.1 (z.2.1.2.2.2.2.1 - frm) frm z.1).2.1 21 0 (nI 0)) (z.2.1.2.2.2.2.1 - frm) frm z.2.1 (by omega) hok i7
  have hNL := fun c => re_NL (hs := rx_codes X) rx_codes_lt (x := x &&& rd_reach (rd_puts z.2.1.2.2.1 (z.2.1.2.2.2.2.1 - frm) frm z.1).2.1 21 0 (nI 0)) (f := z.2.1.2.2.1) (frm := frm) (n := z.2.1.2.2.2.2.1 - frm) (c := c) hcm
  generalize hNLd : (List.range' frm (z.2.1.2.2.2.2.1 - frm)).flatMap (fun j => re_code (rx_codes X) (x &&& rd_reach (rd_puts z.2.1.2.2.1 (z.2.1.2.2.2.2.1 - frm) frm z.1).2.1 21 0 (nI 0)) (rk_ z.2.1.2.2.1 j)) = NL at hall hNL
  have hlt : ∀ c, c ∈ NL → c < 32768 := by
    intro c hc
    obtain ⟨r, hr, -, p, d, hp, -, hgc⟩ := (hNL c).mp hc
    rw [← hgc]
    exact rj_given_lt (rv_cov0 rx_codes_lt hp).1
  obtain ⟨X', a1, a2⟩ := ri_fold (now := gr + 1) NL X z.2.1.2 hlt j1
  have hst : (rd_round x (gr + 1) frm z).2.1.2 = re_fold (gr + 1) NL z.2.1.2 := hall
  refine ⟨NL, X', by rw [hst]; exact a1, by rw [hst]; exact a2, hTR, hlt, fun c hc => ?_, fun c hc => ?_⟩
  · obtain ⟨r, hr, hx, p, d, hp, -, hgc⟩ := (hNL c).mp hc
    rw [rb_and_b, hof r hr] at hx
    rw [mk_G_mem, j8]
    exact ⟨r, hr, by simpa using hx.1, p, d, hp, hgc⟩
  · rw [mk_G_mem, j8] at hc
    obtain ⟨r, hr, ho, p, d, hp, hgc⟩ := hc
    by_cases hold : ∀ c, c ∈ p → ∃ j, j < frm ∧ rk_ z.2.1.2.2.1 j = c
    · left
      rw [← hgc]
      exact j9 r hr ho p d hp hold
    · right
      rw [hNL]
      refine ⟨r, hr, ?_, p, d, hp, ?_, hgc⟩
      · rw [rb_and_b, hof r hr, ho]
        refine ⟨rfl, (rd_reach_b 21 0 (nI 0) (by omega) r (by omega)).mpr (Or.inr ⟨by omega, by omega, ?_⟩)⟩
        exact rw_reach hTR (by omega) hp
      · apply Classical.byContradiction
        intro hno
        apply hold
        intro c2 hc2
        obtain ⟨hc3, hc4⟩ := rx_codes_mem.mp (((rw_mem _ _ _ _).mp hp).2.1 c2 hc2)
        obtain ⟨j, h1, h2⟩ := i5 c2 hc3 hc4
        have h1 : j < z.2.1.2.2.2.2.1 := h1
        by_cases h : j < frm
        · exact ⟨j, h, h2⟩
        · exact absurd ⟨j, by omega, by omega, by rw [h2]; exact hc2⟩ hno
theorem rd_rounds_stop {x : Int32} {r frm : Nat} {z : sR} (h : ¬ (frm < z.2.1.2.2.2.2.1 ∧ z.2.1.2.2.2.2.2 = false)) : ∀ n, rd_rounds x n r frm z = z
  | 0 => rfl
  | n + 1 => by
    show (if frm < z.2.1.2.2.2.2.1 ∧ z.2.1.2.2.2.2.2 = false then _ else z) = z
    rw [if_neg h]
theorem rd_rounds_s {x : Int32} {r frm n : Nat} {z : sR} (h : frm < z.2.1.2.2.2.2.1 ∧ z.2.1.2.2.2.2.2 = false) : rd_rounds x (n + 1) r frm z = rd_rounds x n (r + 1) z.2.1.2.2.2.2.1 (rd_round x r frm z) := by
  show (if frm < z.2.1.2.2.2.2.1 ∧ z.2.1.2.2.2.2.2 = false then _ else z) = _
  rw [if_pos h]
theorem rd_last_pos {st : sD} (h : 0 < st.2.2.2.2.1) : rd_last st = st.2.2.2.1 (st.2.2.2.2.1 - 1) := by
  unfold rd_last
  rw [if_pos h]
theorem fr_rounds {x : Int32} {of : Nat → Bool} (hof : ∀ r, r < 21 → rb_b x r = !of r) : ∀ (n gr frm : Nat) (z : sR) (X : Nat → Bool) (rn hl : Nat → Nat) (mn m : Nat), fj_ of z X frm gr rn hl mn → frm < z.2.1.2.2.2.2.1 → n + gr = 400 → gr ≤ frm → n + 2 ≤ m → ∃ N, mk_ of m (gr, rn, hl, mn, false) = some N ∧ fr_ (rd_rounds x n (gr + 1) frm z) N
  | 0, gr, frm, z, X, rn, hl, mn, m, hj, hlt, hn, hg, hm => by
    have : z.2.1.2.2.2.2.1 ≤ 400 := hj.1.2.1
    omega
  | n + 1, gr, frm, z, X, rn, hl, mn, m, hj, hlt, hn, hg, hm => by
    obtain ⟨NL, X', s1, s2, s3, s4, s5, s6⟩ := fr_step (x := x) hof hj
    obtain ⟨j1, j2, -, j4, j5, j6, j7, j8, j9⟩ := hj
    obtain ⟨i1, i2, i3, i4, i5, i6, i7⟩ := j1
    rw [rd_rounds_s ⟨hlt, j2⟩]
    generalize hz : rd_round x (gr + 1) frm z = z' at s1 s2 s3 ⊢
    obtain ⟨f1, f2, f3, f4, f5, f6, f7⟩ := s2
    have hs1 := s1
    obtain ⟨k1, k2, k3, k4, k5, k6, k7⟩ := hs1
    obtain ⟨m, rfl⟩ : ∃ m', m = m' + 1 := ⟨m - 1, by omega⟩
    rw [mk_s]
    have hG0 : ∀ c, c < 32768 → (X c = false ↔ rn c = 0) := by
      intro c hc
      rw [j5 c hc, decide_eq_false_iff_not]
      omega
    by_cases ha : (mk_G hl mn of).any (fun c => decide (rn c = 0)) = true
    · rw [if_pos ha]
      have hrn : ∀ c, 0 < mk_rn (mk_G hl mn of) gr rn c ↔ (0 < rn c ∨ c ∈ mk_G hl mn of) := by
        intro c
        unfold mk_rn
        by_cases h1 : c ∈ mk_G hl mn of
        · by_cases h2 : rn c = 0
          · simp [h1, h2]
          · simp [h1, h2]; omega
        · simp [h1]
      cases hlg : z'.2.1.2.2.2.2.2 with
      | true =>
        obtain ⟨c, hc, hxc⟩ := (f4 hlg).resolve_left (by rw [j2]; simp)
        have hn4 : z'.2.1.2.2.2.2.1 = 400 := Nat.le_antisymm k2 (k7 hlg)
        have hlen : 401 ≤ (rx_codes (fun c => decide (0 < mk_rn (mk_G hl mn of) gr rn c))).length := by
          have e1 : (rx_codes (ua X' c true)).length = 401 := by
            show ((List.range 32768).filter (ua X' c true)).length = 401
            rw [rw_cnt_ua hxc, if_pos (s4 c hc)]
            have : ((List.range 32768).filter X').length = z'.2.1.2.2.2.2.1 := k6
            omega
          rw [← e1]
          apply rx_codes_le
          intro d hd hxd
          rw [decide_eq_true_eq, hrn]
          by_cases e : d = c
          · rw [e]; exact Or.inr (s5 c hc)
          · rw [ua_ne _ _ e] at hxd
            rcases f2 d hd hxd with w | w
            · rw [j5 d hd, decide_eq_true_eq] at w
              exact Or.inl w
            · exact Or.inr (s5 d w)
        have hmn : (mc_ (mk_rn (mk_G hl mn of) gr rn) 32768 0 (hl, 0)).2 = 401 := by
          rw [mc_len (X := fun c => decide (0 < mk_rn (mk_G hl mn of) gr rn c)) (fun _ _ => rfl)]
          omega
        obtain ⟨m, rfl⟩ : ∃ m', m = m' + 1 := ⟨m - 1, by omega⟩
        rw [hmn, show decide (400 < 401) = true from rfl, mk_t, rd_rounds_stop (fun w => by rw [hlg] at w; cases w.2)]
        exact ⟨_, rfl, hlg, fun hf => by cases hf⟩
      | false =>
        have hX' : ∀ c, c < 32768 → X' c = decide (0 < mk_rn (mk_G hl mn of) gr rn c) := by
          intro c hc
          rw [Bool.eq_iff_iff, decide_eq_true_eq, hrn]
          constructor
          · intro hx
            rcases f2 c hc hx with w | w
            · rw [j5 c hc, decide_eq_true_eq] at w
              exact Or.inl w
            · exact Or.inr (s5 c w)
          · rintro (w | w)
            · apply f1
              rw [j5 c hc, decide_eq_true_eq]
              exact w
            · rcases s6 c w with v | v
              · exact f1 c v
              · exact f3 hlg c v
        have k6 : (rx_codes X').length = z'.2.1.2.2.2.2.1 := k6
        have k2 : z'.2.1.2.2.2.2.1 ≤ 400 := k2
        have hmn : (mc_ (mk_rn (mk_G hl mn of) gr rn) 32768 0 (hl, 0)).2 = z'.2.1.2.2.2.2.1 := by
          rw [mc_len hX', k6]
          omega
        rw [show decide (400 < (mc_ (mk_rn (mk_G hl mn of) gr rn) 32768 0 (hl, 0)).2) = false by rw [hmn]; simpa using k2]
        have f5 : z.2.1.2.2.2.2.1 ≤ z'.2.1.2.2.2.2.1 := f5
        have hnew : z.2.1.2.2.2.2.1 < z'.2.1.2.2.2.2.1 := by
          obtain ⟨c, hc, hr0⟩ := List.any_eq_true.mp ha
          have hr0 : rn c = 0 := of_decide_eq_true hr0
          have hc3 : c < 32768 := by
            rcases s6 c hc with w | w
            · obtain ⟨r, hr, -, p, d, hp, hgc⟩ := mk_G_mem.mp hc
              rw [j8] at hp
              rw [← hgc]
              exact rj_given_lt (rv_cov0 rx_codes_lt hp).1
            · exact s4 c w
          have hx0 := (hG0 c hc3).mpr hr0
          have hx1 : X' c = true := by
            rcases s6 c hc with w | w
            · rw [hx0] at w; cases w
            · exact f3 hlg c w
          have e1 : (rx_codes (ua X c true)).length = z.2.1.2.2.2.2.1 + 1 := by
            show ((List.range 32768).filter (ua X c true)).length = _
            rw [rw_cnt_ua hx0, if_pos hc3]
            exact congrArg (· + 1) i6
          have e2 := rx_codes_le (X := ua X c true) (Y := X') (fun d hd hxd => by
            by_cases e : d = c
            · rw [e]; exact hx1
            · rw [ua_ne _ _ e] at hxd
              exact f1 d hxd)
          omega
        refine fr_rounds hof n (gr + 1) z.2.1.2.2.2.2.1 z' X' _ _ _ m ⟨s1, hlg, ⟨X, s3, fun c hc => ?_⟩, f5, hX', fun i hi => ?_, fun i h1 h2 => f7 i h1 h2, ?_, fun r hr ho p d hp hold => ?_⟩ hnew (by omega) (by omega) (by omega)
        · constructor
          · intro hx
            obtain ⟨j, h1, h2⟩ := i5 c hc hx
            exact ⟨j, h1, by rw [← h2]; exact (f6 j h1).1⟩
          · rintro ⟨j, h1, h2⟩
            rw [← h2]
            rw [show rk_ z'.2.1.2.2.1 j = rk_ z.2.1.2.2.1 j from (f6 j h1).1]
            exact (i3 j h1).2
        · by_cases h1 : i < z.2.1.2.2.2.2.1
          · have g := f6 i h1
            have g1 : rk_ z'.2.1.2.2.1 i = rk_ z.2.1.2.2.1 i := g.1
            have g2 : z'.2.1.2.2.2.1 i = z.2.1.2.2.2.1 i := g.2
            have hx := (i3 i h1)
            have hne : ¬ rn (rk_ z.2.1.2.2.1 i) = 0 := by
              intro h0
              have := (hG0 _ hx.1).mpr h0
              rw [hx.2] at this
              cases this
            rw [g2, g1, j6 i h1]
            unfold mk_rn
            rw [if_neg (by simp [hne])]
          · have g := f7 i (by show z.2.1.2.2.2.2.1 ≤ i; omega) hi
            have hk3 := k3 i hi
            have hx0 : X (rk_ z'.2.1.2.2.1 i) = false := by
              cases hx : X (rk_ z'.2.1.2.2.1 i) with
              | false => rfl
              | true =>
                obtain ⟨j, h3, h4⟩ := i5 _ hk3.1 hx
                have h3 : j < z.2.1.2.2.2.2.1 := h3
                have h5 : rk_ z'.2.1.2.2.1 j = rk_ z.2.1.2.2.1 j := (f6 j h3).1
                have := k4 j i (by show j < z'.2.1.2.2.2.2.1; omega) hi (h5.trans h4)
                omega
            have hin : rk_ z'.2.1.2.2.1 i ∈ mk_G hl mn of := by
              rcases f2 _ hk3.1 hk3.2 with w | w
              · have w : X (rk_ z'.2.1.2.2.1 i) = true := w
                rw [hx0] at w; cases w
              · exact s5 _ w
            have hr0 := (hG0 _ hk3.1).mp hx0
            have hr0 : rn (rk_ z'.2.1.2.2.1 i) = 0 := hr0
            have g : z'.2.1.2.2.2.1 i = nI (gr + 1) := g
            rw [g]
            unfold mk_rn
            rw [if_pos (by simp [hin, hr0])]
            rfl
        · rw [mc_codes hX', List.take_of_length_le (by omega)]
        · have hpX : (p, d) ∈ rv_sol (rx_codes X) r (rq_cnts.getD r 0) 0 rt_free := by
            obtain ⟨g1, g2, g3⟩ := (rw_mem _ _ _ _).mp hp
            refine (rw_mem _ _ _ _).mpr ⟨g1, fun c hc => ?_, g3⟩
            obtain ⟨j, h1, h2⟩ := hold c hc
            rw [← h2, show rk_ z'.2.1.2.2.1 j = rk_ z.2.1.2.2.1 j from (f6 j h1).1]
            exact rx_codes_mem.mpr (i3 j h1)
          have hin : rj_given r d ∈ mk_G hl mn of := by
            rw [mk_G_mem, j8]
            exact ⟨r, hr, ho, p, d, hpX, rfl⟩
          rcases s6 _ hin with w | w
          · exact f1 _ w
          · exact f3 hlg _ w
    · rw [if_neg ha]
      have hold : ∀ c, c ∈ NL → X c = true := by
        intro c hc
        cases hx : X c with
        | true => rfl
        | false =>
          exact absurd (List.any_eq_true.mpr ⟨c, s5 c hc, decide_eq_true ((hG0 c (s4 c hc)).mp hx)⟩) ha
      have hlg : z'.2.1.2.2.2.2.2 = false := by
        cases hl2 : z'.2.1.2.2.2.2.2 with
        | false => rfl
        | true =>
          obtain ⟨c, hc, hxc⟩ := (f4 hl2).resolve_left (by rw [j2]; simp)
          rw [f1 c (hold c hc)] at hxc
          cases hxc
      have hXX : ∀ c, c < 32768 → X' c = X c := by
        intro c hc
        rw [Bool.eq_iff_iff]
        constructor
        · intro hx
          rcases f2 c hc hx with w | w
          · exact w
          · exact hold c w
        · exact f1 c
      have hnn : z'.2.1.2.2.2.2.1 = z.2.1.2.2.2.2.1 := by
        have e1 : (rx_codes X').length = z'.2.1.2.2.2.2.1 := k6
        have e2 : (rx_codes X).length = z.2.1.2.2.2.2.1 := i6
        rw [← e1, ← e2, rx_codes_congr hXX]
      rw [rd_rounds_stop (fun w => by have := w.1; omega)]
      refine ⟨_, rfl, hlg, fun _ => ⟨X', rx_TR_congr s3 (fun c hc => (hXX c hc).symm), s1, fun c hc => by rw [hXX c hc]; exact j5 c hc, fun i hi => ?_, ?_, ?_⟩⟩
      · have h1 : i < z.2.1.2.2.2.2.1 := by rw [← hnn]; exact hi
        have g := f6 i h1
        have g1 : rk_ z'.2.1.2.2.1 i = rk_ z.2.1.2.2.1 i := g.1
        have g2 : z'.2.1.2.2.2.1 i = z.2.1.2.2.2.1 i := g.2
        rw [g2, g1]
        exact j6 i h1
      · rw [rd_last_pos (by omega), hnn]
        have g2 : z'.2.1.2.2.2.1 (z.2.1.2.2.2.2.1 - 1) = z.2.1.2.2.2.1 (z.2.1.2.2.2.2.1 - 1) := (f6 _ (by show _ < z.2.1.2.2.2.2.1; omega)).2
        rw [g2]
        exact j7 _ (by omega) (by omega)
      · show (List.range' 0 mn).map hl = _
        rw [j8, rx_codes_congr hXX]
/-- from what is said, both come to the same -/
theorem re_start {sc : Nat → Nat} : ∀ (n i : Nat) (st : sD), (rd_start sc n i st).2 = re_fold 0 ((List.range' i n).map sc) st.2
  | 0, _, _ => rfl
  | n + 1, i, st => by
    show (rd_start sc n (i + 1) (rd_add 0 (sc i) st)).2 = _
    rw [re_start n (i + 1), re_add_E, List.range'_succ, List.map_cons]
    rfl
theorem fr_derive {sc : Nat → Nat} {n : Nat} {x : Int32} {st : sD} {of sd : Nat → Bool} (hl : Nat → Nat) (hsc : ∀ j, j < n → sc j < 32768) (hn : n ≤ 120) (hsd : ∀ c, c < 32768 → (sd c = true ↔ ∃ j, j < n ∧ sc j = c)) (hof : ∀ r, r < 21 → rb_b x r = !of r) :
    (mc_ (mm_r0 sd) 32768 0 (hl, 0)).2 ≤ 400 ∧ ∃ N, mk_ of 1000 (0, mm_r0 sd, (mc_ (mm_r0 sd) 32768 0 (hl, 0)).1, (mc_ (mm_r0 sd) 32768 0 (hl, 0)).2, false) = some N ∧ fr_ (rd_derive sc n x st) N := by
  have hempty : ri_ (fun _ => false) ((rx_zero, st.2.2.1, st.2.2.2.1, 0, false) : sE) := ⟨rx_TR_zero, Nat.zero_le _, fun i hi => absurd hi (Nat.not_lt_zero _), fun i j hi => absurd hi (Nat.not_lt_zero _), (fun c _ h => by cases h), (by
    show ((List.range 32768).filter (fun _ => false)).length = 0
    rw [List.filter_eq_nil_iff.mpr (fun a _ h => by cases h)]
    rfl), fun h => by cases h⟩
  have hL : ∀ c, c ∈ (List.range' 0 n).map sc → c < 32768 := by
    intro c hc
    obtain ⟨j, hj, rfl⟩ := List.mem_map.mp hc
    obtain ⟨a, ha, ea⟩ := List.mem_range'.mp hj
    exact hsc j (by omega)
  obtain ⟨X, a1, f1, f2, f3, f4, f5, f6, f7⟩ := ri_fold (now := 0) ((List.range' 0 n).map sc) (fun _ => false) _ hL hempty
  have hst : (rd_start sc n 0 (st.1, rx_zero, st.2.2.1, st.2.2.2.1, 0, false)).2 = re_fold 0 ((List.range' 0 n).map sc) (rx_zero, st.2.2.1, st.2.2.2.1, 0, false) := re_start n 0 _
  rw [← hst] at a1 f3 f4 f5 f6 f7
  have hcnt := re_fold_n (now := 0) ((List.range' 0 n).map sc) ((rx_zero, st.2.2.1, st.2.2.2.1, 0, false) : sE)
  rw [← hst, List.length_map, List.length_range'] at hcnt
  have hcnt : (rd_start sc n 0 (st.1, rx_zero, st.2.2.1, st.2.2.2.1, 0, false)).2.2.2.2.1 ≤ 0 + n := hcnt
  unfold rd_derive
  generalize rd_start sc n 0 (st.1, rx_zero, st.2.2.1, st.2.2.2.1, 0, false) = s0 at a1 f3 f4 f5 f6 f7 hcnt ⊢
  have hlg : s0.2.2.2.2.2 = false := by
    cases h : s0.2.2.2.2.2 with
    | false => rfl
    | true =>
      have : 400 ≤ s0.2.2.2.2.1 := a1.2.2.2.2.2.2 h
      omega
  have hXs : ∀ c, c < 32768 → X c = sd c := by
    intro c hc
    rw [Bool.eq_iff_iff, hsd c hc]
    constructor
    · intro hx
      rcases f2 c hc hx with w | w
      · cases w
      · obtain ⟨j, hj, e⟩ := List.mem_map.mp w
        obtain ⟨a, ha, ea⟩ := List.mem_range'.mp hj
        exact ⟨j, by omega, e⟩
    · rintro ⟨j, hj, e⟩
      exact f3 hlg c (List.mem_map.mpr ⟨j, List.mem_range'.mpr ⟨j, by omega, by omega⟩, e⟩)
  have hX : ∀ c, c < 32768 → X c = decide (0 < mm_r0 sd c) := by
    intro c hc
    rw [hXs c hc]
    unfold mm_r0
    cases sd c <;> rfl
  have hlen : (rx_codes X).length = s0.2.2.2.2.1 := a1.2.2.2.2.2.1
  have hmn : (mc_ (mm_r0 sd) 32768 0 (hl, 0)).2 ≤ 400 := by
    rw [mc_len hX, hlen]
    omega
  refine ⟨hmn, ?_⟩
  have hls : (List.range' 0 (mc_ (mm_r0 sd) 32768 0 (hl, 0)).2).map (mc_ (mm_r0 sd) 32768 0 (hl, 0)).1 = rx_codes X := by
    rw [mc_codes hX, List.take_of_length_le (by omega)]
  have hrd : ∀ i, i < s0.2.2.2.2.1 → s0.2.2.2.1 i = nI (mm_r0 sd (rk_ s0.2.2.1 i) - 1) := by
    intro i hi
    have h7 : s0.2.2.2.1 i = nI 0 := f7 i (Nat.zero_le _) hi
    have h3 := a1.2.2.1 i hi
    have h3s := hXs _ h3.1
    rw [h3.2] at h3s
    rw [h7]
    unfold mm_r0
    rw [if_pos h3s.symm]
  by_cases hz : 0 < s0.2.2.2.2.1
  · refine fr_rounds hof 400 0 0 (rx_zero, s0, 0) X _ _ _ 1000 ⟨a1, hlg, ⟨fun _ => false, rx_TR_zero, fun c _ => ⟨fun h => (by cases h), fun ⟨j, hj, _⟩ => absurd hj (Nat.not_lt_zero _)⟩⟩, Nat.zero_le _, hX, hrd, fun i _ hi => f7 i (Nat.zero_le _) hi, hls, fun r hr ho p d hp hold => ?_⟩ hz (by omega) (by omega) (by omega)
    obtain ⟨g1, g2, g3⟩ := (rw_mem _ _ _ _).mp hp
    have hc := rq_cnts_le r (by omega)
    cases p with
    | nil => have g1 : 0 = rq_cnts.getD r 0 := g1; omega
    | cons c p =>
      obtain ⟨j, hj, -⟩ := hold c List.mem_cons_self
      exact absurd hj (Nat.not_lt_zero _)
  · have hz0 : s0.2.2.2.2.1 = 0 := by omega
    have hnil : rx_codes X = [] := List.length_eq_zero_iff.mp (by rw [hlen]; exact hz0)
    rw [rd_rounds_stop (fun w => hz w.1)]
    have hG : (mk_G (mc_ (mm_r0 sd) 32768 0 (hl, 0)).1 (mc_ (mm_r0 sd) 32768 0 (hl, 0)).2 of).any (fun c => decide (mm_r0 sd c = 0)) = false := by
      rw [Bool.eq_false_iff]
      intro ha
      obtain ⟨c, hc, -⟩ := List.any_eq_true.mp ha
      obtain ⟨r, hr, -, p, d, hp, -⟩ := mk_G_mem.mp hc
      rw [hls, hnil] at hp
      obtain ⟨g1, g2, g3⟩ := (rw_mem _ _ _ _).mp hp
      have hc := rq_cnts_le r (by omega)
      cases p with
      | nil => have g1 : 0 = rq_cnts.getD r 0 := g1; omega
      | cons c p => cases g2 c List.mem_cons_self
    refine ⟨(0, mm_r0 sd, (mc_ (mm_r0 sd) 32768 0 (hl, 0)).1, (mc_ (mm_r0 sd) 32768 0 (hl, 0)).2, false), by rw [show (1000 : Nat) = 999 + 1 from rfl, mk_s, if_neg (by rw [hG]; simp)], hlg, fun _ => ⟨X, rx_TR_congr rx_TR_zero (fun c hc => ?_), a1, hX, hrd, ?_, hls⟩⟩
    · cases hx : X c with
      | false => rfl
      | true =>
        have := rx_codes_mem.mpr ⟨hc, hx⟩
        rw [hnil] at this
        cases this
    · show rd_last s0 = nI 0
      unfold rd_last
      rw [if_neg hz]
