/-! class and reference: what is the same between calls; each call answers the same and keeps it -/
def rel_ (z : sX) (m : sM) : Prop := z.1.1 = m.1.2 ∧ (∀ c, c < 32768 → (m.1.1 c = true ↔ ∃ j, j < z.1.1 ∧ rk_ z.1.2 j = c)) ∧ (∀ i j, i < z.1.1 → j < z.1.1 → rk_ z.1.2 i = rk_ z.1.2 j → i = j) ∧ (∀ r, r < 21 → rb_b z.2.1 r = !m.2.1 r) ∧ z.2.2.1 = m.2.2.1 ∧ (z.2.2.1 = true → fr_ z.2.2.2.1 m.2.2.2 ∧ mN_ok m.2.2.2) ∧ xk_ z
theorem rel_mI {z : sX} {m : sM} (h : rel_ z m) : mI_ m := by
  obtain ⟨h1, h2, h3, h4, h5, h6, h7⟩ := h
  refine ⟨by rw [← h1]; exact h7.1, fun hk => (h6 (by rw [h5]; exact hk)).2, fun _ => ?_⟩
  obtain ⟨g1, N, g2, -⟩ := fr_derive (sc := rk_ z.1.2) (n := z.1.1) (x := z.2.1) (st := z.2.2.2.1.2.1) (of := m.2.1) (sd := m.1.1) m.2.2.2.2.2.1 h7.2.1 h7.1 h2 h4
  exact ⟨g1, N, g2⟩
theorem rel_I0 {z : sX} {m : sM} (h : rel_ z m) : ∀ c, c < 32768 → m.1.1 c = true → 1 ≤ m.1.2 := by
  intro c hc hm
  obtain ⟨j, hj, -⟩ := (h.2.1 c hc).mp hm
  rw [← h.1]
  omega
theorem rel_make {z : sX} {m : sM} (h : rel_ z m) : rel_ (xl_make z) (mm_make m) ∧ fr_ (xl_make z).2.2.2.1 (mm_N m) := by
  have hI := rel_mI h
  have hN := mm_N_ok hI
  have hx := xl_ok h.2.2.2.2.2.2
  obtain ⟨h1, h2, h3, h4, h5, h6, h7⟩ := h
  have hfr : fr_ (xl_make z).2.2.2.1 (mm_N m) := by
    unfold xl_make mm_N
    cases hd : z.2.2.1 with
    | true =>
      rw [if_pos rfl, if_pos (by rw [← h5]; exact hd)]
      exact (h6 hd).1
    | false =>
      rw [if_neg (by simp), if_neg (by rw [← h5, hd]; simp)]
      obtain ⟨g1, N, g2, g3⟩ := fr_derive (sc := rk_ z.1.2) (n := z.1.1) (x := z.2.1) (st := z.2.2.2.1.2.1) (of := m.2.1) (sd := m.1.1) m.2.2.2.2.2.1 h7.2.1 h7.1 h2 h4
      have g2 : mk_ m.2.1 1000 (mm_start m) = some N := g2
      rw [g2]
      exact g3
  have e1 : (xl_make z).1 = z.1 := by unfold xl_make; split <;> rfl
  have e2 : (xl_make z).2.1 = z.2.1 := by unfold xl_make; split <;> rfl
  have e3 : (xl_make z).2.2.1 = true := by
    unfold xl_make
    split
    · assumption
    · rfl
  refine ⟨⟨?_, ?_, ?_, ?_, ?_, ?_, hx⟩, hfr⟩
  · rw [e1]; exact h1
  · rw [e1]; exact h2
  · rw [e1]; exact h3
  · rw [e2]; exact h4
  · rw [e3]; rfl
  · intro _; exact ⟨hfr, hN⟩
theorem rel_sk {z : sX} {m : sM} {st : sS} {w : Int32} (h : rel_ z m) : rel_ (xl_sk z st w) m := h
theorem xl_find_none {f : Nat → Int32} {c : Int32} : ∀ {n i : Nat}, xl_find f c n i = none → ∀ k, i ≤ k → k < i + n → ¬ f k = c
  | 0, i, _, k, h1, h2 => by omega
  | n + 1, i, h, k, h1, h2 => by
    unfold xl_find at h
    split at h
    · cases h
    · rename_i hne
      by_cases e : k = i
      · rw [e]; exact hne
      · exact xl_find_none h k (by omega) (by omega)
theorem rk_iff {f : Nat → Int32} {j c : Nat} (hc : c < 4294967296) : f j = nI c ↔ rk_ f j = c := by
  constructor
  · intro h
    unfold rk_
    rw [h]
    exact rb_tn hc
  · intro h
    rw [← rk_nI f j, h]
theorem xl_c3_lt {s p o : Int32} (h : ¬ rc_tm3 s p o = 0) : xl_c3 s p o < 32768 := by
  obtain ⟨a, b, d, ha, hb, hd, rfl, rfl, rfl⟩ := rc_tm3_of h
  rw [xl_c3E ha hb hd]
  exact rx_code_lt ha hb hd
theorem eq_say {z : sX} {m : sM} {s p o : Int32} (h : rel_ z m) : (xq_say z s p o).1 = (ma_say m s p o).1 ∧ rel_ (xq_say z s p o).2 (ma_say m s p o).2 := by
  have hr := h
  obtain ⟨h1, h2, h3, h4, h5, h6, h7⟩ := h
  unfold xq_say ma_say
  by_cases ht : rc_tm3 s p o = 0
  · rw [if_pos ht, if_pos ht]
    exact ⟨rfl, hr⟩
  · rw [if_neg ht, if_neg ht]
    have hc := xl_c3_lt ht
    generalize xl_c3 s p o = c at hc ⊢
    cases hf : xl_find z.1.2 (nI c) z.1.1 0 with
    | some k =>
      obtain ⟨g1, g2, g3⟩ := xl_find_lt hf
      have hm : m.1.1 c = true := (h2 c hc).mpr ⟨k, by omega, (rk_iff (by omega)).mp g3⟩
      rw [if_pos hm]
      exact ⟨rfl, hr⟩
    | none =>
      have hno := xl_find_none hf
      have hm : ¬ m.1.1 c = true := fun w => by
        obtain ⟨j, hj, e⟩ := (h2 c hc).mp w
        exact hno j (by omega) (by omega) ((rk_iff (by omega)).mpr e)
      rw [if_neg hm]
      show (if z.1.1 < 120 then ((nI 1, ((z.1.1 + 1, upd z.1.2 z.1.1 (nI c)), z.2.1, false, z.2.2.2)) : Int32 × sX) else (-3, z)).1 = _ ∧ rel_ (if z.1.1 < 120 then ((nI 1, ((z.1.1 + 1, upd z.1.2 z.1.1 (nI c)), z.2.1, false, z.2.2.2)) : Int32 × sX) else (-3, z)).2 _
      have hle := h7.1
      by_cases hn : z.1.1 < 120
      · rw [if_pos hn, if_neg (by rw [← h1]; omega)]
        have hk : ∀ j, rk_ (upd z.1.2 z.1.1 (nI c)) j = if j = z.1.1 then c else rk_ z.1.2 j := fun j => rk_upd (by omega)
        have hne : ∀ j, j < z.1.1 → ¬ rk_ z.1.2 j = c := fun j hj e => hno j (by omega) (by omega) ((rk_iff (by omega)).mpr e)
        refine ⟨rfl, by show z.1.1 + 1 = m.1.2 + 1; rw [h1], fun d hd => ?_, fun i j hi hj => ?_, h4, rfl, (fun w => by cases w), by show z.1.1 + 1 ≤ 120; omega, fun j hj => ?_, h7.2.2⟩
        · show ua m.1.1 c true d = true ↔ ∃ j, j < z.1.1 + 1 ∧ rk_ (upd z.1.2 z.1.1 (nI c)) j = d
          by_cases e : d = c
          · rw [e, ua_self]
            refine ⟨fun _ => ⟨z.1.1, by omega, by rw [hk, if_pos rfl]⟩, fun _ => rfl⟩
          · rw [ua_ne _ _ e, h2 d hd]
            constructor
            · rintro ⟨j, hj, e2⟩
              exact ⟨j, by omega, by rw [hk, if_neg (by omega)]; exact e2⟩
            · rintro ⟨j, hj, e2⟩
              rw [hk] at e2
              split at e2
              · exact absurd e2.symm e
              · exact ⟨j, by omega, e2⟩
        · have hi : i < z.1.1 + 1 := hi
          have hj : j < z.1.1 + 1 := hj
          show rk_ (upd z.1.2 z.1.1 (nI c)) i = rk_ (upd z.1.2 z.1.1 (nI c)) j → i = j
          rw [hk, hk]
          intro e
          split at e
          · split at e
            · omega
            · exact absurd e.symm (hne j (by omega))
          · split at e
            · exact absurd e (hne i (by omega))
            · exact h3 i j (by omega) (by omega) e
        · have hj : j < z.1.1 + 1 := hj
          show rk_ (upd z.1.2 z.1.1 (nI c)) j < 32768
          rw [hk]
          split
          · exact hc
          · exact h7.2.1 j (by omega)
      · rw [if_neg hn, if_pos (by rw [← h1]; omega)]
        exact ⟨rfl, hr⟩
theorem eq_unsay {z : sX} {m : sM} {s p o : Int32} (h : rel_ z m) : (xq_unsay z s p o).1 = (ma_unsay m s p o).1 ∧ rel_ (xq_unsay z s p o).2 (ma_unsay m s p o).2 := by
  have hr := h
  obtain ⟨h1, h2, h3, h4, h5, h6, h7⟩ := h
  unfold xq_unsay ma_unsay
  by_cases ht : rc_tm3 s p o = 0
  · rw [if_pos ht, if_pos ht]
    exact ⟨rfl, hr⟩
  · rw [if_neg ht, if_neg ht]
    have hc := xl_c3_lt ht
    generalize xl_c3 s p o = c at hc ⊢
    cases hf : xl_find z.1.2 (nI c) z.1.1 0 with
    | some k =>
      obtain ⟨g1, g2, g3⟩ := xl_find_lt hf
      have hkc := (rk_iff (by omega)).mp g3
      have hm : m.1.1 c = true := (h2 c hc).mpr ⟨k, by omega, hkc⟩
      rw [if_pos hm]
      have hk : ∀ j, rk_ (upd z.1.2 k (z.1.2 (z.1.1 - 1))) j = if j = k then rk_ z.1.2 (z.1.1 - 1) else rk_ z.1.2 j := by
        intro j
        unfold rk_ upd
        split <;> rfl
      have hle := h7.1
      refine ⟨rfl, by show z.1.1 - 1 = m.1.2 - 1; rw [h1], fun d hd => ?_, fun i j hi hj => ?_, h4, rfl, (fun w => by cases w), by show z.1.1 - 1 ≤ 120; omega, fun j hj => ?_, h7.2.2⟩
      · show ua m.1.1 c false d = true ↔ ∃ j, j < z.1.1 - 1 ∧ rk_ (upd z.1.2 k (z.1.2 (z.1.1 - 1))) j = d
        by_cases e : d = c
        · rw [e, ua_self]
          constructor
          · intro w; cases w
          · rintro ⟨j, hj, e2⟩
            rw [hk] at e2
            split at e2
            · have := h3 (z.1.1 - 1) k (by omega) (by omega) (e2.trans hkc.symm)
              omega
            · have := h3 j k (by omega) (by omega) (e2.trans hkc.symm)
              omega
        · rw [ua_ne _ _ e, h2 d hd]
          constructor
          · rintro ⟨j, hj, e2⟩
            by_cases e3 : j = z.1.1 - 1
            · by_cases e4 : k = z.1.1 - 1
              · exfalso
                apply e
                rw [← e2, e3, ← e4]
                exact hkc
              · refine ⟨k, by omega, ?_⟩
                rw [hk, if_pos rfl, ← e3]
                exact e2
            · refine ⟨j, by omega, ?_⟩
              rw [hk, if_neg (fun e5 => e (by rw [← e2, e5]; exact hkc))]
              exact e2
          · rintro ⟨j, hj, e2⟩
            rw [hk] at e2
            split at e2
            · exact ⟨z.1.1 - 1, by omega, e2⟩
            · exact ⟨j, by omega, e2⟩
      · have hi : i < z.1.1 - 1 := hi
        have hj : j < z.1.1 - 1 := hj
        show rk_ (upd z.1.2 k (z.1.2 (z.1.1 - 1))) i = rk_ (upd z.1.2 k (z.1.2 (z.1.1 - 1))) j → i = j
        rw [hk, hk]
        intro e
        split at e
        · split at e
          · omega
          · have := h3 _ _ (by omega) (by omega) e
            omega
        · split at e
          · have := h3 _ _ (by omega) (by omega) e
            omega
          · exact h3 i j (by omega) (by omega) e
      · have hj : j < z.1.1 - 1 := hj
        show rk_ (upd z.1.2 k (z.1.2 (z.1.1 - 1))) j < 32768
        rw [hk]
        split
        · exact h7.2.1 _ (by omega)
        · exact h7.2.1 j (by omega)
    | none =>
      have hno := xl_find_none hf
      have hm : ¬ m.1.1 c = true := fun w => by
        obtain ⟨j, hj, e⟩ := (h2 c hc).mp w
        exact hno j (by omega) (by omega) ((rk_iff (by omega)).mpr e)
      rw [if_neg hm]
      exact ⟨rfl, hr⟩
theorem eq_rule {z : sX} {m : sM} {r : Int32} {on : Bool} (h : rel_ z m) : (xq_rule z r on).1 = (ma_rule m r on).1 ∧ rel_ (xq_rule z r on).2 (ma_rule m r on).2 := by
  have hr := h
  obtain ⟨h1, h2, h3, h4, h5, h6, h7⟩ := h
  unfold xq_rule ma_rule
  by_cases h0 : r < 0
  · rw [if_pos h0, if_pos h0]
    exact ⟨rfl, hr⟩
  · rw [if_neg h0, if_neg h0]
    by_cases h21 : r < nI 21
    · rw [if_pos h21, if_pos h21]
      obtain ⟨a, ha, rfl⟩ := nI_of h0
      have ha21 : a < 21 := (nI_ltI ha (by decide)).mp h21
      rw [rb_tn (by omega), h4 a ha21]
      by_cases ho : m.2.1 a = on
      · rw [if_neg (by rw [ho]; cases on <;> simp), if_pos ho]
        refine ⟨rfl, h1, h2, h3, fun j hj => ?_, rfl, (fun w => by cases w), h7⟩
        show rb_b (z.2.1 ^^^ (nI 1) <<< (nI a &&& 31)) j = !(ua m.2.1 a (!on) j)
        rw [ry_xor, rw_one0 (by omega) (by omega), h4 j hj]
        by_cases e : j = a
        · rw [e, ua_self, ho]
          cases on <;> simp
        · rw [ua_ne _ _ e]
          simp [e]
      · rw [if_pos (by revert ho; cases m.2.1 a <;> cases on <;> simp), if_neg ho]
        exact ⟨rfl, hr⟩
    · rw [if_neg h21, if_neg h21]
      exact ⟨rfl, hr⟩
theorem fr_mn {D : sR} {N : sN} {X : Nat → Bool} (h1 : ri_ X D.2.1.2) (h2 : mm_hs N = rx_codes X) : N.2.2.2.1 = D.2.1.2.2.2.2.1 := by
  have e := congrArg List.length h2
  unfold mm_hs at e
  rw [List.length_map, List.length_range', h1.2.2.2.2.2.1] at e
  exact e
theorem eq_run {z : sX} {m : sM} (h : rel_ z m) : (xq_run z).1 = (ma_run m).1 ∧ rel_ (xq_run z).2 (ma_run m).2 := by
  obtain ⟨hr, hf, hg⟩ := rel_make h
  unfold xq_run ma_run xl_lg mm_lg
  rw [hf]
  cases hl : (mm_N m).2.2.2.2 with
  | true => exact ⟨rfl, hr⟩
  | false =>
    obtain ⟨X, g1, g2, g3, g4, g5, g6⟩ := hg hl
    exact ⟨g5, hr⟩
theorem eq_size {z : sX} {m : sM} (h : rel_ z m) : (xq_size z).1 = (ma_size m).1 ∧ rel_ (xq_size z).2 (ma_size m).2 := by
  obtain ⟨hr, hf, hg⟩ := rel_make h
  unfold xq_size ma_size xl_lg mm_lg
  rw [hf]
  cases hl : (mm_N m).2.2.2.2 with
  | true => exact ⟨rfl, hr⟩
  | false =>
    obtain ⟨X, g1, g2, g3, g4, g5, g6⟩ := hg hl
    refine ⟨?_, hr⟩
    show nI (xl_make z).2.2.2.1.2.1.2.2.2.2.1 = nI (mm_N m).2.2.2.1
    rw [fr_mn g2 g6]
theorem rc_fr_all {f : Nat → Int32} : ∀ (n a : Nat), rc_fr f n a = (List.range' a n).flatMap (fun i => (rb_els (f i)).map (fun o => i * 32 + o))
  | 0, _ => rfl
  | n + 1, a => by
    rw [List.range'_succ, List.flatMap_cons, ← rc_fr_all n (a + 1)]
    rfl
theorem rc_fr_gen {X : Nat → Bool} {y : sT} (h : rx_TR X y.1 y.2.1 y.2.2.1 y.2.2.2) (n : Nat) (hn : n ≤ 1024) : rc_fr y.1 n 0 = (List.range (n * 32)).filter X := by
  rw [rc_fr_all, ry_range 32 n, rw_filter_flat, show List.range n = List.range' 0 n from List.range_eq_range']
  apply ry_congr
  intro i hi
  obtain ⟨b, hb, eb⟩ := List.mem_range'.mp hi
  rw [List.filter_map]
  congr 1
  unfold rb_els
  apply List.filter_congr
  intro o ho
  have ho := List.mem_range.mp ho
  have := rx_TR_has (c := i * 32 + o) (by omega) h
  rw [show (i * 32 + o) / 32 = i by omega, show (i * 32 + o) % 32 = o by omega] at this
  exact this
theorem rc_fr_codes {X : Nat → Bool} {y : sT} (h : rx_TR X y.1 y.2.1 y.2.2.1 y.2.2.2) : rc_fr y.1 1024 0 = rx_codes X := by
  have e := rc_fr_gen h 1024 (Nat.le_refl _)
  rw [show 1024 * 32 = 32768 from rfl] at e
  exact e
theorem eq_triple {z : sX} {m : sM} {i : Int32} (h : rel_ z m) : (xq_triple z i).1 = (ma_triple m i).1 ∧ rel_ (xq_triple z i).2 (ma_triple m i).2 := by
  obtain ⟨hr, hf, hg⟩ := rel_make h
  obtain ⟨Lc, hLc⟩ : ∃ L, L = rc_fr (xl_make z).2.2.2.1.1.1 1024 0 := ⟨_, rfl⟩
  unfold xq_triple ma_triple xl_lg mm_lg
  rw [hf, ← hLc]
  cases hl : (mm_N m).2.2.2.2 with
  | true =>
    rw [if_pos rfl, if_pos rfl]
    exact ⟨rfl, hr⟩
  | false =>
    obtain ⟨X, g1, g2, g3, g4, g5, g6⟩ := hg hl
    have hmn := fr_mn g2 g6
    have hn4 : (xl_make z).2.2.2.1.2.1.2.2.2.2.1 ≤ 400 := g2.2.1
    rw [if_neg Bool.false_ne_true, if_neg Bool.false_ne_true]
    by_cases h0 : i < 0
    · rw [if_pos h0, if_pos h0]
      exact ⟨rfl, hr⟩
    · rw [if_neg h0, if_neg h0]
      obtain ⟨a, ha, rfl⟩ := nI_of h0
      rw [rb_tn (by omega), hmn]
      by_cases hlt : a < (xl_make z).2.2.2.1.2.1.2.2.2.2.1
      · rw [if_pos ((nI_ltI ha (by omega)).mpr hlt), if_neg (fun w => by have := (nI_leI (by omega) ha).mp w; omega)]
        refine ⟨?_, hr⟩
        show rc_no (Lc[a]?) = nI ((mm_N m).2.2.1 a)
        rw [hLc.trans (rc_fr_codes g1), ← g6]
        unfold mm_hs
        rw [List.getElem?_map, List.getElem?_range' (by omega)]
        show nI ((mm_N m).2.2.1 (0 + 1 * a)) = _
        rw [show 0 + 1 * a = a by omega]
      · rw [if_neg (fun w => hlt ((nI_ltI ha (by omega)).mp w)), if_pos ((nI_leI (by omega) ha).mpr (by omega))]
        exact ⟨rfl, hr⟩
theorem rd_find_at {f g : Nat → Int32} {c v : Int32} : ∀ (n i : Nat), (∃ k, i ≤ k ∧ k < i + n ∧ f k = c) → (∀ k, i ≤ k → k < i + n → f k = c → g k = v) → rd_find f g c n i = v
  | 0, i, ⟨k, h1, h2, _⟩, _ => by omega
  | n + 1, i, ⟨k, h1, h2, h3⟩, hv => by
    show (if f i = c then g i else rd_find f g c n (i + 1)) = v
    by_cases e : f i = c
    · rw [if_pos e]
      exact hv i (by omega) (by omega) e
    · rw [if_neg e]
      refine rd_find_at n (i + 1) ⟨k, ?_, by omega, h3⟩ (fun k a b => hv k (by omega) (by omega))
      by_cases e2 : k = i
      · rw [e2] at h3; exact absurd h3 e
      · omega
theorem rd_find_not {f g : Nat → Int32} {c : Int32} : ∀ (n i : Nat), (∀ k, i ≤ k → k < i + n → ¬ f k = c) → rd_find f g c n i = -2
  | 0, _, _ => rfl
  | n + 1, i, h => by
    show (if f i = c then g i else rd_find f g c n (i + 1)) = -2
    rw [if_neg (h i (by omega) (by omega))]
    exact rd_find_not n (i + 1) (fun k a b => h k (by omega) (by omega))
theorem eq_round {z : sX} {m : sM} {s p o : Int32} (h : rel_ z m) : (xq_round z s p o).1 = (ma_round m s p o).1 ∧ rel_ (xq_round z s p o).2 (ma_round m s p o).2 := by
  obtain ⟨hr, hf, hg⟩ := rel_make h
  unfold xq_round ma_round xl_lg mm_lg
  by_cases ht : rc_tm3 s p o = 0
  · rw [if_pos ht, if_pos ht]
    exact ⟨rfl, h⟩
  · rw [if_neg ht, if_neg ht, hf]
    cases hl : (mm_N m).2.2.2.2 with
    | true => exact ⟨rfl, hr⟩
    | false =>
      obtain ⟨X, g1, g2, g3, g4, g5, g6⟩ := hg hl
      rw [if_neg Bool.false_ne_true, if_neg Bool.false_ne_true]
      have hc := xl_c3_lt ht
      generalize xl_c3 s p o = c at hc ⊢
      have hxc := g3 c hc
      by_cases h0 : (mm_N m).2.1 c = 0
      · rw [if_pos h0]
        refine ⟨rd_find_not _ _ (fun k _ hk e => ?_), hr⟩
        have e := (rk_iff (by omega)).mp e
        have := (g2.2.2.1 k (by show k < (xl_make z).2.2.2.1.2.1.2.2.2.2.1; omega)).2
        have this : X (rk_ (xl_make z).2.2.2.1.2.1.2.2.1 k) = true := this
        rw [e, hxc, h0] at this
        cases this
      · rw [if_neg h0]
        refine ⟨?_, hr⟩
        obtain ⟨k, hk1, hk2⟩ := g2.2.2.2.2.1 c hc (by rw [hxc]; exact decide_eq_true (by omega))
        refine rd_find_at _ _ ⟨k, Nat.zero_le _, by rw [Nat.zero_add]; exact hk1, (rk_iff (by omega)).mpr hk2⟩ (fun j _ hj e => ?_)
        have e := (rk_iff (by omega)).mp e
        rw [g4 j (by omega), e]
theorem mg_stay {rn : Nat → Nat} {a : Nat} : ∀ (n t l : Nat), (∀ j, t ≤ j → j < t + n → 0 < rn (rx_code a 6 j) → l ≤ j) → mg_ rn a n t l = l
  | 0, _, _, _ => rfl
  | n + 1, t, l, h => by
    show mg_ rn a n (t + 1) (if t < l ∧ 0 < rn (rx_code a 6 t) then t else l) = l
    rw [if_neg (fun w => by have := h t (by omega) (by omega) w.2; omega)]
    exact mg_stay n (t + 1) l (fun j h1 h2 h3 => h j (by omega) (by omega) h3)
theorem mg_hit {rn : Nat → Nat} {a i : Nat} : ∀ (n t l : Nat), t ≤ i → i < t + n → i < l → 0 < rn (rx_code a 6 i) → (∀ j, t ≤ j → j < i → ¬ 0 < rn (rx_code a 6 j)) → mg_ rn a n t l = i
  | 0, t, l, h1, h2, _, _, _ => by omega
  | n + 1, t, l, h1, h2, h3, h4, h5 => by
    show mg_ rn a n (t + 1) (if t < l ∧ 0 < rn (rx_code a 6 t) then t else l) = i
    by_cases e : t = i
    · rw [e, if_pos ⟨h3, h4⟩]
      exact mg_stay n (i + 1) i (fun j h1 _ _ => by omega)
    · rw [if_neg (fun w => h5 t (by omega) (by omega) w.2)]
      exact mg_hit n (t + 1) l (by omega) (by omega) h3 h4 (fun j g1 g2 => h5 j (by omega) g2)
theorem eq_group {z : sX} {m : sM} {t : Int32} (h : rel_ z m) : (xq_group z t).1 = (ma_group m t).1 ∧ rel_ (xq_group z t).2 (ma_group m t).2 := by
  obtain ⟨hr, hf, hg⟩ := rel_make h
  unfold xq_group ma_group xl_lg mm_lg
  by_cases ht : rc_tm t = 0
  · rw [if_pos ht, if_pos ht]
    exact ⟨rfl, h⟩
  · rw [if_neg ht, if_neg ht, hf]
    cases hl : (mm_N m).2.2.2.2 with
    | true => exact ⟨rfl, hr⟩
    | false =>
      obtain ⟨X, g1, g2, g3, g4, g5, g6⟩ := hg hl
      rw [if_neg Bool.false_ne_true, if_neg Bool.false_ne_true]
      obtain ⟨a, ha, rfl⟩ := rc_tm_of ht
      rw [rb_tn (by omega)]
      refine ⟨?_, hr⟩
      show xl_min (nI a) (nI (rb_least ((xl_make z).2.2.2.1.1.1 (a * 32 + 6)))) = nI (mg_ (mm_N m).2.1 a 32 0 a)
      have hS : ∀ o, o < 32 → (rb_b ((xl_make z).2.2.2.1.1.1 (a * 32 + 6)) o = true ↔ 0 < (mm_N m).2.1 (rx_code a 6 o)) := by
        intro o ho
        rw [g1.1 a 6 o ha (by omega) ho, g3 _ (rx_code_lt ha (by omega) ho), decide_eq_true_eq]
      unfold xl_min
      cases he : rb_els ((xl_make z).2.2.2.1.1.1 (a * 32 + 6)) with
      | nil =>
        have e1 : rb_least ((xl_make z).2.2.2.1.1.1 (a * 32 + 6)) = 32 := by unfold rb_least; rw [he]
        rw [e1, if_neg (nI_nlt (by omega) (by decide)), mg_stay]
        intro j _ hj h0
        have := rb_mem.mpr ⟨by omega, (hS j (by omega)).mpr h0⟩
        rw [he] at this
        cases this
      | cons i l =>
        have e1 : rb_least ((xl_make z).2.2.2.1.1.1 (a * 32 + 6)) = i := by unfold rb_least; rw [he]
        obtain ⟨k1, k2, k3, k4⟩ := rb_head he
        rw [e1]
        by_cases hlt : i < a
        · rw [if_pos (nI_lt hlt (by omega)), mg_hit (i := i) 32 0 a (by omega) (by omega) hlt ((hS i k1).mp k2)]
          intro j _ hj w
          have := (hS j (by omega)).mpr w
          rw [k3 j hj] at this
          cases this
        · rw [if_neg (nI_nlt (by omega) (by omega)), mg_stay]
          intro j _ hj w
          apply Nat.le_of_not_lt
          intro hja
          have := (hS j (by omega)).mpr w
          rw [k3 j (by omega)] at this
          cases this
theorem eq_ways {z : sX} {m : sM} {s p o : Int32} (h : rel_ z m) : (xq_ways z s p o).1 = (ma_ways m s p o).1 ∧ rel_ (xq_ways z s p o).2 (ma_ways m s p o).2 := by
  obtain ⟨hr, hf, hg⟩ := rel_make h
  unfold xq_ways ma_ways xl_lg mm_lg
  by_cases ht : rc_tm3 s p o = 0
  · rw [if_pos ht, if_pos ht]
    exact ⟨rfl, h⟩
  · rw [if_neg ht, if_neg ht, hf]
    cases hl : (mm_N m).2.2.2.2 with
    | true => exact ⟨rfl, hr⟩
    | false =>
      obtain ⟨X, g1, g2, g3, g4, g5, g6⟩ := hg hl
      rw [if_neg Bool.false_ne_true, if_neg Bool.false_ne_true]
      have hc := xl_c3_lt ht
      refine ⟨?_, rel_sk hr⟩
      show (xl_W (xl_make z) (xl_c3 s p o) (-1)).1.2.1 = nI (mw_ (mm_hs (mm_N m)) m.2.1 (xl_c3 s p o)).length
      rw [g6]
      have hlen : (rx_codes X).length ≤ 400 := by rw [g2.2.2.2.2.2.1]; exact g2.2.1
      exact rk_count (Nat.le_trans (mw_len hc hlen) (by decide)) rfl (rk_way g1 hr.2.2.2.1 hc (xl_make z).2.2.2.2.1)
theorem eq_clashes {z : sX} {m : sM} (h : rel_ z m) : (xq_clashes z).1 = (ma_clashes m).1 ∧ rel_ (xq_clashes z).2 (ma_clashes m).2 := by
  obtain ⟨hr, hf, hg⟩ := rel_make h
  unfold xq_clashes ma_clashes xl_lg mm_lg
  rw [hf]
  cases hl : (mm_N m).2.2.2.2 with
  | true => exact ⟨rfl, hr⟩
  | false =>
    obtain ⟨X, g1, g2, g3, g4, g5, g6⟩ := hg hl
    rw [if_neg Bool.false_ne_true, if_neg Bool.false_ne_true]
    refine ⟨?_, rel_sk hr⟩
    show (xl_K (xl_make z) (-1)).1.2.1 = nI (mx_ (mm_hs (mm_N m))).length
    rw [g6]
    have hlen : (rx_codes X).length ≤ 400 := by rw [g2.2.2.2.2.2.1]; exact g2.2.1
    exact rk_count (Nat.le_trans (mx_len hlen) (by decide)) rfl (rk_clash g1 (xl_make z).2.2.2.2.1)
/-- the premise of what was found -/
theorem rk_pr {st : sS} {q : Nat × List Nat} {w : Int32} (hq : q.1 < 24) (hlen : q.2.length = rq_cnts.getD q.1 0) (h1 : st.2.2 = nI q.1) (h2 : ∀ t, t < q.2.length → st.1 t = nI (q.2.getD t 0)) (hw : 0 < w.toBitVec.toNat) : xl_pr st w = mm_pr q w.toBitVec.toNat := by
  unfold xl_pr mm_pr
  rw [h1, rb_tn (by omega)]
  split
  · rfl
  · exact h2 _ (by omega)
theorem eq_way {z : sX} {m : sM} {s p o i w : Int32} (h : rel_ z m) : (xq_way z s p o i w).1 = (ma_way m s p o i w).1 ∧ rel_ (xq_way z s p o i w).2 (ma_way m s p o i w).2 := by
  obtain ⟨hr, hf, hg⟩ := rel_make h
  unfold xq_way ma_way xl_lg mm_lg
  by_cases ht : rc_tm3 s p o = 0
  · rw [if_pos ht, if_pos ht]
    exact ⟨rfl, h⟩
  · rw [if_neg ht, if_neg ht]
    by_cases hw0 : w < 0
    · rw [if_pos hw0, if_pos hw0]
      exact ⟨rfl, h⟩
    · rw [if_neg hw0, if_neg hw0]
      by_cases hw4 : w ≤ nI 4
      · rw [if_pos hw4, if_pos hw4, hf]
        cases hl : (mm_N m).2.2.2.2 with
        | true => exact ⟨rfl, hr⟩
        | false =>
          obtain ⟨X, g1, g2, g3, g4, g5, g6⟩ := hg hl
          rw [if_neg Bool.false_ne_true, if_neg Bool.false_ne_true]
          have hc := xl_c3_lt ht
          by_cases h0 : i < 0
          · rw [if_pos h0, if_pos h0]
            exact ⟨rfl, hr⟩
          · rw [if_neg h0, if_neg h0]
            obtain ⟨a, ha, rfl⟩ := nI_of h0
            rw [rb_tn (by omega), g6]
            have hw := rk_way (wt := nI a) g1 hr.2.2.2.1 hc (xl_make z).2.2.2.2.1
            have hw : rk_sk (nI a) 0 (mw_ (rx_codes X) m.2.1 (xl_c3 s p o)) ((xl_make z).2.2.2.2.1.1, nI 0, (xl_make z).2.2.2.2.1.2.2) (xl_W (xl_make z) (xl_c3 s p o) (nI a)) := hw
            rcases rk_find ha rfl hw with ⟨k1, k2⟩ | ⟨k1, q, k2, k3, k4⟩
            · rw [if_neg (by rw [k1]; simp), k2]
              exact ⟨rfl, rel_sk hr⟩
            · rw [if_pos k1, k2]
              refine ⟨?_, rel_sk hr⟩
              obtain ⟨q1, q2⟩ := mw_mem rx_codes_lt (List.mem_of_getElem? k2)
              show (if w = 0 then (xl_W (xl_make z) (xl_c3 s p o) (nI a)).1.2.2 else xl_pr (xl_W (xl_make z) (xl_c3 s p o) (nI a)).1 w) = if w = 0 then nI (q.1 - 0) else mm_pr q w.toBitVec.toNat
              by_cases hw : w = 0
              · rw [if_pos hw, if_pos hw]
                exact k3
              · rw [if_neg hw, if_neg hw]
                refine rk_pr (by omega) q2 k3 k4 ?_
                apply Nat.pos_of_ne_zero
                intro e
                apply hw
                rw [rb_of w, e]
                rfl
      · rw [if_neg hw4, if_neg hw4]
        exact ⟨rfl, h⟩
theorem eq_clash {z : sX} {m : sM} {i w : Int32} (h : rel_ z m) : (xq_clash z i w).1 = (ma_clash m i w).1 ∧ rel_ (xq_clash z i w).2 (ma_clash m i w).2 := by
  obtain ⟨hr, hf, hg⟩ := rel_make h
  unfold xq_clash ma_clash xl_lg mm_lg
  by_cases hw0 : w < 0
  · rw [if_pos hw0, if_pos hw0]
    exact ⟨rfl, h⟩
  · rw [if_neg hw0, if_neg hw0]
    by_cases hw4 : w ≤ nI 3
    · rw [if_pos hw4, if_pos hw4, hf]
      cases hl : (mm_N m).2.2.2.2 with
      | true => exact ⟨rfl, hr⟩
      | false =>
        obtain ⟨X, g1, g2, g3, g4, g5, g6⟩ := hg hl
        rw [if_neg Bool.false_ne_true, if_neg Bool.false_ne_true]
        by_cases h0 : i < 0
        · rw [if_pos h0, if_pos h0]
          exact ⟨rfl, hr⟩
        · rw [if_neg h0, if_neg h0]
          obtain ⟨a, ha, rfl⟩ := nI_of h0
          rw [rb_tn (by omega), g6]
          have hw : rk_sk (nI a) 0 (mx_ (rx_codes X)) ((xl_make z).2.2.2.2.1.1, nI 0, (xl_make z).2.2.2.2.1.2.2) (xl_K (xl_make z) (nI a)) := rk_clash (wt := nI a) g1 (xl_make z).2.2.2.2.1
          rcases rk_find ha rfl hw with ⟨k1, k2⟩ | ⟨k1, q, k2, k3, k4⟩
          · rw [if_neg (by rw [k1]; simp), k2]
            exact ⟨rfl, rel_sk hr⟩
          · rw [if_pos k1, k2]
            refine ⟨?_, rel_sk hr⟩
            obtain ⟨q0, q1, q2⟩ := mx_mem rx_codes_lt (List.mem_of_getElem? k2)
            show (if w = 0 then (xl_K (xl_make z) (nI a)).1.2.2 - nI 21 else xl_pr (xl_K (xl_make z) (nI a)).1 w) = if w = 0 then nI (q.1 - 21) else mm_pr q w.toBitVec.toNat
            by_cases hw : w = 0
            · rw [if_pos hw, if_pos hw, k3]
              exact pk_sub q0
            · rw [if_neg hw, if_neg hw]
              refine rk_pr (by omega) q2 k3 k4 ?_
              apply Nat.pos_of_ne_zero
              intro e
              apply hw
              rw [rb_of w, e]
              rfl
    · rw [if_neg hw4, if_neg hw4]
      exact ⟨rfl, h⟩
theorem eq_said {z : sX} {m : sM} (h : rel_ z m) : nI z.1.1 = nI m.1.2 := by rw [h.1]
