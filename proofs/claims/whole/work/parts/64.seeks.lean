/-! what a seeking finds: the ways and clashes of the lists, in their order -/
def rk_sk (wt : Int32) (k : Nat) (L : List (Nat × List Nat)) (st : sS) (res : sS × Bool) : Prop := (∀ j, j < k → res.1.1 j = st.1 j) ∧
  ((res.2 = false ∧ res.1.2.1 = st.2.1 + nI L.length ∧ ∀ j, j < L.length → ¬ st.2.1 + nI j = wt) ∨
   (res.2 = true ∧ ∃ (j : Nat) (q : Nat × List Nat), L[j]? = some q ∧ st.2.1 + nI j = wt ∧ (∀ i, i < j → ¬ st.2.1 + nI i = wt) ∧ res.1.2.2 = nI q.1 ∧ ∀ t, t < q.2.length → res.1.1 (k + t) = nI (q.2.getD t 0)))
theorem rk_plus (x : Int32) (a b : Nat) : x + nI a + nI b = x + nI (a + b) := by rw [Int32.add_assoc, nI_add]
theorem rk_zero (x : Int32) : x + nI 0 = x := by rw [nI_0, Int32.add_zero]
theorem rk_nil {wt : Int32} {k : Nat} {st st' : sS} (h1 : ∀ j, j < k → st'.1 j = st.1 j) (h2 : st'.2.1 = st.2.1) : rk_sk wt k [] st (st', false) :=
  ⟨h1, Or.inl ⟨rfl, by show st'.2.1 = st.2.1 + nI 0; rw [rk_zero]; exact h2, fun j hj => absurd hj (Nat.not_lt_zero _)⟩⟩
theorem rk_app1 {wt : Int32} {k : Nat} {L M : List (Nat × List Nat)} {st : sS} {r1 : sS × Bool} (h : rk_sk wt k L st r1) (ht : r1.2 = true) : rk_sk wt k (L ++ M) st r1 := by
  obtain ⟨h1, h2 | ⟨h2, j, q, h3, h4⟩⟩ := h
  · rw [h2.1] at ht; cases ht
  · refine ⟨h1, Or.inr ⟨h2, j, q, ?_, h4⟩⟩
    rw [List.getElem?_append_left (List.getElem?_eq_some_iff.mp h3).1]
    exact h3
theorem rk_app2 {wt : Int32} {k : Nat} {L M : List (Nat × List Nat)} {st : sS} {r1 r2 : sS × Bool} (h : rk_sk wt k L st r1) (ht : r1.2 = false) (g : rk_sk wt k M r1.1 r2) : rk_sk wt k (L ++ M) st r2 := by
  obtain ⟨h1, ⟨h2, h3, h4⟩ | ⟨h2, -⟩⟩ := h
  · obtain ⟨g1, ⟨g2, g3, g4⟩ | ⟨g2, j, q, g3, g4, g5, g6, g7⟩⟩ := g
    · refine ⟨fun j hj => (g1 j hj).trans (h1 j hj), Or.inl ⟨g2, ?_, fun j hj => ?_⟩⟩
      · rw [g3, h3, rk_plus, List.length_append]
      · rw [List.length_append] at hj
        by_cases hlt : j < L.length
        · exact h4 j hlt
        · have := g4 (j - L.length) (by omega)
          rw [h3, rk_plus, show L.length + (j - L.length) = j by omega] at this
          exact this
    · refine ⟨fun j hj => (g1 j hj).trans (h1 j hj), Or.inr ⟨g2, L.length + j, q, ?_, ?_, fun i hi => ?_, g6, g7⟩⟩
      · rw [List.getElem?_append_right (by omega), show L.length + j - L.length = j by omega]
        exact g3
      · rw [← rk_plus, ← h3]
        exact g4
      · by_cases hlt : i < L.length
        · exact h4 i hlt
        · have := g5 (i - L.length) (by omega)
          rw [h3, rk_plus, show L.length + (i - L.length) = i by omega] at this
          exact this
  · rw [h2] at ht; cases ht
theorem rk_fold {α : Type} {wt : Int32} {k : Nat} {f : sS → α → sS × Bool} {G : α → List (Nat × List Nat)} : ∀ (l : List α) (st : sS), (∀ st a, a ∈ l → rk_sk wt k (G a) st (f st a)) → rk_sk wt k (l.flatMap G) st (rj_fold f st l)
  | [], st, _ => rk_nil (fun _ _ => rfl) rfl
  | a :: l, st, hf => by
    have h := hf st a List.mem_cons_self
    have e : rj_fold f st (a :: l) = if (f st a).2 = true then f st a else rj_fold f (f st a).1 l := rfl
    rw [e, List.flatMap_cons]
    by_cases hb : (f st a).2 = true
    · rw [if_pos hb]
      exact rk_app1 h hb
    · rw [if_neg hb]
      exact rk_app2 h (by simpa using hb) (rk_fold l _ (fun st b hb => hf st b (List.mem_cons_of_mem _ hb)))
theorem rk_cons {wt : Int32} {k c : Nat} {L : List (Nat × List Nat)} {st : sS} {res : sS × Bool} (h : rk_sk wt (k + 1) L (rs_ch k c st) res) : rk_sk wt k (L.map (fun q => (q.1, c :: q.2))) st res := by
  obtain ⟨h1, h⟩ := h
  have hk : ∀ j, j < k → res.1.1 j = st.1 j := by
    intro j hj
    rw [h1 j (by omega)]
    exact upd_ne (by omega)
  have hc : res.1.1 k = nI c := by
    rw [h1 k (by omega)]
    exact upd_self
  refine ⟨hk, ?_⟩
  rcases h with ⟨h2, h3, h4⟩ | ⟨h2, j, q, h3, h4, h5, h6, h7⟩
  · exact Or.inl ⟨h2, by rw [List.length_map]; exact h3, fun j hj => h4 j (by rw [List.length_map] at hj; exact hj)⟩
  · refine Or.inr ⟨h2, j, (q.1, c :: q.2), by rw [List.getElem?_map, h3]; rfl, h4, h5, h6, fun t ht => ?_⟩
    have ht : t < (c :: q.2).length := ht
    rw [List.length_cons] at ht
    cases t with
    | zero => exact hc
    | succ t =>
      have := h7 t (by omega)
      rw [show k + 1 + t = k + (t + 1) by omega] at this
      exact this
theorem rk_join {X : Nat → Bool} {he : sT} (hT : rx_TR X he.1 he.2.1 he.2.2.1 he.2.2.2) {wt : Int32} {r : Nat} : ∀ (rem k : Nat) (ds : List Nat) (st : sS), rt_ok ds → rk_sk wt k ((rv_sol (rx_codes X) r rem k ds).map (fun q => (r, q.1))) st (rj_join (rx_trav he.1 he.2.1 he.2.2.1 he.2.2.2) (rs_meet wt r) rs_ch r none rem k ds st)
  | 0, k, ds, st, _ => by
    show rk_sk wt k [(r, [])] st (rs_meet wt r ds st)
    unfold rs_meet
    refine ⟨fun _ _ => rfl, ?_⟩
    by_cases h : st.2.1 = wt
    · refine Or.inr ⟨decide_eq_true h, 0, (r, []), rfl, by rw [rk_zero]; exact h, fun i hi => absurd hi (Nat.not_lt_zero _), ?_, fun t ht => absurd ht (Nat.not_lt_zero _)⟩
      show (if st.2.1 = wt then nI r else st.2.2) = nI r
      rw [if_pos h]
    · refine Or.inl ⟨decide_eq_false h, rfl, fun j hj => ?_⟩
      have : j = 0 := by have hj : j < 1 := hj; omega
      rw [this, rk_zero]
      exact h
  | rem + 1, k, ds, st, hd => by
    have e : rj_join (rx_trav he.1 he.2.1 he.2.2.1 he.2.2.2) (rs_meet wt r) rs_ch r none (rem + 1) k ds st =
      rj_fold (rj_body rs_ch r k ds (rj_join (rx_trav he.1 he.2.1 he.2.2.1 he.2.2.2) (rs_meet wt r) rs_ch r none rem (k + 1))) st (rx_trav he.1 he.2.1 he.2.2.1 he.2.2.2 (rt_term (rq_prem.getD (12 * r + 3 * k) 0) ds) (rt_term (rq_prem.getD (12 * r + 3 * k + 1) 0) ds) (rt_term (rq_prem.getD (12 * r + 3 * k + 2) 0) ds)) := by
      show (if none = some k then _ else _) = _
      rw [if_neg (fun w => by cases w)]
    rw [e, rw_sol_s, rw_map_flat, ← rw_trav hT hd (fun c => (rw_b (rx_codes X) r rem (k + 1) c (rs_fit r k c ds)).map (fun q => (r, q.1))) (fun c hc => by show (rw_b (rx_codes X) r rem (k + 1) c (rs_fit r k c ds)).map (fun q => (r, q.1)) = []; rw [hc]; rfl)]
    refine rk_fold _ st (fun st c hc => ?_)
    have hc' := rx_trav_lt _ _ _ c hc
    unfold rj_body
    cases hq : rs_fit r k c ds with
    | none =>
      have hq' : rt_fit (rq_prem.getD (12 * r + 3 * k) 0) (rq_prem.getD (12 * r + 3 * k + 1) 0) (rq_prem.getD (12 * r + 3 * k + 2) 0) c ds = none := hq
      rw [hq']
      exact rk_nil (fun j hj => upd_ne (by omega)) rfl
    | some d =>
      have hq' : rt_fit (rq_prem.getD (12 * r + 3 * k) 0) (rq_prem.getD (12 * r + 3 * k + 1) 0) (rq_prem.getD (12 * r + 3 * k + 2) 0) c ds = some d := hq
      rw [hq']
      have ih := rk_cons (rk_join hT (wt := wt) (r := r) rem (k + 1) d (rs_ch k c st) (rw_ps_r hc' ds d hd hq))
      have e2 : (rw_b (rx_codes X) r rem (k + 1) c (some d)).map (fun q => (r, q.1)) = ((rv_sol (rx_codes X) r rem (k + 1) d).map (fun q => (r, q.1))).map (fun q => (q.1, c :: q.2)) := by
        show ((rv_sol (rx_codes X) r rem (k + 1) d).map (fun q => (c :: q.1, q.2))).map (fun q => (r, q.1)) = _
        rw [List.map_map, List.map_map]
        rfl
      rw [e2]
      exact ih
theorem rt_fit_known {k1 k2 k3 a b e c : Nat} {ds : List Nat} (h1 : rt_term k1 ds = some a) (h2 : rt_term k2 ds = some b) (h3 : rt_term k3 ds = some e) : (rt_fit k1 k2 k3 c ds).isSome = decide (a = c / 32 / 32 ∧ b = c / 32 % 32 ∧ e = c % 32) := by
  have hb : ∀ k u t, rt_term k ds = some u → rt_bind k t ds = if u = t then some ds else none := by
    intro k u t h
    unfold rt_bind
    rw [h]
  unfold rt_fit
  rw [hb k2 b _ h2]
  by_cases e2 : b = c / 32 % 32
  · rw [if_pos e2, Option.bind_some, hb k1 a _ h1]
    by_cases e1 : a = c / 32 / 32
    · rw [if_pos e1, Option.bind_some, hb k3 e _ h3]
      by_cases e3 : e = c % 32
      · rw [if_pos e3]; simp [e1, e2, e3]
      · rw [if_neg e3]; simp [e3]
    · rw [if_neg e1]; simp [e1]
  · rw [if_neg e2]; simp [e2]
theorem rw_giv_some {r c : Nat} {d : List Nat} (hr : r < 21) (hd : rt_ok d) (hcov : rj_cov r (rq_cnts.getD r 0) none d) : (rw_giv r c d).isSome = decide (rj_given r d = c) := by
  obtain ⟨x, hx, h1⟩ := rj_cov_given hr (Nat.le_refl _) hcov 0 (by omega)
  obtain ⟨y, hy, h2⟩ := rj_cov_given hr (Nat.le_refl _) hcov 1 (by omega)
  obtain ⟨w, hw, h3⟩ := rj_cov_given hr (Nat.le_refl _) hcov 2 (by omega)
  have h1 : rt_term (rq_given.getD (3 * r) 0) d = some x := h1
  unfold rw_giv
  rw [rt_fit_known h1 h2 h3, rj_given_E h1 h2 h3]
  rw [Bool.eq_iff_iff, decide_eq_true_eq, decide_eq_true_eq]
  constructor
  · rintro ⟨rfl, rfl, rfl⟩
    exact rx_code_of c
  · intro e
    rw [← e, rx_code_s hy hw, rx_code_p hy hw, rx_code_o hw]
    exact ⟨rfl, rfl, rfl⟩
theorem rw_way_row {X : Nat → Bool} {r c : Nat} (hr : r < 21) (hc : c < 32768) : ((rv_sol (rx_codes X) r (rq_cnts.getD r 0) 0 rt_free).filter (fun q => decide (rj_given r q.2 = c))).map (fun q => q.1) = rw_o (rx_codes X) r (rq_cnts.getD r 0) 0 (rw_giv r c rt_free) := by
  rw [← rw_pre (B := rw_giv r c) (fun k c' hc' => rw_cm_rg hc' hc) rx_codes_lt (rq_cnts.getD r 0) 0 rt_free rt_free_ok]
  congr 1
  apply List.filter_congr
  intro q hq
  have := rv_cov0 rx_codes_lt hq
  exact (rw_giv_some hr this.1 this.2.1).symm
theorem rk_way {X : Nat → Bool} {he : sT} (hT : rx_TR X he.1 he.2.1 he.2.2.1 he.2.2.2) {wt x : Int32} {of : Nat → Bool} (hof : ∀ r, r < 21 → rb_b x r = !of r) {c : Nat} (hc : c < 32768) (st : sS) : rk_sk wt 0 (mw_ (rx_codes X) of c) (st.1, nI 0, st.2.2) (rs_way he wt c x st) := by
  unfold mw_ rs_way
  refine rk_fold _ _ (fun st r hr => ?_)
  obtain ⟨b, hb, er⟩ := List.mem_range'.mp hr
  have hr21 : r < 21 := by omega
  unfold mw_row rs_G
  rw [hof r hr21]
  cases ho : of r with
  | true => exact rk_nil (fun _ _ => rfl) rfl
  | false =>
    show rk_sk wt 0 (((rv_sol (rx_codes X) r (rq_cnts.getD r 0) 0 rt_free).filter (fun q => decide (rj_given r q.2 = c))).map (fun q => (r, q.1))) st (rs_F he wt c st r)
    have e1 : ((rv_sol (rx_codes X) r (rq_cnts.getD r 0) 0 rt_free).filter (fun q => decide (rj_given r q.2 = c))).map (fun q => (r, q.1)) = (((rv_sol (rx_codes X) r (rq_cnts.getD r 0) 0 rt_free).filter (fun q => decide (rj_given r q.2 = c))).map (fun q => q.1)).map (fun p => (r, p)) := by
      rw [List.map_map]
      rfl
    rw [e1, rw_way_row hr21 hc]
    unfold rs_F
    cases hq : rw_giv r c rt_free with
    | none =>
      have hq' : rt_fit (rq_given.getD (3 * r) 0) (rq_given.getD (3 * r + 1) 0) (rq_given.getD (3 * r + 2) 0) c rt_free = none := hq
      rw [hq']
      exact rk_nil (fun _ _ => rfl) rfl
    | some d =>
      have hq' : rt_fit (rq_given.getD (3 * r) 0) (rq_given.getD (3 * r + 1) 0) (rq_given.getD (3 * r + 2) 0) c rt_free = some d := hq
      rw [hq']
      have := rk_join hT (wt := wt) (r := r) (rq_cnts.getD r 0) 0 d st (rt_fit_ok rt_free_ok hc hq')
      have e2 : (rw_o (rx_codes X) r (rq_cnts.getD r 0) 0 (some d)).map (fun p => (r, p)) = (rv_sol (rx_codes X) r (rq_cnts.getD r 0) 0 d).map (fun q => (r, q.1)) := by
        show ((rv_sol (rx_codes X) r (rq_cnts.getD r 0) 0 d).map (fun q => q.1)).map (fun p => (r, p)) = _
        rw [List.map_map]
        rfl
      rw [e2]
      exact this
theorem rk_clash {X : Nat → Bool} {he : sT} (hT : rx_TR X he.1 he.2.1 he.2.2.1 he.2.2.2) {wt : Int32} (st : sS) : rk_sk wt 0 (mx_ (rx_codes X)) (st.1, nI 0, st.2.2) (rs_clash he wt st) := by
  have e : mx_ (rx_codes X) = (List.range' 0 3).flatMap (fun k => mx_row (rx_codes X) (21 + k)) := rfl
  rw [e]
  unfold rs_clash
  refine rk_fold _ _ (fun st k hk => ?_)
  exact rk_join hT (rq_cnts.getD (21 + k) 0) 0 rt_free st rt_free_ok
/-! how many there can be -/
theorem rw_len_flat {α β : Type} {M : Nat} {F : α → List β} : ∀ (l : List α), (∀ a, a ∈ l → (F a).length ≤ M) → (l.flatMap F).length ≤ l.length * M
  | [], _ => Nat.zero_le _
  | a :: l, h => by
    rw [List.flatMap_cons, List.length_append, List.length_cons, Nat.succ_mul]
    have h1 := h a List.mem_cons_self
    have h2 := rw_len_flat l (fun b hb => h b (List.mem_cons_of_mem _ hb))
    omega
theorem rw_len_step {hs : List Nat} {r rem k M : Nat} {ds : List Nat} (h : ∀ c, c ∈ hs → ∀ d, rs_fit r k c ds = some d → (rv_sol hs r rem (k + 1) d).length ≤ M) : (rv_sol hs r (rem + 1) k ds).length ≤ hs.length * M := by
  rw [rw_sol_s]
  apply rw_len_flat
  intro c hc
  cases hq : rs_fit r k c ds with
  | none => exact Nat.zero_le _
  | some d =>
    show ((rv_sol hs r rem (k + 1) d).map _).length ≤ M
    rw [List.length_map]
    exact h c hc d hq
theorem rw_len {hs : List Nat} {r : Nat} : ∀ (rem k : Nat) (ds : List Nat), (rv_sol hs r rem k ds).length ≤ hs.length ^ rem
  | 0, _, _ => Nat.le_refl _
  | rem + 1, k, ds => by
    rw [Nat.pow_succ, Nat.mul_comm]
    exact rw_len_step (fun c _ d _ => rw_len rem (k + 1) d)
theorem rw_len_one {α β : Type} {F : α → List β} {a0 : α} (h1 : (F a0).length ≤ 1) (h0 : ∀ a, a ≠ a0 → F a = []) : ∀ (l : List α), l.Nodup → (l.flatMap F).length ≤ 1
  | [], _ => Nat.zero_le _
  | a :: l, hn => by
    obtain ⟨n1, n2⟩ := List.nodup_cons.mp hn
    rw [List.flatMap_cons, List.length_append]
    by_cases e : a = a0
    · have : l.flatMap F = [] := List.flatMap_eq_nil_iff.mpr (fun b hb => h0 b (fun e2 => n1 (by rw [e, ← e2]; exact hb)))
      rw [this, e, List.length_nil]
      exact h1
    · rw [h0 a e, List.length_nil, Nat.zero_add]
      exact rw_len_one h1 h0 l n2
theorem rx_codes_nodup {X : Nat → Bool} : (rx_codes X).Nodup := List.Pairwise.filter _ List.nodup_range
theorem rw_len_last {X : Nat → Bool} {r k a b e : Nat} {ds : List Nat} (hd : rt_ok ds) (h1 : rt_term (rq_prem.getD (12 * r + 3 * k) 0) ds = some a) (h2 : rt_term (rq_prem.getD (12 * r + 3 * k + 1) 0) ds = some b) (h3 : rt_term (rq_prem.getD (12 * r + 3 * k + 2) 0) ds = some e) : (rv_sol (rx_codes X) r 1 k ds).length ≤ 1 := by
  rw [rw_sol_s]
  refine rw_len_one (a0 := rx_code a b e) ?_ (fun c hc => ?_) _ rx_codes_nodup
  · cases rs_fit r k (rx_code a b e) ds with
    | none => exact Nat.zero_le _
    | some d => exact Nat.le_refl _
  · have : rs_fit r k c ds = none := by
      cases hq : rs_fit r k c ds with
      | none => rfl
      | some d =>
        exfalso
        apply hc
        have hs : (rt_fit (rq_prem.getD (12 * r + 3 * k) 0) (rq_prem.getD (12 * r + 3 * k + 1) 0) (rq_prem.getD (12 * r + 3 * k + 2) 0) c ds).isSome = true := by
          have hq : rt_fit (rq_prem.getD (12 * r + 3 * k) 0) (rq_prem.getD (12 * r + 3 * k + 1) 0) (rq_prem.getD (12 * r + 3 * k + 2) 0) c ds = some d := hq
          rw [hq]
          rfl
        rw [rt_fit_known h1 h2 h3, decide_eq_true_eq] at hs
        obtain ⟨rfl, rfl, rfl⟩ := hs
        exact (rx_code_of c).symm
    rw [this]
    rfl
theorem rq_last : ∀ r, r < 21 → rq_cnts.getD r 0 = 4 → ∀ t, t < 3 → rq_prem.getD (12 * r + 9 + t) 0 < 32 ∨ (∃ j u, j < 3 ∧ u < 3 ∧ rq_prem.getD (12 * r + 9 + t) 0 = rq_prem.getD (12 * r + 3 * j + u) 0) ∨ (∃ u, u < 3 ∧ rq_prem.getD (12 * r + 9 + t) 0 = rq_given.getD (3 * r + u) 0) := by
  have h : ∀ r, r < 21 → rq_cnts.getD r 0 = 4 → ∀ t, t < 3 → rq_prem.getD (12 * r + 9 + t) 0 < 32 ∨ (∃ j u : Fin 3, rq_prem.getD (12 * r + 9 + t) 0 = rq_prem.getD (12 * r + 3 * j.val + u.val) 0) ∨ (∃ u : Fin 3, rq_prem.getD (12 * r + 9 + t) 0 = rq_given.getD (3 * r + u.val) 0) := by decide +kernel
  intro r hr hc t ht
  rcases h r hr hc t ht with z | ⟨j, u, e⟩ | ⟨u, e⟩
  · exact Or.inl z
  · exact Or.inr (Or.inl ⟨j.val, u.val, j.isLt, u.isLt, e⟩)
  · exact Or.inr (Or.inr ⟨u.val, u.isLt, e⟩)
theorem rw_len_four {X : Nat → Bool} {r c : Nat} {d0 : List Nat} (hr : r < 21) (h4 : rq_cnts.getD r 0 = 4) (hc : c < 32768) (hg : rw_giv r c rt_free = some d0) (hX : (rx_codes X).length ≤ 400) : (rv_sol (rx_codes X) r 4 0 d0).length ≤ 64000000 := by
  obtain ⟨t1, t2, t3⟩ := rt_fit_this rt_free_ok hc (rq_given_lt _) (rq_given_lt _) (rq_given_lt _) hg
  have hok0 := rt_fit_ok rt_free_ok hc hg
  have hgv : ∀ u, u < 3 → ∃ v, rt_term (rq_given.getD (3 * r + u) 0) d0 = some v := by
    intro u hu
    rcases (show u = 0 ∨ u = 1 ∨ u = 2 by omega) with rfl | rfl | rfl
    · exact ⟨_, t1⟩
    · exact ⟨_, t2⟩
    · exact ⟨_, t3⟩
  have hcov0 : rj_cov r 0 none d0 := fun j _ h => by
    rcases h with h | h
    · exact absurd h (Nat.not_lt_zero _)
    · cases h
  have key : (rv_sol (rx_codes X) r 4 0 d0).length ≤ (rx_codes X).length * ((rx_codes X).length * ((rx_codes X).length * 1)) := by
    refine rw_len_step (fun c1 m1 d1 f1 => rw_len_step (fun c2 m2 d2 f2 => rw_len_step (fun c3 m3 d3 f3 => ?_)))
    have o1 := rt_fit_ok hok0 (rx_codes_lt c1 m1) f1
    have o2 := rt_fit_ok o1 (rx_codes_lt c2 m2) f2
    have o3 := rt_fit_ok o2 (rx_codes_lt c3 m3) f3
    have v1 := rj_cov_step hok0 (rx_codes_lt c1 m1) hcov0 f1
    have v2 := rj_cov_step o1 (rx_codes_lt c2 m2) v1 f2
    have v3 := rj_cov_step o2 (rx_codes_lt c3 m3) v2 f3
    have hk : ∀ t, t < 3 → ∃ v, rt_term (rq_prem.getD (12 * r + 9 + t) 0) d3 = some v := by
      intro t ht
      rcases rq_last r hr h4 t ht with z | ⟨j, u, hj, hu, e⟩ | ⟨u, hu, e⟩
      · refine ⟨rq_prem.getD (12 * r + 9 + t) 0, ?_⟩
        unfold rt_term
        rw [if_pos z]
      · obtain ⟨v, -, hv⟩ := v3 j (by omega) (Or.inl (by omega)) u hu
        exact ⟨v, by rw [e]; exact hv⟩
      · obtain ⟨v, hv⟩ := hgv u hu
        exact ⟨v, by rw [e]; exact rt_fit_keep f3 (rt_fit_keep f2 (rt_fit_keep f1 hv))⟩
    obtain ⟨a, ha⟩ := hk 0 (by omega)
    obtain ⟨b, hb⟩ := hk 1 (by omega)
    obtain ⟨e, he⟩ := hk 2 (by omega)
    exact rw_len_last o3 ha hb he
  refine Nat.le_trans key ?_
  rw [Nat.mul_one]
  exact Nat.le_trans (Nat.mul_le_mul hX (Nat.mul_le_mul hX hX)) (by decide)
theorem rw_len_three {X : Nat → Bool} {r k n : Nat} {ds : List Nat} (hn : n ≤ 3) (hX : (rx_codes X).length ≤ 400) : (rv_sol (rx_codes X) r n k ds).length ≤ 64000000 := by
  refine Nat.le_trans (rw_len n k ds) (Nat.le_trans (Nat.pow_le_pow_left hX n) (Nat.le_trans (Nat.pow_le_pow_right (by decide) hn) (by decide)))
theorem mw_len {X : Nat → Bool} {of : Nat → Bool} {c : Nat} (hc : c < 32768) (hX : (rx_codes X).length ≤ 400) : (mw_ (rx_codes X) of c).length ≤ 1344000000 := by
  have h := rw_len_flat (M := 64000000) (F := mw_row (rx_codes X) of c) (List.range' 0 21) (fun r hr => by
    obtain ⟨b, hb, er⟩ := List.mem_range'.mp hr
    have hr21 : r < 21 := by omega
    unfold mw_row
    split
    · exact Nat.zero_le _
    · rw [List.length_map]
      have e := congrArg List.length (rw_way_row (X := X) hr21 hc)
      rw [List.length_map] at e
      rw [e]
      cases hq : rw_giv r c rt_free with
      | none => exact Nat.zero_le _
      | some d =>
        show ((rv_sol (rx_codes X) r (rq_cnts.getD r 0) 0 d).map _).length ≤ _
        rw [List.length_map]
        have h4 := rq_cnts_le r (by omega)
        by_cases h : rq_cnts.getD r 0 = 4
        · rw [h]
          exact rw_len_four hr21 h hc hq hX
        · exact rw_len_three (by omega) hX)
  exact h
theorem mx_len {X : Nat → Bool} (hX : (rx_codes X).length ≤ 400) : (mx_ (rx_codes X)).length ≤ 192000000 := by
  have hc3 : ∀ r, r < 24 → 21 ≤ r → rq_cnts.getD r 0 ≤ 3 := by decide +kernel
  have h := rw_len_flat (M := 64000000) (F := mx_row (rx_codes X)) (List.range' 21 3) (fun r hr => by
    obtain ⟨b, hb, er⟩ := List.mem_range'.mp hr
    unfold mx_row
    rw [List.length_map]
    exact rw_len_three (hc3 r (by omega) (by omega)) hX)
  exact h
theorem mw_mem {hs : List Nat} (hhs : ∀ c ∈ hs, c < 32768) {of : Nat → Bool} {c : Nat} {q : Nat × List Nat} (h : q ∈ mw_ hs of c) : q.1 < 21 ∧ q.2.length = rq_cnts.getD q.1 0 := by
  obtain ⟨r, hr, h⟩ := List.mem_flatMap.mp h
  obtain ⟨b, hb, er⟩ := List.mem_range'.mp hr
  unfold mw_row at h
  split at h
  · cases h
  · obtain ⟨q', hq', rfl⟩ := List.mem_map.mp h
    exact ⟨by show r < 21; omega, (rv_cov0 hhs (List.mem_filter.mp hq').1).2.2.1⟩
theorem mx_mem {hs : List Nat} (hhs : ∀ c ∈ hs, c < 32768) {q : Nat × List Nat} (h : q ∈ mx_ hs) : 21 ≤ q.1 ∧ q.1 < 24 ∧ q.2.length = rq_cnts.getD q.1 0 := by
  obtain ⟨r, hr, h⟩ := List.mem_flatMap.mp h
  obtain ⟨b, hb, er⟩ := List.mem_range'.mp hr
  obtain ⟨q', hq', rfl⟩ := List.mem_map.mp h
  exact ⟨by show 21 ≤ r; omega, by show r < 24; omega, (rv_cov0 hhs hq').2.2.1⟩
/-- counting goes through to the end -/
theorem rk_count {L : List (Nat × List Nat)} {st : sS} {res : sS × Bool} (hL : L.length ≤ 2000000000) (h0 : st.2.1 = nI 0) (h : rk_sk (-1) 0 L st res) : res.1.2.1 = nI L.length := by
  obtain ⟨-, ⟨-, h3, -⟩ | ⟨-, j, q, h3, h4, -⟩⟩ := h
  · rw [h3, h0, nI_add, Nat.zero_add]
  · exfalso
    have hj := (List.getElem?_eq_some_iff.mp h3).1
    rw [h0, nI_add, Nat.zero_add] at h4
    exact rt_nm1 (u := j) (by omega) h4
/-- seeking finds the one that is wanted -/
theorem rk_find {L : List (Nat × List Nat)} {a : Nat} {st : sS} {res : sS × Bool} (ha : a < 2147483648) (h0 : st.2.1 = nI 0) (h : rk_sk (nI a) 0 L st res) : (res.2 = false ∧ L[a]? = none) ∨ (res.2 = true ∧ ∃ q, L[a]? = some q ∧ res.1.2.2 = nI q.1 ∧ ∀ t, t < q.2.length → res.1.1 t = nI (q.2.getD t 0)) := by
  obtain ⟨-, ⟨h2, h3, h4⟩ | ⟨h2, j, q, h3, h4, h5, h6, h7⟩⟩ := h
  · left
    refine ⟨h2, List.getElem?_eq_none ?_⟩
    apply Nat.le_of_not_lt
    intro hlt
    apply h4 a hlt
    rw [h0, nI_add, Nat.zero_add]
  · right
    have hja : j = a := by
      have h9 : ¬ a < j := fun hlt => h5 a hlt (by rw [h0, nI_add, Nat.zero_add])
      rw [h0, nI_add, Nat.zero_add] at h4
      exact (nI_eq (by omega) (by omega)).mp h4
    subst hja
    exact ⟨h2, q, h3, h6, fun t ht => by have := h7 t ht; rw [Nat.zero_add] at this; exact this⟩
