/-! fitting goes in any order; what a join meets, as lists -/
def rw_cm (f g : List Nat → Option (List Nat)) : Prop := ∀ ds, rt_ok ds → (f ds).bind g = (g ds).bind f
def rw_ps (f : List Nat → Option (List Nat)) : Prop := ∀ ds ds', rt_ok ds → f ds = some ds' → rt_ok ds'
theorem rw_cm_symm {f g : List Nat → Option (List Nat)} (h : rw_cm f g) : rw_cm g f := fun ds hd => (h ds hd).symm
theorem rw_cm_seq {f f' g : List Nat → Option (List Nat)} (h1 : rw_cm f g) (h2 : rw_cm f' g) (hp : rw_ps f) : rw_cm (fun ds => (f ds).bind f') g := by
  intro ds hd
  have e1 : (g ds).bind (fun d => (f d).bind f') = ((g ds).bind f).bind f' := (Option.bind_assoc _ _ _).symm
  show ((f ds).bind f').bind g = (g ds).bind (fun d => (f d).bind f')
  rw [e1, ← h1 ds hd]
  cases hf : f ds with
  | none => rfl
  | some d => exact h2 d (hp ds d hd hf)
theorem rw_cm_bb {k1 k2 t1 t2 : Nat} (a1 : k1 < 42) (a2 : k2 < 42) : rw_cm (rt_bind k1 t1) (rt_bind k2 t2) := fun _ hd => rt_bind_comm hd a1 a2
theorem rw_ps_b {k t : Nat} (ht : t < 32) : rw_ps (rt_bind k t) := fun _ _ hd h => rt_bind_ok hd ht h
theorem rw_cm_fb {k1 k2 k3 c q t : Nat} (a1 : k1 < 42) (a2 : k2 < 42) (a3 : k3 < 42) (aq : q < 42) (hc : c < 32768) : rw_cm (rt_fit k1 k2 k3 c) (rt_bind q t) :=
  rw_cm_seq (f := rt_bind k2 (c / 32 % 32)) (f' := fun ds => (rt_bind k1 (c / 32 / 32) ds).bind (rt_bind k3 (c % 32))) (rw_cm_bb a2 aq) (rw_cm_seq (rw_cm_bb a1 aq) (rw_cm_bb a3 aq) (rw_ps_b (by omega))) (rw_ps_b (by omega))
theorem rw_cm_ff {k1 k2 k3 c q1 q2 q3 d : Nat} (a1 : k1 < 42) (a2 : k2 < 42) (a3 : k3 < 42) (hc : c < 32768) (b1 : q1 < 42) (b2 : q2 < 42) (b3 : q3 < 42) (hd : d < 32768) : rw_cm (rt_fit k1 k2 k3 c) (rt_fit q1 q2 q3 d) :=
  rw_cm_symm (rw_cm_seq (f := rt_bind q2 (d / 32 % 32)) (f' := fun ds => (rt_bind q1 (d / 32 / 32) ds).bind (rt_bind q3 (d % 32))) (rw_cm_symm (rw_cm_fb a1 a2 a3 b2 hc)) (rw_cm_seq (rw_cm_symm (rw_cm_fb a1 a2 a3 b1 hc)) (rw_cm_symm (rw_cm_fb a1 a2 a3 b3 hc)) (rw_ps_b (by omega))) (rw_ps_b (by omega)))
theorem rw_cm_rr {r k c f d : Nat} (hc : c < 32768) (hd : d < 32768) : rw_cm (rs_fit r k c) (rs_fit r f d) := rw_cm_ff (rq_prem_lt _) (rq_prem_lt _) (rq_prem_lt _) hc (rq_prem_lt _) (rq_prem_lt _) (rq_prem_lt _) hd
theorem rw_ps_r {r k c : Nat} (hc : c < 32768) : rw_ps (rs_fit r k c) := fun _ _ hd h => rt_fit_ok hd hc h
/-- the letters of what a rule gives, bound first -/
def rw_giv (r c : Nat) (ds : List Nat) : Option (List Nat) := rt_fit (rq_given.getD (3 * r) 0) (rq_given.getD (3 * r + 1) 0) (rq_given.getD (3 * r + 2) 0) c ds
theorem rw_cm_rg {r k c d : Nat} (hc : c < 32768) (hd : d < 32768) : rw_cm (rs_fit r k c) (rw_giv r d) := rw_cm_ff (rq_prem_lt _) (rq_prem_lt _) (rq_prem_lt _) hc (rq_given_lt _) (rq_given_lt _) (rq_given_lt _) hd
theorem rw_filter_flat {α β : Type} (P : β → Bool) (F : α → List β) : ∀ (l : List α), (l.flatMap F).filter P = l.flatMap (fun a => (F a).filter P)
  | [] => rfl
  | a :: l => by rw [List.flatMap_cons, List.flatMap_cons, List.filter_append, rw_filter_flat P F l]
theorem rw_map_flat {α β γ : Type} (G : β → γ) (F : α → List β) : ∀ (l : List α), (l.flatMap F).map G = l.flatMap (fun a => (F a).map G)
  | [] => rfl
  | a :: l => by rw [List.flatMap_cons, List.flatMap_cons, List.map_append, rw_map_flat G F l]
/-- the ways on from one code -/
def rw_b (hs : List Nat) (r rem k c : Nat) : Option (List Nat) → List (List Nat × List Nat)
  | none => []
  | some d => (rv_sol hs r rem k d).map (fun q => (c :: q.1, q.2))
theorem rw_sol_s {hs : List Nat} {r rem k : Nat} {ds : List Nat} : rv_sol hs r (rem + 1) k ds = hs.flatMap (fun c => rw_b hs r rem (k + 1) c (rs_fit r k c ds)) := by
  show hs.flatMap _ = _
  apply ry_congr
  intro c _
  cases rs_fit r k c ds <;> rfl
def rw_o (hs : List Nat) (r rem k : Nat) : Option (List Nat) → List (List Nat)
  | none => []
  | some d => (rv_sol hs r rem k d).map (fun q => q.1)
theorem rw_pre {hs : List Nat} {r : Nat} {B : List Nat → Option (List Nat)} (hB : ∀ k c, c < 32768 → rw_cm (rs_fit r k c) B) (hhs : ∀ c ∈ hs, c < 32768) : ∀ (rem k : Nat) (ds : List Nat), rt_ok ds → ((rv_sol hs r rem k ds).filter (fun q => (B q.2).isSome)).map (fun q => q.1) = rw_o hs r rem k (B ds)
  | 0, k, ds, hd => by
    show (([([], ds)] : List (List Nat × List Nat)).filter (fun q => (B q.2).isSome)).map (fun q => q.1) = _
    cases hb : B ds with
    | none => simp [hb, rw_o]
    | some d => simp [hb, rv_sol, rw_o]
  | rem + 1, k, ds, hd => by
    rw [rw_sol_s, rw_filter_flat, rw_map_flat]
    have e2 : ∀ c ∈ hs, ((rw_b hs r rem (k + 1) c (rs_fit r k c ds)).filter (fun q => (B q.2).isSome)).map (fun q => q.1) = (rw_o hs r rem (k + 1) ((B ds).bind (rs_fit r k c))).map (fun p => c :: p) := by
      intro c hc
      rw [← hB k c (hhs c hc) ds hd]
      cases hf : rs_fit r k c ds with
      | none => rfl
      | some ds' =>
        have ih := rw_pre hB hhs rem (k + 1) ds' (rw_ps_r (hhs c hc) ds ds' hd hf)
        show (((rv_sol hs r rem (k + 1) ds').map (fun q => (c :: q.1, q.2))).filter (fun q => (B q.2).isSome)).map (fun q => q.1) = (rw_o hs r rem (k + 1) (B ds')).map (fun p => c :: p)
        rw [← ih, List.filter_map, List.map_map, List.map_map]
        rfl
    rw [ry_congr e2]
    cases hb : B ds with
    | none => simp [rw_o]
    | some d =>
      show _ = (rv_sol hs r (rem + 1) k d).map (fun q => q.1)
      rw [rw_sol_s, rw_map_flat]
      apply ry_congr
      intro c _
      show (rw_o hs r rem (k + 1) (rs_fit r k c d)).map (fun p => c :: p) = _
      cases rs_fit r k c d with
      | none => rfl
      | some d2 =>
        show ((rv_sol hs r rem (k + 1) d2).map (fun q => q.1)).map (fun p => c :: p) = ((rv_sol hs r rem (k + 1) d2).map (fun q => (c :: q.1, q.2))).map (fun q => q.1)
        rw [List.map_map, List.map_map]
        rfl
/-- a way to meet, step by step -/
def rw_run (r : Nat) : Nat → List Nat → List Nat → Option (List Nat)
  | _, [], ds => some ds
  | k, c :: p, ds => (rs_fit r k c ds).bind (rw_run r (k + 1) p)
theorem rw_mem {hs : List Nat} {r : Nat} : ∀ (rem k : Nat) (ds : List Nat) (q : List Nat × List Nat), q ∈ rv_sol hs r rem k ds ↔ q.1.length = rem ∧ (∀ c ∈ q.1, c ∈ hs) ∧ rw_run r k q.1 ds = some q.2
  | 0, k, ds, (p, d) => by
    constructor
    · intro h
      have h : (p, d) ∈ ([([], ds)] : List (List Nat × List Nat)) := h
      have h := List.mem_singleton.mp h
      cases h
      exact ⟨rfl, (fun c hc => by cases hc), rfl⟩
    · rintro ⟨h1, h2, h3⟩
      have h1 : p = [] := List.length_eq_zero_iff.mp h1
      subst h1
      have h3 : some ds = some d := h3
      cases h3
      exact List.mem_singleton.mpr rfl
  | rem + 1, k, ds, (p, d) => by
    constructor
    · intro h
      obtain ⟨c, hc, h⟩ := List.mem_flatMap.mp h
      split at h
      · cases h
      · rename_i ds' hf
        obtain ⟨q', hq', e⟩ := List.mem_map.mp h
        obtain ⟨g1, g2, g3⟩ := (rw_mem rem (k + 1) ds' q').mp hq'
        cases e
        refine ⟨by show (c :: q'.1).length = _; rw [List.length_cons, g1], fun c' hc' => ?_, ?_⟩
        · rcases List.mem_cons.mp hc' with rfl | hc'
          · exact hc
          · exact g2 c' hc'
        · show (rs_fit r k c ds).bind _ = _
          rw [hf]
          exact g3
    · rintro ⟨h1, h2, h3⟩
      cases p with
      | nil => cases h1
      | cons c p =>
        have h3 : (rs_fit r k c ds).bind (rw_run r (k + 1) p) = some d := h3
        obtain ⟨ds', hf, h3⟩ := Option.bind_eq_some_iff.mp h3
        refine List.mem_flatMap.mpr ⟨c, h2 c List.mem_cons_self, ?_⟩
        rw [hf]
        have h1 : (c :: p).length = rem + 1 := h1
        rw [List.length_cons] at h1
        exact List.mem_map.mpr ⟨(p, d), (rw_mem rem (k + 1) ds' (p, d)).mpr ⟨by show p.length = rem; omega, fun c' hc' => h2 c' (List.mem_cons_of_mem _ hc'), h3⟩, rfl⟩
/-- with one premise fitted before -/
def rw_fs (hs : List Nat) (r : Nat) (fx : Option Nat) : Nat → Nat → List Nat → List (List Nat)
  | 0, _, ds => [ds]
  | rem + 1, k, ds => if fx = some k then rw_fs hs r fx rem (k + 1) ds else hs.flatMap (fun c => match rs_fit r k c ds with
    | none => []
    | some d => rw_fs hs r fx rem (k + 1) d)
theorem rw_fs_past {hs : List Nat} {r f : Nat} : ∀ (rem k : Nat) (ds : List Nat), f < k → ∀ d, d ∈ rw_fs hs r (some f) rem k ds ↔ ∃ p, (p, d) ∈ rv_sol hs r rem k ds
  | 0, k, ds, hf, d => by
    constructor
    · intro h
      have h : d ∈ [ds] := h
      rw [List.mem_singleton.mp h]
      exact ⟨[], List.mem_singleton.mpr rfl⟩
    · rintro ⟨p, h⟩
      have h : (p, d) ∈ ([([], ds)] : List (List Nat × List Nat)) := h
      cases List.mem_singleton.mp h
      exact List.mem_singleton.mpr rfl
  | rem + 1, k, ds, hf, d => by
    have e : rw_fs hs r (some f) (rem + 1) k ds = hs.flatMap (fun c => match rs_fit r k c ds with
      | none => []
      | some d => rw_fs hs r (some f) rem (k + 1) d) := by
      show (if some f = some k then _ else _) = _
      rw [if_neg (fun z => by cases z; omega)]
    rw [e]
    constructor
    · intro h
      obtain ⟨c, hc, h⟩ := List.mem_flatMap.mp h
      cases hq : rs_fit r k c ds with
      | none => rw [hq] at h; cases h
      | some ds' =>
        rw [hq] at h
        obtain ⟨p, hp⟩ := (rw_fs_past rem (k + 1) ds' (by omega) d).mp h
        refine ⟨c :: p, List.mem_flatMap.mpr ⟨c, hc, ?_⟩⟩
        rw [hq]
        exact List.mem_map.mpr ⟨(p, d), hp, rfl⟩
    · rintro ⟨p, h⟩
      obtain ⟨c, hc, h⟩ := List.mem_flatMap.mp h
      refine List.mem_flatMap.mpr ⟨c, hc, ?_⟩
      cases hq : rs_fit r k c ds with
      | none => rw [hq] at h; cases h
      | some ds' =>
        rw [hq] at h
        obtain ⟨q', hq', e⟩ := List.mem_map.mp h
        cases e
        exact (rw_fs_past rem (k + 1) ds' (by omega) _).mpr ⟨q'.1, hq'⟩
theorem rw_fs_fix {hs : List Nat} {r f c : Nat} (hhs : ∀ c ∈ hs, c < 32768) (hc : c ∈ hs) : ∀ (rem k : Nat) (ds : List Nat), rt_ok ds → k ≤ f → f < k + rem → ∀ d, (∃ p, (p, d) ∈ rv_sol hs r rem k ds ∧ p[f - k]? = some c) ↔ ∃ d0, rs_fit r f c ds = some d0 ∧ d ∈ rw_fs hs r (some f) rem k d0
  | 0, k, ds, _, h1, h2, d => by omega
  | rem + 1, k, ds, hd, h1, h2, d => by
    by_cases hk : k = f
    · subst hk
      constructor
      · rintro ⟨p, hp, hpc⟩
        obtain ⟨c', hc', hp⟩ := List.mem_flatMap.mp hp
        cases hq : rs_fit r k c' ds with
        | none => rw [hq] at hp; cases hp
        | some ds' =>
          rw [hq] at hp
          obtain ⟨q', hq', e⟩ := List.mem_map.mp hp
          cases e
          rw [Nat.sub_self] at hpc
          have hpc : some c' = some c := hpc
          cases hpc
          refine ⟨ds', hq, ?_⟩
          show _ ∈ (if some k = some k then _ else _)
          rw [if_pos rfl]
          exact (rw_fs_past rem (k + 1) ds' (by omega) _).mpr ⟨q'.1, hq'⟩
      · rintro ⟨d0, hq, h⟩
        have h : d ∈ (if some k = some k then rw_fs hs r (some k) rem (k + 1) d0 else _) := h
        rw [if_pos rfl] at h
        obtain ⟨p, hp⟩ := (rw_fs_past rem (k + 1) d0 (by omega) _).mp h
        refine ⟨c :: p, List.mem_flatMap.mpr ⟨c, hc, ?_⟩, by rw [Nat.sub_self]; rfl⟩
        rw [hq]
        exact List.mem_map.mpr ⟨(p, d), hp, rfl⟩
    · have e : ∀ d0, rw_fs hs r (some f) (rem + 1) k d0 = hs.flatMap (fun c => match rs_fit r k c d0 with
        | none => []
        | some d => rw_fs hs r (some f) rem (k + 1) d) := by
        intro d0
        show (if some f = some k then _ else _) = _
        rw [if_neg (fun z => by cases z; exact hk rfl)]
      have hfk : f - k = (f - (k + 1)) + 1 := by omega
      constructor
      · rintro ⟨p, hp, hpc⟩
        obtain ⟨c', hc', hp⟩ := List.mem_flatMap.mp hp
        cases hq : rs_fit r k c' ds with
        | none => rw [hq] at hp; cases hp
        | some ds' =>
          rw [hq] at hp
          obtain ⟨q', hq', e9⟩ := List.mem_map.mp hp
          cases e9
          rw [hfk] at hpc
          have hpc : q'.1[f - (k + 1)]? = some c := hpc
          obtain ⟨d1, hd1, hm⟩ := (rw_fs_fix hhs hc rem (k + 1) ds' (rw_ps_r (hhs c' hc') ds ds' hd hq) (by omega) (by omega) _).mp ⟨q'.1, hq', hpc⟩
          have hcm := rw_cm_rr (r := r) (k := k) (f := f) (hhs c' hc') (hhs c hc) ds hd
          rw [hq] at hcm
          have hcm : rs_fit r f c ds' = (rs_fit r f c ds).bind (rs_fit r k c') := hcm
          rw [hd1] at hcm
          obtain ⟨d0, g1, g2⟩ := Option.bind_eq_some_iff.mp hcm.symm
          refine ⟨d0, g1, ?_⟩
          rw [e]
          refine List.mem_flatMap.mpr ⟨c', hc', ?_⟩
          rw [g2]
          exact hm
      · rintro ⟨d0, hq, h⟩
        rw [e] at h
        obtain ⟨c', hc', h⟩ := List.mem_flatMap.mp h
        cases hq2 : rs_fit r k c' d0 with
        | none => rw [hq2] at h; cases h
        | some d1 =>
          rw [hq2] at h
          have hcm := rw_cm_rr (r := r) (k := k) (f := f) (hhs c' hc') (hhs c hc) ds hd
          rw [hq] at hcm
          have hcm : (rs_fit r k c' ds).bind (rs_fit r f c) = rs_fit r k c' d0 := hcm
          rw [hq2] at hcm
          obtain ⟨ds', g1, g2⟩ := Option.bind_eq_some_iff.mp hcm
          obtain ⟨p, hp, hpc⟩ := (rw_fs_fix hhs hc rem (k + 1) ds' (rw_ps_r (hhs c' hc') ds ds' hd g1) (by omega) (by omega) d).mpr ⟨d1, g2, h⟩
          refine ⟨c' :: p, List.mem_flatMap.mpr ⟨c', hc', ?_⟩, by rw [hfk]; exact hpc⟩
          rw [g1]
          exact List.mem_map.mpr ⟨(p, d), hp, rfl⟩
/-- what doesn't agree with what is known doesn't fit -/
theorem rw_miss {r k s p o : Nat} {ds : List Nat} (hd : rt_ok ds) (hs : s < 32) (hp : p < 32) (ho : o < 32) (h : (∃ z, rt_term (rq_prem.getD (12 * r + 3 * k) 0) ds = some z ∧ z ≠ s) ∨ (∃ z, rt_term (rq_prem.getD (12 * r + 3 * k + 1) 0) ds = some z ∧ z ≠ p) ∨ (∃ z, rt_term (rq_prem.getD (12 * r + 3 * k + 2) 0) ds = some z ∧ z ≠ o)) : rs_fit r k (rx_code s p o) ds = none := by
  cases hf : rs_fit r k (rx_code s p o) ds with
  | none => rfl
  | some d =>
    obtain ⟨t1, t2, t3⟩ := rt_fit_this hd (rx_code_lt hs hp ho) (rq_prem_lt _) (rq_prem_lt _) (rq_prem_lt _) hf
    rw [rx_code_s hp ho] at t1
    rw [rx_code_p hp ho] at t2
    rw [rx_code_o ho] at t3
    rcases h with ⟨z, h1, h2⟩ | ⟨z, h1, h2⟩ | ⟨z, h1, h2⟩
    · have := rt_fit_keep hf h1
      rw [t1] at this
      cases this
      exact absurd rfl h2
    · have := rt_fit_keep hf h1
      rw [t2] at this
      cases this
      exact absurd rfl h2
    · have := rt_fit_keep hf h1
      rw [t3] at this
      cases this
      exact absurd rfl h2
/-- going through what may fit is going through all -/
theorem rw_trav {β : Type} {X : Nat → Bool} {he : sT} (hT : rx_TR X he.1 he.2.1 he.2.2.1 he.2.2.2) {r k : Nat} {ds : List Nat} (hd : rt_ok ds) (F : Nat → List β) (hF : ∀ c, rs_fit r k c ds = none → F c = []) :
    (rx_trav he.1 he.2.1 he.2.2.1 he.2.2.2 (rt_term (rq_prem.getD (12 * r + 3 * k) 0) ds) (rt_term (rq_prem.getD (12 * r + 3 * k + 1) 0) ds) (rt_term (rq_prem.getD (12 * r + 3 * k + 2) 0) ds)).flatMap F = (rx_codes X).flatMap F :=
  rx_trav_all hT (fun _ h => rt_term_lt hd h) (fun _ h => rt_term_lt hd h) (fun _ h => rt_term_lt hd h) F (fun s p o h1 h2 h3 h => hF _ (rw_miss hd h1 h2 h3 h))
theorem rx_codes_lt {X : Nat → Bool} : ∀ c ∈ rx_codes X, c < 32768 := fun c hc => (rx_codes_mem.mp hc).1
