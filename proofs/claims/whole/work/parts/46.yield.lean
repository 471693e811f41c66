/-! the reference's search goes through the solutions, one a call -/
def ms_ (hl : Nat → Nat) (mn r : Nat) : Nat → Nat → Nat → Nat → List Nat × (Nat → Nat) → List (List Nat × List Nat)
  | 0, l, i, n, E => (List.range' i n).flatMap (fun j => if (mi_fits r l (hl j) E.1 E.2).2 = true then [([hl j], (mi_fits r l (hl j) E.1 E.2).1.1)] else [])
  | rem + 1, l, i, n, E => (List.range' i n).flatMap (fun j => if (mi_fits r l (hl j) E.1 E.2).2 = true then (ms_ hl mn r rem (l + 1) 0 mn (mi_fits r l (hl j) E.1 E.2).1).map (fun q => (hl j :: q.1, q.2)) else [])
def mp_ (hl a : Nat → Nat) (l m : Nat) : List Nat := (List.range' l m).map (fun j => hl (a j - 1))
def my_ (hl : Nat → Nat) (mn r l : Nat) (E : List Nat × (Nat → Nat)) : List (List Nat × List Nat) → sQ → Prop
  | [], st => ∃ (k : Nat) (a' : Nat → Nat), (∀ j, j < l → a' j = st.1 j) ∧ ∀ n res, mn_ hl mn r n (a', E.1, E.2, l) = some res → mn_ hl mn r (n + k) st = some res
  | q :: L, st => ∃ (k : Nat) (st' : sQ), mn_ hl mn r k st = some (st', true) ∧ (∀ j, j < l → st'.1 j = st.1 j) ∧ mp_ hl st'.1 l (rq_cnts.getD r 0 - l) = q.1 ∧ st'.2.1 = q.2 ∧ my_ hl mn r l E L st'
theorem my_reach {hl : Nat → Nat} {mn r l k : Nat} {E : List Nat × (Nat → Nat)} {L : List (List Nat × List Nat)} {st st1 : sQ} (hs : ∀ n res, mn_ hl mn r n st1 = some res → mn_ hl mn r (n + k) st = some res) (ha : ∀ j, j < l → st1.1 j = st.1 j) (h : my_ hl mn r l E L st1) : my_ hl mn r l E L st := by
  cases L with
  | nil =>
    obtain ⟨k1, a', h1, h2⟩ := h
    refine ⟨k1 + k, a', fun j hj => (h1 j hj).trans (ha j hj), fun n res hn => ?_⟩
    have := hs _ _ (h2 n res hn)
    rw [Nat.add_assoc] at this
    exact this
  | cons q L =>
    obtain ⟨k1, st', h1, h2, h3⟩ := h
    exact ⟨k1 + k, st', hs _ _ h1, fun j hj => (h2 j hj).trans (ha j hj), h3⟩
theorem my_seq {hl : Nat → Nat} {mn r l : Nat} {E E' : List Nat × (Nat → Nat)} {L3 : List (List Nat × List Nat)} (hlc : l + 1 ≤ rq_cnts.getD r 0) : ∀ (L2 : List (List Nat × List Nat)) (st2 : sQ), my_ hl mn r (l + 1) E' L2 st2 → (∀ a' : Nat → Nat, (∀ j, j < l + 1 → a' j = st2.1 j) → my_ hl mn r l E L3 (a', E'.1, E'.2, l + 1)) → my_ hl mn r l E (L2.map (fun q => (hl (st2.1 l - 1) :: q.1, q.2)) ++ L3) st2
  | [], st2, h, hk => by
    obtain ⟨k, a', h1, h2⟩ := h
    exact my_reach (k := k) h2 (fun j hj => h1 j (by omega)) (hk a' h1)
  | q :: L2, st2, h, hk => by
    obtain ⟨k, st', h1, h2, h3, h4, h5⟩ := h
    have e : st'.1 l = st2.1 l := h2 l (Nat.lt_succ_self l)
    refine ⟨k, st', h1, fun j hj => h2 j (by omega), ?_, h4, ?_⟩
    · show mp_ hl st'.1 l (rq_cnts.getD r 0 - l) = hl (st2.1 l - 1) :: q.1
      rw [← h3, ← e]
      unfold mp_
      rw [show rq_cnts.getD r 0 - l = (rq_cnts.getD r 0 - (l + 1)) + 1 by omega, List.range'_succ]
      rfl
    · have := my_seq hlc L2 st' h5 (fun a' ha' => hk a' (fun j hj => (ha' j hj).trans (h2 j hj)))
      rw [e] at this
      exact this
theorem ua_self {α : Type} (f : Nat → α) (k : Nat) (v : α) : ua f k v k = v := by
  unfold ua
  rw [if_pos rfl]
theorem ua_ne {α : Type} (f : Nat → α) {k j : Nat} (v : α) (h : j ≠ k) : ua f k v j = f j := by
  unfold ua
  rw [if_neg h]
theorem my_main {hl : Nat → Nat} {mn r : Nat} (hhl : ∀ j, j < mn → hl j < 32768) : ∀ (rem l : Nat) (E : List Nat × (Nat → Nat)), l + 1 + rem = rq_cnts.getD r 0 → rt_ok E.1 → mb_ok E.2 → (∀ q, 3 * l ≤ q → E.2 q = 0) →
    ∀ (n i : Nat) (a : Nat → Nat) (ds : List Nat) (bd : Nat → Nat), i + n = mn → a l = i → mi_rel 3 (3 * l) (ds, bd) = E → my_ hl mn r l E (ms_ hl mn r rem l i n E) (a, ds, bd, l + 1) := by
  intro rem
  induction rem with
  | zero =>
    intro l E hl0 h1 h2 h3 n
    induction n with
    | zero =>
      intro i a ds bd hi ha hE
      refine ⟨1, ua a l (a l + 1), fun j hj => ua_ne _ _ (by omega), fun n res hn => ?_⟩
      rw [mn_s, if_pos (by omega), hE]
      exact hn
    | succ n ih =>
      intro i a ds bd hi ha hE
      have hc := hhl i (by omega)
      have hb := mr_back (r := r) (l := l) h1 h2 hc h3
      show my_ hl mn r l E ((List.range' i (n + 1)).flatMap _) _
      rw [List.range'_succ, List.flatMap_cons]
      by_cases hf : (mi_fits r l (hl i) E.1 E.2).2 = true
      · rw [if_pos hf]
        refine ⟨1, (ua a l (a l + 1), (mi_fits r l (hl i) E.1 E.2).1.1, (mi_fits r l (hl i) E.1 E.2).1.2, l + 1), ?_, fun j hj => ua_ne _ _ (by omega), ?_, rfl, ?_⟩
        · rw [mn_s, if_neg (by omega), hE, ha, if_pos hf, if_pos (by omega)]
        · show mp_ hl (ua a l (a l + 1)) l (rq_cnts.getD r 0 - l) = [hl i]
          rw [show rq_cnts.getD r 0 - l = 1 by omega]
          show [hl (ua a l (a l + 1) l - 1)] = [hl i]
          rw [ua_self, ha]
          rfl
        · exact ih (i + 1) _ _ _ (by omega) (by rw [ua_self, ha]) hb
      · rw [if_neg hf]
        refine my_reach (k := 1) (st1 := (ua a l (a l + 1), (mi_fits r l (hl i) E.1 E.2).1.1, (mi_fits r l (hl i) E.1 E.2).1.2, l + 1)) (fun n' res hn => ?_) (fun j hj => ua_ne _ _ (by omega)) (ih (i + 1) _ _ _ (by omega) (by rw [ua_self, ha]) hb)
        rw [mn_s, if_neg (by omega), hE, ha, if_neg hf]
        rw [ha] at hn
        exact hn
  | succ rem ihr =>
    intro l E hl0 h1 h2 h3 n
    induction n with
    | zero =>
      intro i a ds bd hi ha hE
      refine ⟨1, ua a l (a l + 1), fun j hj => ua_ne _ _ (by omega), fun n res hn => ?_⟩
      rw [mn_s, if_pos (by omega), hE]
      exact hn
    | succ n ih =>
      intro i a ds bd hi ha hE
      have hc := hhl i (by omega)
      have hb := mr_back (r := r) (l := l) h1 h2 hc h3
      have ho := mi_fits_ok (r := r) (l := l) hc h1 h2
      have hh := mr_high (r := r) (c := hl i) h1 h3
      show my_ hl mn r l E ((List.range' i (n + 1)).flatMap _) _
      rw [List.range'_succ, List.flatMap_cons]
      by_cases hf : (mi_fits r l (hl i) E.1 E.2).2 = true
      · rw [if_pos hf]
        refine my_reach (k := 1) (st1 := (ua (ua a l (a l + 1)) (l + 1) 0, (mi_fits r l (hl i) E.1 E.2).1.1, (mi_fits r l (hl i) E.1 E.2).1.2, l + 2)) (fun n' res hn => ?_) (fun j hj => by show ua (ua a l (a l + 1)) (l + 1) 0 j = a j; rw [ua_ne _ _ (by omega), ua_ne _ _ (by omega)]) ?_
        · rw [mn_s, if_neg (by omega), hE, ha, if_pos hf, if_neg (by omega)]
          rw [ha] at hn
          exact hn
        · have e : hl i = hl ((ua (ua a l (a l + 1)) (l + 1) 0) l - 1) := by
            rw [ua_ne _ _ (by omega), ua_self, ha]
            rfl
          have key := my_seq (hl := hl) (mn := mn) (r := r) (l := l) (E := E) (E' := (mi_fits r l (hl i) E.1 E.2).1) (L3 := (List.range' (i + 1) n).flatMap (fun j => if (mi_fits r l (hl j) E.1 E.2).2 = true then (ms_ hl mn r rem (l + 1) 0 mn (mi_fits r l (hl j) E.1 E.2).1).map (fun q => (hl j :: q.1, q.2)) else [])) (by omega) (ms_ hl mn r rem (l + 1) 0 mn (mi_fits r l (hl i) E.1 E.2).1) (ua (ua a l (a l + 1)) (l + 1) 0, (mi_fits r l (hl i) E.1 E.2).1.1, (mi_fits r l (hl i) E.1 E.2).1.2, l + 2)
            (ihr (l + 1) _ (by omega) ho.1 ho.2 hh mn 0 _ _ _ (by omega) (ua_self _ _ _) (mr_none ho.1 ho.2 hh))
            (fun a' ha' => ih (i + 1) a' _ _ (by omega) (by
              have := ha' l (Nat.lt_succ_self l)
              rw [this]
              show ua (ua a l (a l + 1)) (l + 1) 0 l = i + 1
              rw [ua_ne _ _ (by omega), ua_self, ha]) hb)
          have key2 : my_ hl mn r l E ((ms_ hl mn r rem (l + 1) 0 mn (mi_fits r l (hl i) E.1 E.2).1).map (fun q => (hl ((ua (ua a l (a l + 1)) (l + 1) 0) l - 1) :: q.1, q.2)) ++ (List.range' (i + 1) n).flatMap (fun j => if (mi_fits r l (hl j) E.1 E.2).2 = true then (ms_ hl mn r rem (l + 1) 0 mn (mi_fits r l (hl j) E.1 E.2).1).map (fun q => (hl j :: q.1, q.2)) else [])) (ua (ua a l (a l + 1)) (l + 1) 0, (mi_fits r l (hl i) E.1 E.2).1.1, (mi_fits r l (hl i) E.1 E.2).1.2, l + 2) := key
          rw [← e] at key2
          exact key2
      · rw [if_neg hf]
        refine my_reach (k := 1) (st1 := (ua a l (a l + 1), (mi_fits r l (hl i) E.1 E.2).1.1, (mi_fits r l (hl i) E.1 E.2).1.2, l + 1)) (fun n' res hn => ?_) (fun j hj => ua_ne _ _ (by omega)) (ih (i + 1) _ _ _ (by omega) (by rw [ua_self, ha]) hb)
        rw [mn_s, if_neg (by omega), hE, ha, if_neg hf]
        rw [ha] at hn
        exact hn
/-- a search whose calls bring these, one after the other, and then no more -/
def mz_ (hl : Nat → Nat) (mn r : Nat) : List (List Nat × List Nat) → sQ → Prop
  | [], st => mq_ok mn r st ∧ ∃ (k : Nat) (st' : sQ), mn_ hl mn r k st = some (st', false)
  | q :: L, st => mq_ok mn r st ∧ ∃ (k : Nat) (st' : sQ), mn_ hl mn r k st = some (st', true) ∧ mp_ hl st'.1 0 (rq_cnts.getD r 0) = q.1 ∧ st'.2.1 = q.2 ∧ mz_ hl mn r L st'
theorem mn_ok {hl : Nat → Nat} {mn r : Nat} (hhl : ∀ j, j < mn → hl j < 32768) : ∀ (n : Nat) (st st' : sQ) (b : Bool), mq_ok mn r st → mn_ hl mn r n st = some (st', b) → mq_ok mn r st'
  | 0, _, _, _, _, h => by cases h
  | n + 1, (a, ds, bd, 0), st', b, hok, h => by
    rw [mn_z] at h
    cases h
    exact hok
  | n + 1, (a, ds, bd, l + 1), st', b, hok, h => by
    rw [mn_s] at h
    have hro := mi_rel_ok 3 (3 * l) (ds, bd) hok.1 hok.2.1
    have hal : a l ≤ mn := hok.2.2.2 l (Nat.lt_succ_self l)
    generalize mi_rel 3 (3 * l) (ds, bd) = y at h hro
    by_cases h1 : a l = mn
    · rw [if_pos h1] at h
      exact mn_ok hhl n _ _ _ (mq_pop hok hro.1 hro.2) h
    · rw [if_neg h1] at h
      have hfo := mi_fits_ok (r := r) (l := l) (hhl (a l) (by omega)) hro.1 hro.2
      generalize mi_fits r l (hl (a l)) y.1 y.2 = f at h hfo
      by_cases h2 : f.2 = true
      · rw [if_pos h2] at h
        by_cases h3 : l + 1 = rq_cnts.getD r 0
        · rw [if_pos h3] at h
          cases h
          exact mq_fail hok h1 hfo.1 hfo.2
        · rw [if_neg h3] at h
          exact mn_ok hhl n _ _ _ (mq_down hok h1 h3 hfo.1 hfo.2) h
      · rw [if_neg h2] at h
        exact mn_ok hhl n _ _ _ (mq_fail hok h1 hfo.1 hfo.2) h
theorem mz_of {hl : Nat → Nat} {mn r : Nat} {E : List Nat × (Nat → Nat)} (hhl : ∀ j, j < mn → hl j < 32768) : ∀ (L : List (List Nat × List Nat)) (st : sQ), mq_ok mn r st → my_ hl mn r 0 E L st → mz_ hl mn r L st
  | [], st, hok, h => by
    obtain ⟨k, a', h1, h2⟩ := h
    exact ⟨hok, 1 + k, _, h2 1 _ mn_z⟩
  | q :: L, st, hok, h => by
    obtain ⟨k, st', h1, h2, h3, h4, h5⟩ := h
    exact ⟨hok, k, st', h1, h3, h4, mz_of hhl L st' (mn_ok hhl k _ _ _ hok h1) h5⟩
/-- all ways to meet the premises of a rule, from one on -/
def rv_sol (hs : List Nat) (r : Nat) : Nat → Nat → List Nat → List (List Nat × List Nat)
  | 0, _, ds => [([], ds)]
  | rem + 1, k, ds => hs.flatMap (fun c => match rs_fit r k c ds with
    | none => []
    | some ds' => (rv_sol hs r rem (k + 1) ds').map (fun q => (c :: q.1, q.2)))
theorem ms_sol {hl : Nat → Nat} {mn r : Nat} (hhl : ∀ j, j < mn → hl j < 32768) : ∀ (rem l : Nat) (E : List Nat × (Nat → Nat)), rt_ok E.1 → mb_ok E.2 → ms_ hl mn r rem l 0 mn E = rv_sol ((List.range' 0 mn).map hl) r (rem + 1) l E.1 := by
  intro rem
  induction rem with
  | zero =>
    intro l E h1 h2
    show (List.range' 0 mn).flatMap _ = ((List.range' 0 mn).map hl).flatMap _
    rw [List.flatMap_map]
    apply ry_congr
    intro j hj
    have hj' : j < mn := by
      obtain ⟨i, hi, e⟩ := List.mem_range'.mp hj
      omega
    rcases mi_fits_b (r := r) (l := l) (bd := E.2) h1 (hhl j hj') with ⟨e1, e2⟩ | ⟨e1, e2⟩
    · rw [e1, if_neg (by rw [e2]; simp)]
    · rw [e1, if_pos e2]
      rfl
  | succ rem ih =>
    intro l E h1 h2
    show (List.range' 0 mn).flatMap _ = ((List.range' 0 mn).map hl).flatMap _
    rw [List.flatMap_map]
    apply ry_congr
    intro j hj
    have hj' : j < mn := by
      obtain ⟨i, hi, e⟩ := List.mem_range'.mp hj
      omega
    have ho := mi_fits_ok (r := r) (l := l) (hhl j hj') h1 h2
    rcases mi_fits_b (r := r) (l := l) (bd := E.2) h1 (hhl j hj') with ⟨e1, e2⟩ | ⟨e1, e2⟩
    · rw [e1, if_neg (by rw [e2]; simp)]
    · rw [e1, if_pos e2, ih (l + 1) _ ho.1 ho.2]
/-- behind begin(r) -/
theorem mz_begin {hl : Nat → Nat} {mn r : Nat} (hhl : ∀ j, j < mn → hl j < 32768) (hr : r < 24) (a : Nat → Nat) : mz_ hl mn r (rv_sol ((List.range' 0 mn).map hl) r (rq_cnts.getD r 0) 0 rt_free) (ua a 0 0, rt_free, fun _ => 0, 1) := by
  have hc := rq_cnts_le r hr
  have hb : mb_ok (fun _ => 0) := fun _ => Or.inl rfl
  obtain ⟨m, hm⟩ : ∃ m, rq_cnts.getD r 0 = m + 1 := ⟨rq_cnts.getD r 0 - 1, by omega⟩
  have e := ms_sol (r := r) hhl m 0 (rt_free, fun _ => 0) rt_free_ok hb
  rw [hm, ← e]
  refine mz_of hhl _ _ ⟨rt_free_ok, hb, by show 1 ≤ _; omega, fun j hj => ?_⟩ (my_main hhl m 0 (rt_free, fun _ => 0) (by omega) rt_free_ok hb (fun _ _ => rfl) mn 0 _ _ _ (by omega) (ua_self _ _ _) (mr_none rt_free_ok hb (fun _ _ => rfl)))
  have hj : j < 1 := hj
  obtain rfl : j = 0 := by omega
  show ua a 0 0 0 ≤ mn
  rw [ua_self]
  exact Nat.zero_le _
