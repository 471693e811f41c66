/-! models of the rounds, and what stays true of their states -/
theorem rj_fold_inv2 {σ α : Type} {I : σ → Prop} {f : σ → α → σ × Bool} : ∀ (l : List α) (st : σ), (∀ st c, c ∈ l → I st → I (f st c).1) → I st → I (rj_fold f st l).1
  | [], _, _, h => h
  | c :: l, st, hf, h => by
    show I (if (f st c).2 = true then f st c else rj_fold f (f st c).1 l).1
    split
    · exact hf st c List.mem_cons_self h
    · exact rj_fold_inv2 l _ (fun st c hc => hf st c (List.mem_cons_of_mem _ hc)) (hf st c List.mem_cons_self h)
theorem rj_join_inv2 {σ : Type} {I : σ → Prop} {TV : Option Nat → Option Nat → Option Nat → List Nat} {mt : List Nat → σ → σ × Bool} {ch : Nat → Nat → σ → σ} {r : Nat} {fx : Option Nat} (hTV : ∀ a b d c, c ∈ TV a b d → c < 32768) (hm : ∀ ds st, rt_ok ds → I st → I (mt ds st).1) (hc : ∀ k c st, I st → I (ch k c st)) : ∀ (rem k : Nat) (ds : List Nat) (st : σ), rt_ok ds → I st → I (rj_join TV mt ch r fx rem k ds st).1
  | 0, _, ds, st, hd, h => hm ds st hd h
  | rem + 1, k, ds, st, hd, h => by
    show I (if fx = some k then rj_join TV mt ch r fx rem (k + 1) ds st else _).1
    split
    · exact rj_join_inv2 hTV hm hc rem (k + 1) ds st hd h
    · refine rj_fold_inv2 _ _ (fun st c hcm h => ?_) h
      unfold rj_body
      split
      · exact hc k c st h
      · rename_i ds' hq
        exact rj_join_inv2 hTV hm hc rem (k + 1) _ _ (rt_fit_ok hd (hTV _ _ _ c hcm) hq) (hc k c st h)
theorem rx_trav_lt {f g h : Nat → Int32} {al : Int32} (a b d : Option Nat) (c : Nat) (hc : c ∈ rx_trav f g h al a b d) : c < 32768 := by
  unfold rx_trav at hc
  obtain ⟨s, hs, hc⟩ := List.mem_flatMap.mp hc
  obtain ⟨p, hp, hc⟩ := List.mem_flatMap.mp hc
  obtain ⟨o, ho, rfl⟩ := List.mem_map.mp hc
  exact rx_code_lt (rb_mem.mp hs).1 (rb_mem.mp hp).1 (rb_mem.mp ho).1
theorem rj_given_lt {r : Nat} {ds : List Nat} (hd : rt_ok ds) : rj_given r ds < 32768 := by
  have h : ∀ k, (rt_term k ds).getD 0 < 32 := by
    intro k
    cases hk : rt_term k ds with
    | none => decide
    | some u => exact rt_term_lt hd hk
  exact rx_code_lt (h _) (h _) (h _)
/-- the number behind an int -/
def rk_ (f : Nat → Int32) (i : Nat) : Nat := (f i).toBitVec.toNat
theorem rk_nI (f : Nat → Int32) (i : Nat) : nI (rk_ f i) = f i := (rb_of (f i)).symm
theorem rk_upd {f : Nat → Int32} {i j c : Nat} (hc : c < 4294967296) : rk_ (upd f i (nI c)) j = if j = i then c else rk_ f j := by
  unfold rk_ upd
  split
  · exact rb_tn hc
  · rfl
/-- what stays true of a state: not too many, and codes are codes -/
def rd_ok (st : sD) : Prop := st.2.2.2.2.1 ≤ 400 ∧ ∀ i, i < st.2.2.2.2.1 → rk_ st.2.2.1 i < 32768
theorem rd_ok_add {now c : Nat} {st : sD} (hc : c < 32768) (h : rd_ok st) : rd_ok (rd_add now c st) := by
  refine ⟨rd_cnt_le h.1, ?_⟩
  unfold rd_add
  split
  · exact h.2
  · split
    · exact h.2
    · intro i hi
      show rk_ (upd st.2.2.1 st.2.2.2.2.1 (nI c)) i < 32768
      rw [rk_upd (by omega)]
      split
      · exact hc
      · exact h.2 i (by have : i < st.2.2.2.2.1 + 1 := hi; omega)
theorem rd_ok_join {f g h : Nat → Int32} {al : Int32} {now r : Nat} {fx : Option Nat} (rem k : Nat) (ds : List Nat) (st : sD) (hd : rt_ok ds) (hs : rd_ok st) : rd_ok (rj_join (rx_trav f g h al) (rd_meet now r) rd_ch r fx rem k ds st).1 :=
  rj_join_inv2 (I := rd_ok) (mt := rd_meet now r) (ch := rd_ch) (fun _ _ _ _ hc => rx_trav_lt _ _ _ _ hc) (fun _ _ hd h => rd_ok_add (rj_given_lt hd) h) (fun _ _ _ h => h) rem k ds st hd hs
/-- one rule with one premise fixed -/
def rd_F (he : sT) (now c : Nat) (st : sD) (q : Nat × Nat) : sD × Bool :=
  match rt_fit (rq_prem.getD (12 * q.1 + 3 * q.2) 0) (rq_prem.getD (12 * q.1 + 3 * q.2 + 1) 0) (rq_prem.getD (12 * q.1 + 3 * q.2 + 2) 0) c rt_free with
  | none => (st, false)
  | some ds => rj_join (rx_trav he.1 he.2.1 he.2.2.1 he.2.2.2) (rd_meet now q.1) rd_ch q.1 (some q.2) (rq_cnts.getD q.1 0) 0 ds st
def rd_row (x : Int32) (r : Nat) : List (Nat × Nat) := if rb_b x r then (List.range' 0 (rq_cnts.getD r 0)).map (fun f => (r, f)) else []
def rd_apply (he : sT) (now : Nat) (x : Int32) (c : Nat) (st : sD) : sD := (rj_fold (rd_F he now c) st ((List.range' 0 21).flatMap (rd_row x))).1
theorem rj_cov_init {r f c : Nat} {ds : List Nat} (hc : c < 32768) (h : rt_fit (rq_prem.getD (12 * r + 3 * f) 0) (rq_prem.getD (12 * r + 3 * f + 1) 0) (rq_prem.getD (12 * r + 3 * f + 2) 0) c rt_free = some ds) : rj_cov r 0 (some f) ds := by
  obtain ⟨t1, t2, t3⟩ := rt_fit_this rt_free_ok hc (rq_prem_lt _) (rq_prem_lt _) (rq_prem_lt _) h
  intro j _ hj t ht
  rcases hj with hj | hj
  · exact absurd hj (Nat.not_lt_zero _)
  · cases hj
    rcases (show t = 0 ∨ t = 1 ∨ t = 2 by omega) with rfl | rfl | rfl
    · exact ⟨_, by omega, t1⟩
    · exact ⟨_, by omega, t2⟩
    · exact ⟨_, by omega, t3⟩
theorem rd_ok_F {he : sT} {now c : Nat} {st : sD} {q : Nat × Nat} (hc : c < 32768) (h : rd_ok st) : rd_ok (rd_F he now c st q).1 := by
  unfold rd_F
  split
  · exact h
  · rename_i ds hq
    exact rd_ok_join _ _ _ _ (rt_fit_ok rt_free_ok hc hq) h
theorem rd_ok_apply {he : sT} {now c : Nat} {x : Int32} {st : sD} (hc : c < 32768) (h : rd_ok st) : rd_ok (rd_apply he now x c st) :=
  rj_fold_inv2 (I := rd_ok) _ _ (fun _ _ _ h => rd_ok_F hc h) h
/-- which rules have a first premise that something can meet -/
def rd_reach (g : Nat → Int32) : Nat → Nat → Int32 → Int32
  | 0, _, m => m
  | n + 1, r, m => rd_reach g n (r + 1) (if g (rq_prem.getD (12 * r + 3 * 0 + 1) 0) = 0 then m else m ||| (nI 1) <<< (nI r &&& 31))
theorem rq_prem_p : ∀ r, r < 24 → rq_prem.getD (12 * r + 3 * 0 + 1) 0 < 32 := by decide +kernel
/-- the codes from one place to another go into the set -/
def rd_puts (f : Nat → Int32) : Nat → Nat → sT → sT
  | 0, _, x => x
  | n + 1, i, x => rd_puts f n (i + 1) (rx_put (rk_ f i) x)
def rd_all (he : sT) (now : Nat) (x : Int32) : Nat → Nat → sD → sD
  | 0, _, st => st
  | n + 1, i, st => if st.2.2.2.2.2 = true then st else rd_all he now x n (i + 1) (rd_apply he now x (rk_ st.2.2.1 i) st)
def rd_start (sc : Nat → Nat) : Nat → Nat → sD → sD
  | 0, _, st => st
  | n + 1, i, st => rd_start sc n (i + 1) (rd_add 0 (sc i) st)
/-- what a round starts from: the set of the rounds before, the state, the number of the round last begun -/
abbrev sR : Type := sT × sD × Nat
def rd_round (x : Int32) (r frm : Nat) (z : sR) : sR :=
  let he := rd_puts z.2.1.2.2.1 (z.2.1.2.2.2.2.1 - frm) frm z.1
  (he, rd_all he r (x &&& rd_reach he.2.1 21 0 (nI 0)) (z.2.1.2.2.2.2.1 - frm) frm z.2.1, r)
def rd_rounds (x : Int32) : Nat → Nat → Nat → sR → sR
  | 0, _, _, z => z
  | n + 1, r, frm, z => if frm < z.2.1.2.2.2.2.1 ∧ z.2.1.2.2.2.2.2 = false then rd_rounds x n (r + 1) z.2.1.2.2.2.2.1 (rd_round x r frm z) else z
def rx_zero : sT := (fun _ => nI 0, fun _ => nI 0, fun _ => nI 0, nI 0)
def rd_derive (sc : Nat → Nat) (n : Nat) (x : Int32) (st : sD) : sR := rd_rounds x 400 1 0 (rx_zero, rd_start sc n 0 (st.1, rx_zero, st.2.2.1, st.2.2.2.1, 0, false), 0)
theorem rd_ok_start {sc : Nat → Nat} : ∀ (n i : Nat) (st : sD), (∀ j, j < i + n → sc j < 32768) → rd_ok st → rd_ok (rd_start sc n i st)
  | 0, _, _, _, h => h
  | n + 1, i, st, hs, h => rd_ok_start n (i + 1) _ (fun j hj => hs j (by omega)) (rd_ok_add (hs i (by omega)) h)
theorem rd_add_mono {now c : Nat} {st : sD} : st.2.2.2.2.1 ≤ (rd_add now c st).2.2.2.2.1 ∧ ∀ i, i < st.2.2.2.2.1 → (rd_add now c st).2.2.1 i = st.2.2.1 i := by
  unfold rd_add
  split
  · exact ⟨Nat.le_refl _, fun _ _ => rfl⟩
  · split
    · exact ⟨Nat.le_refl _, fun _ _ => rfl⟩
    · refine ⟨Nat.le_succ _, fun i hi => ?_⟩
      show upd st.2.2.1 st.2.2.2.2.1 (nI c) i = st.2.2.1 i
      unfold upd
      rw [if_neg (by omega)]
/-- a later state: no fewer, the old codes stand -/
def rd_le (a b : sD) : Prop := a.2.2.2.2.1 ≤ b.2.2.2.2.1 ∧ ∀ i, i < a.2.2.2.2.1 → b.2.2.1 i = a.2.2.1 i
theorem rd_le_refl (a : sD) : rd_le a a := ⟨Nat.le_refl _, fun _ _ => rfl⟩
theorem rd_le_trans {a b c : sD} (h1 : rd_le a b) (h2 : rd_le b c) : rd_le a c := ⟨Nat.le_trans h1.1 h2.1, fun i hi => (h2.2 i (by have := h1.1; omega)).trans (h1.2 i hi)⟩
theorem rd_le_join {TV : Option Nat → Option Nat → Option Nat → List Nat} {now r : Nat} {fx : Option Nat} (rem k : Nat) (ds : List Nat) (st : sD) : rd_le st (rj_join TV (rd_meet now r) rd_ch r fx rem k ds st).1 :=
  rj_join_inv (I := fun b => rd_le st b) (mt := rd_meet now r) (ch := rd_ch) (fun _ _ h => rd_le_trans h rd_add_mono) (fun _ _ _ h => h) rem k ds st (rd_le_refl st)
theorem rd_le_apply {he : sT} {now c : Nat} {x : Int32} {st : sD} : rd_le st (rd_apply he now x c st) :=
  rj_fold_inv (I := fun b => rd_le st b) (fun st2 q h => by
    unfold rd_F
    split
    · exact h
    · exact rd_le_trans h (rd_le_join _ _ _ _)) _ _ (rd_le_refl st)
theorem rd_ok_all {he : sT} {now : Nat} {x : Int32} : ∀ (n i : Nat) (st : sD), i + n ≤ st.2.2.2.2.1 → rd_ok st → rd_ok (rd_all he now x n i st)
  | 0, _, _, _, h => h
  | n + 1, i, st, hi, h => by
    show rd_ok (if st.2.2.2.2.2 = true then st else rd_all he now x n (i + 1) (rd_apply he now x (rk_ st.2.2.1 i) st))
    split
    · exact h
    · have hl := rd_le_apply (he := he) (now := now) (x := x) (c := rk_ st.2.2.1 i) (st := st)
      exact rd_ok_all n (i + 1) _ (by have := hl.1; omega) (rd_ok_apply (h.2 i (by omega)) h)
theorem rd_le_all {he : sT} {now : Nat} {x : Int32} : ∀ (n i : Nat) (st : sD), rd_le st (rd_all he now x n i st)
  | 0, _, st => rd_le_refl st
  | n + 1, i, st => by
    show rd_le st (if st.2.2.2.2.2 = true then st else rd_all he now x n (i + 1) (rd_apply he now x (rk_ st.2.2.1 i) st))
    split
    · exact rd_le_refl st
    · exact rd_le_trans rd_le_apply (rd_le_all n (i + 1) _)
theorem rd_ok_rounds {x : Int32} : ∀ (n r frm : Nat) (z : sR), frm ≤ z.2.1.2.2.2.2.1 → rd_ok z.2.1 → rd_ok (rd_rounds x n r frm z).2.1
  | 0, _, _, _, _, h => h
  | n + 1, r, frm, z, hf, h => by
    show rd_ok (if frm < z.2.1.2.2.2.2.1 ∧ z.2.1.2.2.2.2.2 = false then rd_rounds x n (r + 1) z.2.1.2.2.2.2.1 (rd_round x r frm z) else z).2.1
    split
    · exact rd_ok_rounds n (r + 1) _ _ (rd_le_all _ _ _).1 (rd_ok_all _ _ _ (by omega) h)
    · exact h
theorem rd_ok_derive {sc : Nat → Nat} {n : Nat} {x : Int32} {st : sD} (hs : ∀ j, j < n → sc j < 32768) : rd_ok (rd_derive sc n x st).2.1 :=
  rd_ok_rounds _ _ _ _ (Nat.zero_le _) (rd_ok_start n 0 _ (fun j hj => hs j (by omega)) ⟨Nat.zero_le _, fun i hi => absurd hi (Nat.not_lt_zero _)⟩)
/-! the seeker's -/
def rs_F (he : sT) (wt : Int32) (c : Nat) (st : sS) (r : Nat) : sS × Bool :=
  match rt_fit (rq_given.getD (3 * r) 0) (rq_given.getD (3 * r + 1) 0) (rq_given.getD (3 * r + 2) 0) c rt_free with
  | none => (st, false)
  | some ds => rj_join (rx_trav he.1 he.2.1 he.2.2.1 he.2.2.2) (rs_meet wt r) rs_ch r none (rq_cnts.getD r 0) 0 ds st
def rs_G (he : sT) (wt : Int32) (c : Nat) (x : Int32) (st : sS) (r : Nat) : sS × Bool := if rb_b x r then rs_F he wt c st r else (st, false)
def rs_way (he : sT) (wt : Int32) (c : Nat) (x : Int32) (st : sS) : sS × Bool := rj_fold (rs_G he wt c x) (st.1, nI 0, st.2.2) (List.range' 0 21)
def rs_K (he : sT) (wt : Int32) (st : sS) (k : Nat) : sS × Bool := rj_join (rx_trav he.1 he.2.1 he.2.2.1 he.2.2.2) (rs_meet wt (21 + k)) rs_ch (21 + k) none (rq_cnts.getD (21 + k) 0) 0 rt_free st
def rs_clash (he : sT) (wt : Int32) (st : sS) : sS × Bool := rj_fold (rs_K he wt) (st.1, nI 0, st.2.2) (List.range' 0 3)
