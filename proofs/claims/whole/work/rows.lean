section
-- ===== PART A: goes FIRST, ahead of the names: the tables' words, and 'selects' of the private methods out of them =====
/-- a private method of a class that the tables say can be made, by its rows of tables_1 -/
def lw_okq (q : MethodName × Nat) : Prop := (q.1.cls ≠ "java/lang/invoke/MethodHandle" ∧ q.1.cls ≠ "java/lang/invoke/VarHandle") ∧ Cond.instantiable q.1.cls q.2 ∈ tables_1 ∧ Cond.privateMethod q.1 ∈ tables_1 ∧ Cond.instanceMethod q.1 ∈ tables_1
theorem lw_p0 : lw_okq (⟨"RlRounds", "placeOfSaid", "(I)I"⟩, 7) := ⟨⟨by decide +kernel, by decide +kernel⟩, List.mem_of_getElem? (i := 13) (by decide +kernel), List.mem_of_getElem? (i := 138) (by decide +kernel), List.mem_of_getElem? (i := 139) (by decide +kernel)⟩
theorem lw_p1 : lw_okq (⟨"RlRounds", "isTooLarge", "()Z"⟩, 7) := ⟨⟨by decide +kernel, by decide +kernel⟩, List.mem_of_getElem? (i := 13) (by decide +kernel), List.mem_of_getElem? (i := 157) (by decide +kernel), List.mem_of_getElem? (i := 158) (by decide +kernel)⟩
theorem lw_p2 : lw_okq (⟨"RlRounds$Deriver", "add", "(I)V"⟩, 8) := ⟨⟨by decide +kernel, by decide +kernel⟩, List.mem_of_getElem? (i := 42) (by decide +kernel), List.mem_of_getElem? (i := 172) (by decide +kernel), List.mem_of_getElem? (i := 173) (by decide +kernel)⟩
theorem lw_p3 : lw_okq (⟨"RlRounds$Deriver", "rulesInReach", "()I"⟩, 8) := ⟨⟨by decide +kernel, by decide +kernel⟩, List.mem_of_getElem? (i := 42) (by decide +kernel), List.mem_of_getElem? (i := 185) (by decide +kernel), List.mem_of_getElem? (i := 186) (by decide +kernel)⟩
theorem lw_p4 : lw_okq (⟨"RlRounds$Deriver", "applyRules", "(II)V"⟩, 8) := ⟨⟨by decide +kernel, by decide +kernel⟩, List.mem_of_getElem? (i := 42) (by decide +kernel), List.mem_of_getElem? (i := 199) (by decide +kernel), List.mem_of_getElem? (i := 200) (by decide +kernel)⟩
theorem lw_p5 : lw_okq (⟨"RlRoundsModel", "make", "()V"⟩, 15) := ⟨⟨by decide +kernel, by decide +kernel⟩, List.mem_of_getElem? (i := 361) (by decide +kernel), List.mem_of_getElem? (i := 440) (by decide +kernel), List.mem_of_getElem? (i := 441) (by decide +kernel)⟩
theorem lw_p6 : lw_okq (⟨"RlRoundsModel", "collect", "()V"⟩, 15) := ⟨⟨by decide +kernel, by decide +kernel⟩, List.mem_of_getElem? (i := 361) (by decide +kernel), List.mem_of_getElem? (i := 444) (by decide +kernel), List.mem_of_getElem? (i := 445) (by decide +kernel)⟩
theorem lw_p7 : lw_okq (⟨"RlRoundsModel", "begin", "(I)V"⟩, 15) := ⟨⟨by decide +kernel, by decide +kernel⟩, List.mem_of_getElem? (i := 361) (by decide +kernel), List.mem_of_getElem? (i := 448) (by decide +kernel), List.mem_of_getElem? (i := 449) (by decide +kernel)⟩
theorem lw_p8 : lw_okq (⟨"RlRoundsModel", "next", "()Z"⟩, 15) := ⟨⟨by decide +kernel, by decide +kernel⟩, List.mem_of_getElem? (i := 361) (by decide +kernel), List.mem_of_getElem? (i := 452) (by decide +kernel), List.mem_of_getElem? (i := 453) (by decide +kernel)⟩
theorem lw_p9 : lw_okq (⟨"RlRoundsModel", "release", "()V"⟩, 15) := ⟨⟨by decide +kernel, by decide +kernel⟩, List.mem_of_getElem? (i := 361) (by decide +kernel), List.mem_of_getElem? (i := 508) (by decide +kernel), List.mem_of_getElem? (i := 509) (by decide +kernel)⟩
theorem lw_p10 : lw_okq (⟨"RlRoundsModel", "fits", "(I)Z"⟩, 15) := ⟨⟨by decide +kernel, by decide +kernel⟩, List.mem_of_getElem? (i := 361) (by decide +kernel), List.mem_of_getElem? (i := 512) (by decide +kernel), List.mem_of_getElem? (i := 513) (by decide +kernel)⟩
theorem lw_p11 : lw_okq (⟨"RlRoundsModel", "fitsItem", "(III)Z"⟩, 15) := ⟨⟨by decide +kernel, by decide +kernel⟩, List.mem_of_getElem? (i := 361) (by decide +kernel), List.mem_of_getElem? (i := 516) (by decide +kernel), List.mem_of_getElem? (i := 517) (by decide +kernel)⟩
theorem lw_p12 : lw_okq (⟨"RlRoundsModel", "given", "()I"⟩, 15) := ⟨⟨by decide +kernel, by decide +kernel⟩, List.mem_of_getElem? (i := 361) (by decide +kernel), List.mem_of_getElem? (i := 520) (by decide +kernel), List.mem_of_getElem? (i := 521) (by decide +kernel)⟩
theorem lw_p13 : lw_okq (⟨"RlRoundsModel", "termOf", "(I)I"⟩, 15) := ⟨⟨by decide +kernel, by decide +kernel⟩, List.mem_of_getElem? (i := 361) (by decide +kernel), List.mem_of_getElem? (i := 524) (by decide +kernel), List.mem_of_getElem? (i := 525) (by decide +kernel)⟩
theorem lw_p14 : lw_okq (⟨"RlRoundsModel", "premise", "(I)I"⟩, 15) := ⟨⟨by decide +kernel, by decide +kernel⟩, List.mem_of_getElem? (i := 361) (by decide +kernel), List.mem_of_getElem? (i := 548) (by decide +kernel), List.mem_of_getElem? (i := 549) (by decide +kernel)⟩
def lw_privs_1 : List (MethodName × Nat) := [(⟨"RlRounds", "placeOfSaid", "(I)I"⟩, 7), (⟨"RlRounds", "isTooLarge", "()Z"⟩, 7), (⟨"RlRounds$Deriver", "add", "(I)V"⟩, 8), (⟨"RlRounds$Deriver", "rulesInReach", "()I"⟩, 8), (⟨"RlRounds$Deriver", "applyRules", "(II)V"⟩, 8), (⟨"RlRoundsModel", "make", "()V"⟩, 15), (⟨"RlRoundsModel", "collect", "()V"⟩, 15), (⟨"RlRoundsModel", "begin", "(I)V"⟩, 15), (⟨"RlRoundsModel", "next", "()Z"⟩, 15), (⟨"RlRoundsModel", "release", "()V"⟩, 15), (⟨"RlRoundsModel", "fits", "(I)Z"⟩, 15), (⟨"RlRoundsModel", "fitsItem", "(III)Z"⟩, 15), (⟨"RlRoundsModel", "given", "()I"⟩, 15), (⟨"RlRoundsModel", "termOf", "(I)I"⟩, 15), (⟨"RlRoundsModel", "premise", "(I)I"⟩, 15)]
theorem lw_r1 : ∀ q ∈ lw_privs_1, lw_okq q := List.forall_mem_cons.mpr ⟨lw_p0, List.forall_mem_cons.mpr ⟨lw_p1, List.forall_mem_cons.mpr ⟨lw_p2, List.forall_mem_cons.mpr ⟨lw_p3, List.forall_mem_cons.mpr ⟨lw_p4, List.forall_mem_cons.mpr ⟨lw_p5, List.forall_mem_cons.mpr ⟨lw_p6, List.forall_mem_cons.mpr ⟨lw_p7, List.forall_mem_cons.mpr ⟨lw_p8, List.forall_mem_cons.mpr ⟨lw_p9, List.forall_mem_cons.mpr ⟨lw_p10, List.forall_mem_cons.mpr ⟨lw_p11, List.forall_mem_cons.mpr ⟨lw_p12, List.forall_mem_cons.mpr ⟨lw_p13, List.forall_mem_cons.mpr ⟨lw_p14, fun _ h => absurd h List.not_mem_nil⟩⟩⟩⟩⟩⟩⟩⟩⟩⟩⟩⟩⟩⟩⟩
def lw_privs : List (MethodName × Nat) := lw_privs_1
def lw_tbl : List Cond := k2_sels lw_privs ++ tables_1
theorem lw_privs_ok : ∀ q ∈ lw_privs, lw_okq q := lw_r1

/-! the tables' words that go with every call; what a method needs of them -/
def rg_tbl : List Cond := lw_tbl.filter goodWord
abbrev w_ (y : MethodName) (b : ByteArray) (n : Nat) (r : Option FieldType) : List Cond := .code y b n r :: rg_tbl
theorem rg_ok {w : Cond} (h : w ∈ rg_tbl) : (w.onTables && w.keeps) = true ∨ ∃ ty, w = .arrayClass ty := good_of_word (List.mem_filter.mp h).2
theorem rg_G {c0 : Cond} {y : MethodName} {b : ByteArray} {n : Nat} {r : Option FieldType} (hk : Cond.code y b n r ∈ rg_tbl) : GoodIn (c0 :: rg_tbl) (w_ y b n r) := by
  intro w hw
  rcases List.mem_cons.mp hw with rfl | hw
  · exact ⟨List.mem_cons_of_mem _ hk, rg_ok hk⟩
  · exact ⟨List.mem_cons_of_mem _ hw, rg_ok hw⟩
theorem rg_S {c0 : Cond} {own : String} {idx : Nat} {y : MethodName} {b : ByteArray} {n : Nat} {r : Option FieldType} (h : ∀ w ∈ ([.methodLink own idx y, .static y, .initialized y.cls] : List Cond), w ∈ rg_tbl) (hk : Cond.code y b n r ∈ rg_tbl) : GoodIn (c0 :: rg_tbl) (va_wsS own idx y (w_ y b n r)) := by
  intro w hw
  unfold va_wsS at hw
  rcases List.mem_append.mp hw with hw | hw
  · exact ⟨List.mem_cons_of_mem _ (h w hw), rg_ok (h w hw)⟩
  · exact rg_G hk w hw
theorem rg_V {c0 : Cond} {own C : String} {idx : Nat} {y : MethodName} {b : ByteArray} {n : Nat} {r : Option FieldType} (h : ∀ w ∈ ([.methodLink own idx y, .instanceMethod y, .selects C y y, .initialized C] : List Cond), w ∈ rg_tbl) (hk : Cond.code y b n r ∈ rg_tbl) : GoodIn (c0 :: rg_tbl) (wsV own idx C y (w_ y b n r)) := by
  intro w hw
  unfold wsV at hw
  rcases List.mem_append.mp hw with hw | hw
  · exact ⟨List.mem_cons_of_mem _ (h w hw), rg_ok (h w hw)⟩
  · exact rg_G hk w hw
theorem rg_U {c0 : Cond} {own C owner : String} {idx : Nat} {x y : MethodName} {b : ByteArray} {n : Nat} {r : Option FieldType} (h : ∀ w ∈ ([.methodLink own idx x, .sameMethod x.cls owner x.name x.desc, .selects C x y, .instanceMethod y, .initialized y.cls] : List Cond), w ∈ rg_tbl) (hk : Cond.code y b n r ∈ rg_tbl) : GoodIn (c0 :: rg_tbl) (va_wsU own idx C owner x y (w_ y b n r)) := by
  intro w hw
  unfold va_wsU at hw
  rcases List.mem_append.mp hw with hw | hw
  · exact ⟨List.mem_cons_of_mem _ (h w hw), rg_ok (h w hw)⟩
  · exact rg_G hk w hw
theorem rg_c {c0 : Cond} {ws : List Cond} (h : ∀ w ∈ ws, w ∈ rg_tbl) : ∀ w ∈ ws, w ∈ c0 :: rg_tbl := fun w hw => List.mem_cons_of_mem _ (h w hw)
theorem rg_in {w : Cond} (h : w ∈ lw_tbl) (hg : goodWord w = true) : w ∈ rg_tbl := List.mem_filter.mpr ⟨h, hg⟩
end
section
def R_Rl : String := "RlRounds"
def R_Tb : String := "RlRounds$Table"
def R_Le : String := "RlRounds$Letters"
def R_Tr : String := "RlRounds$Triples"
def R_Ma : String := "RlRounds$Matcher"
def R_De : String := "RlRounds$Deriver"
def R_Se : String := "RlRounds$Seeker"
def R_Ig : String := "java/lang/Integer"
def R_Mt : String := "java/lang/Math"
def R_Ar : String := "java/util/Arrays"
def R_Mo : String := "RlRoundsModel"
def R_Lw : String := "RlRoundsLaw"
abbrev b_Rl_init : ByteArray := prog_1_method_1_code
def y_Rl_init : MethodName := ⟨R_Rl, "<init>", "()V"⟩
abbrev b_Tr_init : ByteArray := prog_7_method_1_code
def y_Tr_init : MethodName := ⟨R_Tr, "<init>", "()V"⟩
abbrev b_De_init : ByteArray := prog_2_method_1_code
def y_De_init : MethodName := ⟨R_De, "<init>", "(LRlRounds$Triples;)V"⟩
abbrev b_Ma_init : ByteArray := prog_4_method_1_code
def y_Ma_init : MethodName := ⟨R_Ma, "<init>", "(LRlRounds$Triples;)V"⟩
abbrev b_Se_init : ByteArray := prog_5_method_1_code
def y_Se_init : MethodName := ⟨R_Se, "<init>", "(LRlRounds$Triples;)V"⟩
abbrev b_Rl_say : ByteArray := prog_1_method_2_code
def y_Rl_say : MethodName := ⟨R_Rl, "say", "(III)I"⟩
abbrev b_Rl_areTerms : ByteArray := prog_1_method_18_code
def y_Rl_areTerms : MethodName := ⟨R_Rl, "areTerms", "(III)Z"⟩
abbrev b_Rl_isTerm : ByteArray := prog_1_method_17_code
def y_Rl_isTerm : MethodName := ⟨R_Rl, "isTerm", "(I)Z"⟩
abbrev b_Rl_codeOf : ByteArray := prog_1_method_19_code
def y_Rl_codeOf : MethodName := ⟨R_Rl, "codeOf", "(III)I"⟩
abbrev b_Rl_placeOfSaid : ByteArray := prog_1_method_16_code
def y_Rl_placeOfSaid : MethodName := ⟨R_Rl, "placeOfSaid", "(I)I"⟩
abbrev b_Rl_unsay : ByteArray := prog_1_method_3_code
def y_Rl_unsay : MethodName := ⟨R_Rl, "unsay", "(III)I"⟩
abbrev b_Rl_rule : ByteArray := prog_1_method_4_code
def y_Rl_rule : MethodName := ⟨R_Rl, "rule", "(IZ)I"⟩
abbrev b_Rl_contains : ByteArray := prog_1_method_20_code
def y_Rl_contains : MethodName := ⟨R_Rl, "contains", "(II)Z"⟩
abbrev b_Rl_run : ByteArray := prog_1_method_5_code
def y_Rl_run : MethodName := ⟨R_Rl, "run", "()I"⟩
abbrev b_Rl_isTooLarge : ByteArray := prog_1_method_15_code
def y_Rl_isTooLarge : MethodName := ⟨R_Rl, "isTooLarge", "()Z"⟩
abbrev b_De_derive : ByteArray := prog_2_method_2_code
def y_De_derive : MethodName := ⟨R_De, "derive", "([III)V"⟩
abbrev b_Tr_clear : ByteArray := prog_7_method_2_code
def y_Tr_clear : MethodName := ⟨R_Tr, "clear", "()V"⟩
abbrev b_Ar_fill : ByteArray := prog_12_method_103_code
def y_Ar_fill : MethodName := ⟨R_Ar, "fill", "([II)V"⟩
abbrev b_De_add : ByteArray := prog_2_method_6_code
def y_De_add : MethodName := ⟨R_De, "add", "(I)V"⟩
abbrev b_Tr_has : ByteArray := prog_7_method_4_code
def y_Tr_has : MethodName := ⟨R_Tr, "has", "(I)Z"⟩
abbrev b_Tr_put : ByteArray := prog_7_method_3_code
def y_Tr_put : MethodName := ⟨R_Tr, "put", "(I)V"⟩
abbrev b_De_rulesInReach : ByteArray := prog_2_method_3_code
def y_De_rulesInReach : MethodName := ⟨R_De, "rulesInReach", "()I"⟩
abbrev b_Tb_premiseAt : ByteArray := prog_6_method_3_code
def y_Tb_premiseAt : MethodName := ⟨R_Tb, "premiseAt", "(II)I"⟩
abbrev b_Tr_subjectsFor : ByteArray := prog_7_method_5_code
def y_Tr_subjectsFor : MethodName := ⟨R_Tr, "subjectsFor", "(II)I"⟩
abbrev b_De_applyRules : ByteArray := prog_2_method_4_code
def y_De_applyRules : MethodName := ⟨R_De, "applyRules", "(II)V"⟩
abbrev b_Tb_premiseCount : ByteArray := prog_6_method_2_code
def y_Tb_premiseCount : MethodName := ⟨R_Tb, "premiseCount", "(I)I"⟩
abbrev b_Le_fit : ByteArray := prog_3_method_4_code
def y_Le_fit : MethodName := ⟨R_Le, "fit", "([IIIJ)J"⟩
abbrev b_Le_bind : ByteArray := prog_3_method_3_code
def y_Le_bind : MethodName := ⟨R_Le, "bind", "(IIJ)J"⟩
abbrev b_Le_termOf : ByteArray := prog_3_method_2_code
def y_Le_termOf : MethodName := ⟨R_Le, "termOf", "(IJ)I"⟩
abbrev b_Ma_join : ByteArray := prog_4_method_3_code
def y_Ma_join : MethodName := ⟨R_Ma, "join", "(LRlRounds$Matcher;IIIJ)Z"⟩
abbrev b_De_meet : ByteArray := prog_2_method_5_code
def y_De_meet : MethodName := ⟨R_De, "meet", "(IJ)Z"⟩
abbrev b_Tb_givenCode : ByteArray := prog_6_method_5_code
def y_Tb_givenCode : MethodName := ⟨R_Tb, "givenCode", "(IJ)I"⟩
abbrev b_Tb_givenAt : ByteArray := prog_6_method_4_code
def y_Tb_givenAt : MethodName := ⟨R_Tb, "givenAt", "(I)I"⟩
abbrev b_Se_meet : ByteArray := prog_5_method_6_code
def y_Se_meet : MethodName := ⟨R_Se, "meet", "(IJ)Z"⟩
abbrev b_Ig_bitCount : ByteArray := prog_10_method_49_code
def y_Ig_bitCount : MethodName := ⟨R_Ig, "bitCount", "(I)I"⟩
abbrev b_Rl_leastOf : ByteArray := prog_1_method_21_code
def y_Rl_leastOf : MethodName := ⟨R_Rl, "leastOf", "(I)I"⟩
abbrev b_Rl_withoutLeast : ByteArray := prog_1_method_22_code
def y_Rl_withoutLeast : MethodName := ⟨R_Rl, "withoutLeast", "(I)I"⟩
abbrev b_Tr_predicatesFor : ByteArray := prog_7_method_6_code
def y_Tr_predicatesFor : MethodName := ⟨R_Tr, "predicatesFor", "(II)I"⟩
abbrev b_Tr_objectsFor : ByteArray := prog_7_method_7_code
def y_Tr_objectsFor : MethodName := ⟨R_Tr, "objectsFor", "(III)I"⟩
abbrev b_De_lastRound : ByteArray := prog_2_method_7_code
def y_De_lastRound : MethodName := ⟨R_De, "lastRound", "()I"⟩
abbrev b_Rl_size : ByteArray := prog_1_method_6_code
def y_Rl_size : MethodName := ⟨R_Rl, "size", "()I"⟩
abbrev b_Rl_triple : ByteArray := prog_1_method_7_code
def y_Rl_triple : MethodName := ⟨R_Rl, "triple", "(I)I"⟩
abbrev b_Tr_codeAt : ByteArray := prog_7_method_8_code
def y_Tr_codeAt : MethodName := ⟨R_Tr, "codeAt", "(I)I"⟩
abbrev b_Tr_elementAt : ByteArray := prog_7_method_9_code
def y_Tr_elementAt : MethodName := ⟨R_Tr, "elementAt", "(II)I"⟩
abbrev b_Rl_round : ByteArray := prog_1_method_8_code
def y_Rl_round : MethodName := ⟨R_Rl, "round", "(III)I"⟩
abbrev b_De_roundOf : ByteArray := prog_2_method_8_code
def y_De_roundOf : MethodName := ⟨R_De, "roundOf", "(I)I"⟩
abbrev b_Rl_ways : ByteArray := prog_1_method_9_code
def y_Rl_ways : MethodName := ⟨R_Rl, "ways", "(III)I"⟩
abbrev b_Se_countWays : ByteArray := prog_5_method_2_code
def y_Se_countWays : MethodName := ⟨R_Se, "countWays", "(II)I"⟩
abbrev b_Se_seekWay : ByteArray := prog_5_method_3_code
def y_Se_seekWay : MethodName := ⟨R_Se, "seekWay", "(III)Z"⟩
abbrev b_Rl_way : ByteArray := prog_1_method_10_code
def y_Rl_way : MethodName := ⟨R_Rl, "way", "(IIIII)I"⟩
abbrev b_Se_foundPremise : ByteArray := prog_5_method_7_code
def y_Se_foundPremise : MethodName := ⟨R_Se, "foundPremise", "(I)I"⟩
abbrev b_Rl_clashes : ByteArray := prog_1_method_11_code
def y_Rl_clashes : MethodName := ⟨R_Rl, "clashes", "()I"⟩
abbrev b_Se_countClashes : ByteArray := prog_5_method_4_code
def y_Se_countClashes : MethodName := ⟨R_Se, "countClashes", "()I"⟩
abbrev b_Se_seekClash : ByteArray := prog_5_method_5_code
def y_Se_seekClash : MethodName := ⟨R_Se, "seekClash", "(I)Z"⟩
abbrev b_Rl_clash : ByteArray := prog_1_method_12_code
def y_Rl_clash : MethodName := ⟨R_Rl, "clash", "(II)I"⟩
abbrev b_Rl_group : ByteArray := prog_1_method_13_code
def y_Rl_group : MethodName := ⟨R_Rl, "group", "(I)I"⟩
abbrev b_Mt_min : ByteArray := prog_11_method_69_code
def y_Mt_min : MethodName := ⟨R_Mt, "min", "(II)I"⟩
abbrev b_Rl_said : ByteArray := prog_1_method_14_code
def y_Rl_said : MethodName := ⟨R_Rl, "said", "()I"⟩
abbrev b_Mo_init : ByteArray := prog_9_method_1_code
def y_Mo_init : MethodName := ⟨R_Mo, "<init>", "()V"⟩
abbrev b_Mo_say : ByteArray := prog_9_method_18_code
def y_Mo_say : MethodName := ⟨R_Mo, "say", "(III)I"⟩
abbrev b_Mo_isTriple : ByteArray := prog_9_method_3_code
def y_Mo_isTriple : MethodName := ⟨R_Mo, "isTriple", "(III)Z"⟩
abbrev b_Mo_isTerm : ByteArray := prog_9_method_2_code
def y_Mo_isTerm : MethodName := ⟨R_Mo, "isTerm", "(I)Z"⟩
abbrev b_Mo_codeOf : ByteArray := prog_9_method_4_code
def y_Mo_codeOf : MethodName := ⟨R_Mo, "codeOf", "(III)I"⟩
abbrev b_Mo_unsay : ByteArray := prog_9_method_19_code
def y_Mo_unsay : MethodName := ⟨R_Mo, "unsay", "(III)I"⟩
abbrev b_Mo_rule : ByteArray := prog_9_method_20_code
def y_Mo_rule : MethodName := ⟨R_Mo, "rule", "(IZ)I"⟩
abbrev b_Mo_run : ByteArray := prog_9_method_21_code
def y_Mo_run : MethodName := ⟨R_Mo, "run", "()I"⟩
abbrev b_Mo_make : ByteArray := prog_9_method_17_code
def y_Mo_make : MethodName := ⟨R_Mo, "make", "()V"⟩
abbrev b_Mo_collect : ByteArray := prog_9_method_16_code
def y_Mo_collect : MethodName := ⟨R_Mo, "collect", "()V"⟩
abbrev b_Mo_begin : ByteArray := prog_9_method_9_code
def y_Mo_begin : MethodName := ⟨R_Mo, "begin", "(I)V"⟩
abbrev b_Mo_next : ByteArray := prog_9_method_13_code
def y_Mo_next : MethodName := ⟨R_Mo, "next", "()Z"⟩
abbrev b_Mo_premises : ByteArray := prog_9_method_8_code
def y_Mo_premises : MethodName := ⟨R_Mo, "premises", "(I)I"⟩
abbrev b_Mo_pattern : ByteArray := prog_9_method_5_code
def y_Mo_pattern : MethodName := ⟨R_Mo, "pattern", "(I)I"⟩
abbrev b_Mo_early : ByteArray := prog_9_method_6_code
def y_Mo_early : MethodName := ⟨R_Mo, "early", "(I)I"⟩
abbrev b_Mo_later : ByteArray := prog_9_method_7_code
def y_Mo_later : MethodName := ⟨R_Mo, "later", "(I)I"⟩
abbrev b_Mo_release : ByteArray := prog_9_method_10_code
def y_Mo_release : MethodName := ⟨R_Mo, "release", "()V"⟩
abbrev b_Mo_fits : ByteArray := prog_9_method_12_code
def y_Mo_fits : MethodName := ⟨R_Mo, "fits", "(I)Z"⟩
abbrev b_Mo_fitsItem : ByteArray := prog_9_method_11_code
def y_Mo_fitsItem : MethodName := ⟨R_Mo, "fitsItem", "(III)Z"⟩
abbrev b_Mo_given : ByteArray := prog_9_method_15_code
def y_Mo_given : MethodName := ⟨R_Mo, "given", "()I"⟩
abbrev b_Mo_termOf : ByteArray := prog_9_method_14_code
def y_Mo_termOf : MethodName := ⟨R_Mo, "termOf", "(I)I"⟩
abbrev b_Mo_size : ByteArray := prog_9_method_22_code
def y_Mo_size : MethodName := ⟨R_Mo, "size", "()I"⟩
abbrev b_Mo_triple : ByteArray := prog_9_method_23_code
def y_Mo_triple : MethodName := ⟨R_Mo, "triple", "(I)I"⟩
abbrev b_Mo_round : ByteArray := prog_9_method_24_code
def y_Mo_round : MethodName := ⟨R_Mo, "round", "(III)I"⟩
abbrev b_Mo_ways : ByteArray := prog_9_method_25_code
def y_Mo_ways : MethodName := ⟨R_Mo, "ways", "(III)I"⟩
abbrev b_Mo_way : ByteArray := prog_9_method_27_code
def y_Mo_way : MethodName := ⟨R_Mo, "way", "(IIIII)I"⟩
abbrev b_Mo_premise : ByteArray := prog_9_method_26_code
def y_Mo_premise : MethodName := ⟨R_Mo, "premise", "(I)I"⟩
abbrev b_Mo_clashes : ByteArray := prog_9_method_28_code
def y_Mo_clashes : MethodName := ⟨R_Mo, "clashes", "()I"⟩
abbrev b_Mo_clash : ByteArray := prog_9_method_29_code
def y_Mo_clash : MethodName := ⟨R_Mo, "clash", "(II)I"⟩
abbrev b_Mo_group : ByteArray := prog_9_method_30_code
def y_Mo_group : MethodName := ⟨R_Mo, "group", "(I)I"⟩
abbrev b_Mo_said : ByteArray := prog_9_method_31_code
def y_Mo_said : MethodName := ⟨R_Mo, "said", "()I"⟩
def y_Ma_meet : MethodName := ⟨R_Ma, "meet", "(IJ)Z"⟩
def F_Rl : u_T := fun k => match k with
  | 0 => ("RlRounds", "saidCodes", "[I", true)
  | 1 => ("RlRounds", "saidCount", "I", false)
  | 2 => ("RlRounds", "rulesOn", "I", false)
  | 3 => ("RlRounds", "derived", "Z", false)
  | 4 => ("RlRounds", "held", "LRlRounds$Triples;", true)
  | 5 => ("RlRounds", "deriver", "LRlRounds$Deriver;", true)
  | _ => ("RlRounds", "seeker", "LRlRounds$Seeker;", true)
def t_Rl : Nat → FieldType := fun k => match k with
  | 0 => .array .int
  | 1 => .int
  | 2 => .int
  | 3 => .boolean
  | 4 => .object "RlRounds$Triples"
  | 5 => .object "RlRounds$Deriver"
  | _ => .object "RlRounds$Seeker"
theorem n_Rl : ∀ a, a < 7 → ∀ b, b < 7 → a ≠ b → (F_Rl a).2.1 ≠ (F_Rl b).2.1 := by decide +kernel
theorem t_Rl_ok : ∀ k, k < 7 → parseFieldDescriptor (F_Rl k).2.2.1 = some (t_Rl k) := by decide +kernel
theorem i_Rl : ∀ w ∈ u_ws R_Rl F_Rl 7, w ∈ rg_tbl := by decide +kernel
def F_Tr : u_T := fun k => match k with
  | 0 => ("RlRounds$Triples", "objects", "[I", true)
  | 1 => ("RlRounds$Triples", "subjects", "[I", true)
  | 2 => ("RlRounds$Triples", "predicates", "[I", true)
  | _ => ("RlRounds$Triples", "allSubjects", "I", false)
def t_Tr : Nat → FieldType := fun k => match k with
  | 0 => .array .int
  | 1 => .array .int
  | 2 => .array .int
  | _ => .int
theorem n_Tr : ∀ a, a < 4 → ∀ b, b < 4 → a ≠ b → (F_Tr a).2.1 ≠ (F_Tr b).2.1 := by decide +kernel
theorem t_Tr_ok : ∀ k, k < 4 → parseFieldDescriptor (F_Tr k).2.2.1 = some (t_Tr k) := by decide +kernel
theorem i_Tr : ∀ w ∈ u_ws R_Tr F_Tr 4, w ∈ rg_tbl := by decide +kernel
def F_De : u_T := fun k => match k with
  | 0 => ("RlRounds$Matcher", "held", "LRlRounds$Triples;", true)
  | 1 => ("RlRounds$Matcher", "chosen", "[I", true)
  | 2 => ("RlRounds$Deriver", "come", "LRlRounds$Triples;", true)
  | 3 => ("RlRounds$Deriver", "codes", "[I", true)
  | 4 => ("RlRounds$Deriver", "rounds", "[I", true)
  | 5 => ("RlRounds$Deriver", "nowRound", "I", false)
  | 6 => ("RlRounds$Deriver", "count", "I", false)
  | _ => ("RlRounds$Deriver", "large", "Z", false)
def t_De : Nat → FieldType := fun k => match k with
  | 0 => .object "RlRounds$Triples"
  | 1 => .array .int
  | 2 => .object "RlRounds$Triples"
  | 3 => .array .int
  | 4 => .array .int
  | 5 => .int
  | 6 => .int
  | _ => .boolean
theorem n_De : ∀ a, a < 8 → ∀ b, b < 8 → a ≠ b → (F_De a).2.1 ≠ (F_De b).2.1 := by decide +kernel
theorem t_De_ok : ∀ k, k < 8 → parseFieldDescriptor (F_De k).2.2.1 = some (t_De k) := by decide +kernel
theorem i_De : ∀ w ∈ u_ws R_De F_De 8, w ∈ rg_tbl := by decide +kernel
def F_Se : u_T := fun k => match k with
  | 0 => ("RlRounds$Matcher", "held", "LRlRounds$Triples;", true)
  | 1 => ("RlRounds$Matcher", "chosen", "[I", true)
  | 2 => ("RlRounds$Seeker", "wanted", "I", false)
  | 3 => ("RlRounds$Seeker", "met", "I", false)
  | _ => ("RlRounds$Seeker", "foundRow", "I", false)
def t_Se : Nat → FieldType := fun k => match k with
  | 0 => .object "RlRounds$Triples"
  | 1 => .array .int
  | 2 => .int
  | 3 => .int
  | _ => .int
theorem n_Se : ∀ a, a < 5 → ∀ b, b < 5 → a ≠ b → (F_Se a).2.1 ≠ (F_Se b).2.1 := by decide +kernel
theorem t_Se_ok : ∀ k, k < 5 → parseFieldDescriptor (F_Se k).2.2.1 = some (t_Se k) := by decide +kernel
theorem i_Se : ∀ w ∈ u_ws R_Se F_Se 5, w ∈ rg_tbl := by decide +kernel
def F_Mo : u_T := fun k => match k with
  | 0 => ("RlRoundsModel", "said", "[Z", true)
  | 1 => ("RlRoundsModel", "saidCount", "I", false)
  | 2 => ("RlRoundsModel", "off", "[Z", true)
  | 3 => ("RlRoundsModel", "known", "Z", false)
  | 4 => ("RlRoundsModel", "large", "Z", false)
  | 5 => ("RlRoundsModel", "greatest", "I", false)
  | 6 => ("RlRoundsModel", "rounds", "[I", true)
  | 7 => ("RlRoundsModel", "comes", "[Z", true)
  | 8 => ("RlRoundsModel", "held", "[I", true)
  | 9 => ("RlRoundsModel", "many", "I", false)
  | 10 => ("RlRoundsModel", "at", "[I", true)
  | 11 => ("RlRoundsModel", "letters", "[I", true)
  | 12 => ("RlRoundsModel", "bound", "[I", true)
  | 13 => ("RlRoundsModel", "level", "I", false)
  | _ => ("RlRoundsModel", "rule", "I", false)
def t_Mo : Nat → FieldType := fun k => match k with
  | 0 => .array .boolean
  | 1 => .int
  | 2 => .array .boolean
  | 3 => .boolean
  | 4 => .boolean
  | 5 => .int
  | 6 => .array .int
  | 7 => .array .boolean
  | 8 => .array .int
  | 9 => .int
  | 10 => .array .int
  | 11 => .array .int
  | 12 => .array .int
  | 13 => .int
  | _ => .int
theorem n_Mo : ∀ a, a < 15 → ∀ b, b < 15 → a ≠ b → (F_Mo a).2.1 ≠ (F_Mo b).2.1 := by decide +kernel
theorem t_Mo_ok : ∀ k, k < 15 → parseFieldDescriptor (F_Mo k).2.2.1 = some (t_Mo k) := by decide +kernel
theorem i_Mo : ∀ w ∈ u_ws R_Mo F_Mo 15, w ∈ rg_tbl := by decide +kernel
abbrev classes : List vw_C := [(R_Rl, F_Rl, 7), (R_Tr, F_Tr, 4), (R_De, F_De, 8), (R_Se, F_Se, 5), (R_Mo, F_Mo, 15)]
theorem m_0 : (.initialized R_Lw : Cond) ∈ rg_tbl := rg_in (List.mem_append_right _ (List.mem_of_getElem? (i := 0) (by decide +kernel))) (by decide +kernel)
theorem m_1 : (.initialized R_Rl : Cond) ∈ rg_tbl := rg_in (List.mem_append_right _ (List.mem_of_getElem? (i := 1) (by decide +kernel))) (by decide +kernel)
theorem m_2 : (.initialized R_Tr : Cond) ∈ rg_tbl := rg_in (List.mem_append_right _ (List.mem_of_getElem? (i := 2) (by decide +kernel))) (by decide +kernel)
theorem m_3 : (.initialized R_Ma : Cond) ∈ rg_tbl := rg_in (List.mem_append_right _ (List.mem_of_getElem? (i := 3) (by decide +kernel))) (by decide +kernel)
theorem m_4 : (.initialized R_De : Cond) ∈ rg_tbl := rg_in (List.mem_append_right _ (List.mem_of_getElem? (i := 4) (by decide +kernel))) (by decide +kernel)
theorem m_5 : (.initialized R_Se : Cond) ∈ rg_tbl := rg_in (List.mem_append_right _ (List.mem_of_getElem? (i := 5) (by decide +kernel))) (by decide +kernel)
theorem m_6 : (.initialized R_Mo : Cond) ∈ rg_tbl := rg_in (List.mem_append_right _ (List.mem_of_getElem? (i := 6) (by decide +kernel))) (by decide +kernel)
theorem m_7 : (.initialized R_Ar : Cond) ∈ rg_tbl := rg_in (List.mem_append_right _ (List.mem_of_getElem? (i := 7) (by decide +kernel))) (by decide +kernel)
theorem m_8 : (.initialized R_Tb : Cond) ∈ rg_tbl := rg_in (List.mem_append_right _ (List.mem_of_getElem? (i := 8) (by decide +kernel))) (by decide +kernel)
theorem m_9 : (.initialized R_Le : Cond) ∈ rg_tbl := rg_in (List.mem_append_right _ (List.mem_of_getElem? (i := 9) (by decide +kernel))) (by decide +kernel)
theorem m_10 : (.initialized R_Ig : Cond) ∈ rg_tbl := rg_in (List.mem_append_right _ (List.mem_of_getElem? (i := 10) (by decide +kernel))) (by decide +kernel)
theorem m_11 : (.initialized R_Mt : Cond) ∈ rg_tbl := rg_in (List.mem_append_right _ (List.mem_of_getElem? (i := 11) (by decide +kernel))) (by decide +kernel)
theorem m_12 : (.classLink R_Lw 7 "RlRounds" : Cond) ∈ rg_tbl := rg_in (List.mem_append_right _ (List.mem_of_getElem? (i := 12) (by decide +kernel))) (by decide +kernel)
theorem m_13 : (.instantiable R_Rl 7 : Cond) ∈ rg_tbl := rg_in (List.mem_append_right _ (List.mem_of_getElem? (i := 13) (by decide +kernel))) (by decide +kernel)
theorem m_14 : (.methodLink R_Lw 9 y_Rl_init : Cond) ∈ rg_tbl := rg_in (List.mem_append_right _ (List.mem_of_getElem? (i := 14) (by decide +kernel))) (by decide +kernel)
theorem m_15 : (.instanceMethod y_Rl_init : Cond) ∈ rg_tbl := rg_in (List.mem_append_right _ (List.mem_of_getElem? (i := 15) (by decide +kernel))) (by decide +kernel)
theorem m_16 : (.code y_Rl_init b_Rl_init 1 none : Cond) ∈ rg_tbl := rg_in (List.mem_append_right _ (List.mem_of_getElem? (i := 16) (by decide +kernel))) (by decide +kernel)
theorem m_17 : (.methodLink R_Rl 3 objectInit : Cond) ∈ rg_tbl := rg_in (List.mem_append_right _ (List.mem_of_getElem? (i := 17) (by decide +kernel))) (by decide +kernel)
theorem m_18 : (.instanceMethod objectInit : Cond) ∈ rg_tbl := rg_in (List.mem_append_right _ (List.mem_of_getElem? (i := 18) (by decide +kernel))) (by decide +kernel)
theorem m_19 : (.code objectInit ⟨#[0xb1]⟩ 1 none : Cond) ∈ rg_tbl := rg_in (List.mem_append_right _ (List.mem_of_getElem? (i := 19) (by decide +kernel))) (by decide +kernel)
theorem m_20 : (.constant R_Rl 17 2097151 : Cond) ∈ rg_tbl := rg_in (List.mem_append_right _ (List.mem_of_getElem? (i := 20) (by decide +kernel))) (by decide +kernel)
theorem m_21 : (.classLink R_Rl 25 "RlRounds$Triples" : Cond) ∈ rg_tbl := rg_in (List.mem_append_right _ (List.mem_of_getElem? (i := 21) (by decide +kernel))) (by decide +kernel)
theorem m_22 : (.instantiable R_Tr 4 : Cond) ∈ rg_tbl := rg_in (List.mem_append_right _ (List.mem_of_getElem? (i := 22) (by decide +kernel))) (by decide +kernel)
theorem m_23 : (.methodLink R_Rl 27 y_Tr_init : Cond) ∈ rg_tbl := rg_in (List.mem_append_right _ (List.mem_of_getElem? (i := 23) (by decide +kernel))) (by decide +kernel)
theorem m_24 : (.instanceMethod y_Tr_init : Cond) ∈ rg_tbl := rg_in (List.mem_append_right _ (List.mem_of_getElem? (i := 24) (by decide +kernel))) (by decide +kernel)
theorem m_25 : (.code y_Tr_init b_Tr_init 1 none : Cond) ∈ rg_tbl := rg_in (List.mem_append_right _ (List.mem_of_getElem? (i := 25) (by decide +kernel))) (by decide +kernel)
theorem m_26 : (.methodLink R_Tr 3 objectInit : Cond) ∈ rg_tbl := rg_in (List.mem_append_right _ (List.mem_of_getElem? (i := 26) (by decide +kernel))) (by decide +kernel)
theorem m_27 : (.fieldLink R_Tr 9 "RlRounds$Triples" "objects" "[I" : Cond) ∈ rg_tbl := rg_in (List.mem_append_right _ (List.mem_of_getElem? (i := 27) (by decide +kernel))) (by decide +kernel)
theorem m_28 : (.fieldLink R_Tr 15 "RlRounds$Triples" "subjects" "[I" : Cond) ∈ rg_tbl := rg_in (List.mem_append_right _ (List.mem_of_getElem? (i := 28) (by decide +kernel))) (by decide +kernel)
theorem m_29 : (.fieldLink R_Tr 18 "RlRounds$Triples" "predicates" "[I" : Cond) ∈ rg_tbl := rg_in (List.mem_append_right _ (List.mem_of_getElem? (i := 29) (by decide +kernel))) (by decide +kernel)
theorem m_30 : (.fieldLink R_Tr 21 "RlRounds$Triples" "allSubjects" "I" : Cond) ∈ rg_tbl := rg_in (List.mem_append_right _ (List.mem_of_getElem? (i := 30) (by decide +kernel))) (by decide +kernel)
theorem m_40 : (.arrayClass .int : Cond) ∈ rg_tbl := rg_in (List.mem_append_right _ (List.mem_of_getElem? (i := 40) (by decide +kernel))) (by decide +kernel)
theorem m_41 : (.classLink R_Rl 32 "RlRounds$Deriver" : Cond) ∈ rg_tbl := rg_in (List.mem_append_right _ (List.mem_of_getElem? (i := 41) (by decide +kernel))) (by decide +kernel)
theorem m_42 : (.instantiable R_De 8 : Cond) ∈ rg_tbl := rg_in (List.mem_append_right _ (List.mem_of_getElem? (i := 42) (by decide +kernel))) (by decide +kernel)
theorem m_43 : (.methodLink R_Rl 34 y_De_init : Cond) ∈ rg_tbl := rg_in (List.mem_append_right _ (List.mem_of_getElem? (i := 43) (by decide +kernel))) (by decide +kernel)
theorem m_44 : (.instanceMethod y_De_init : Cond) ∈ rg_tbl := rg_in (List.mem_append_right _ (List.mem_of_getElem? (i := 44) (by decide +kernel))) (by decide +kernel)
theorem m_45 : (.code y_De_init b_De_init 2 none : Cond) ∈ rg_tbl := rg_in (List.mem_append_right _ (List.mem_of_getElem? (i := 45) (by decide +kernel))) (by decide +kernel)
theorem m_46 : (.methodLink R_De 3 y_Ma_init : Cond) ∈ rg_tbl := rg_in (List.mem_append_right _ (List.mem_of_getElem? (i := 46) (by decide +kernel))) (by decide +kernel)
theorem m_47 : (.instanceMethod y_Ma_init : Cond) ∈ rg_tbl := rg_in (List.mem_append_right _ (List.mem_of_getElem? (i := 47) (by decide +kernel))) (by decide +kernel)
theorem m_48 : (.code y_Ma_init b_Ma_init 2 none : Cond) ∈ rg_tbl := rg_in (List.mem_append_right _ (List.mem_of_getElem? (i := 48) (by decide +kernel))) (by decide +kernel)
theorem m_49 : (.methodLink R_Ma 3 objectInit : Cond) ∈ rg_tbl := rg_in (List.mem_append_right _ (List.mem_of_getElem? (i := 49) (by decide +kernel))) (by decide +kernel)
theorem m_50 : (.classLink R_De 9 "RlRounds$Triples" : Cond) ∈ rg_tbl := rg_in (List.mem_append_right _ (List.mem_of_getElem? (i := 50) (by decide +kernel))) (by decide +kernel)
theorem m_51 : (.methodLink R_De 11 y_Tr_init : Cond) ∈ rg_tbl := rg_in (List.mem_append_right _ (List.mem_of_getElem? (i := 51) (by decide +kernel))) (by decide +kernel)
theorem m_52 : (.fieldLink R_De 14 "RlRounds$Deriver" "come" "LRlRounds$Triples;" : Cond) ∈ rg_tbl := rg_in (List.mem_append_right _ (List.mem_of_getElem? (i := 52) (by decide +kernel))) (by decide +kernel)
theorem m_53 : (.fieldLink R_De 20 "RlRounds$Deriver" "codes" "[I" : Cond) ∈ rg_tbl := rg_in (List.mem_append_right _ (List.mem_of_getElem? (i := 53) (by decide +kernel))) (by decide +kernel)
theorem m_54 : (.fieldLink R_De 24 "RlRounds$Deriver" "rounds" "[I" : Cond) ∈ rg_tbl := rg_in (List.mem_append_right _ (List.mem_of_getElem? (i := 54) (by decide +kernel))) (by decide +kernel)
theorem m_55 : (.fieldLink R_De 27 "RlRounds$Deriver" "nowRound" "I" : Cond) ∈ rg_tbl := rg_in (List.mem_append_right _ (List.mem_of_getElem? (i := 55) (by decide +kernel))) (by decide +kernel)
theorem m_56 : (.fieldLink R_De 31 "RlRounds$Deriver" "count" "I" : Cond) ∈ rg_tbl := rg_in (List.mem_append_right _ (List.mem_of_getElem? (i := 56) (by decide +kernel))) (by decide +kernel)
theorem m_58 : (.fieldLink R_De 34 "RlRounds$Deriver" "large" "Z" : Cond) ∈ rg_tbl := rg_in (List.mem_append_right _ (List.mem_of_getElem? (i := 58) (by decide +kernel))) (by decide +kernel)
theorem m_60 : (.fieldLink R_Ma 9 "RlRounds$Matcher" "held" "LRlRounds$Triples;" : Cond) ∈ rg_tbl := rg_in (List.mem_append_right _ (List.mem_of_getElem? (i := 60) (by decide +kernel))) (by decide +kernel)
theorem m_61 : (.fieldLink R_De 38 "RlRounds$Deriver" "held" "LRlRounds$Triples;" : Cond) ∈ rg_tbl := rg_in (List.mem_append_right _ (List.mem_of_getElem? (i := 61) (by decide +kernel))) (by decide +kernel)
theorem m_62 : (.sameField R_De "RlRounds$Matcher" "held" "LRlRounds$Triples;" : Cond) ∈ rg_tbl := rg_in (List.mem_append_right _ (List.mem_of_getElem? (i := 62) (by decide +kernel))) (by decide +kernel)
theorem m_63 : (.fieldLink R_Ma 15 "RlRounds$Matcher" "chosen" "[I" : Cond) ∈ rg_tbl := rg_in (List.mem_append_right _ (List.mem_of_getElem? (i := 63) (by decide +kernel))) (by decide +kernel)
theorem m_64 : (.fieldLink R_Se 58 "RlRounds$Seeker" "chosen" "[I" : Cond) ∈ rg_tbl := rg_in (List.mem_append_right _ (List.mem_of_getElem? (i := 64) (by decide +kernel))) (by decide +kernel)
theorem m_65 : (.sameField R_Se "RlRounds$Matcher" "chosen" "[I" : Cond) ∈ rg_tbl := rg_in (List.mem_append_right _ (List.mem_of_getElem? (i := 65) (by decide +kernel))) (by decide +kernel)
theorem m_83 : (.classLink R_Rl 41 "RlRounds$Seeker" : Cond) ∈ rg_tbl := rg_in (List.mem_append_right _ (List.mem_of_getElem? (i := 83) (by decide +kernel))) (by decide +kernel)
theorem m_84 : (.instantiable R_Se 5 : Cond) ∈ rg_tbl := rg_in (List.mem_append_right _ (List.mem_of_getElem? (i := 84) (by decide +kernel))) (by decide +kernel)
theorem m_85 : (.methodLink R_Rl 43 y_Se_init : Cond) ∈ rg_tbl := rg_in (List.mem_append_right _ (List.mem_of_getElem? (i := 85) (by decide +kernel))) (by decide +kernel)
theorem m_86 : (.instanceMethod y_Se_init : Cond) ∈ rg_tbl := rg_in (List.mem_append_right _ (List.mem_of_getElem? (i := 86) (by decide +kernel))) (by decide +kernel)
theorem m_87 : (.code y_Se_init b_Se_init 2 none : Cond) ∈ rg_tbl := rg_in (List.mem_append_right _ (List.mem_of_getElem? (i := 87) (by decide +kernel))) (by decide +kernel)
theorem m_88 : (.methodLink R_Se 3 y_Ma_init : Cond) ∈ rg_tbl := rg_in (List.mem_append_right _ (List.mem_of_getElem? (i := 88) (by decide +kernel))) (by decide +kernel)
theorem m_89 : (.fieldLink R_Se 9 "RlRounds$Seeker" "wanted" "I" : Cond) ∈ rg_tbl := rg_in (List.mem_append_right _ (List.mem_of_getElem? (i := 89) (by decide +kernel))) (by decide +kernel)
theorem m_90 : (.fieldLink R_Se 15 "RlRounds$Seeker" "met" "I" : Cond) ∈ rg_tbl := rg_in (List.mem_append_right _ (List.mem_of_getElem? (i := 90) (by decide +kernel))) (by decide +kernel)
theorem m_91 : (.fieldLink R_Se 18 "RlRounds$Seeker" "foundRow" "I" : Cond) ∈ rg_tbl := rg_in (List.mem_append_right _ (List.mem_of_getElem? (i := 91) (by decide +kernel))) (by decide +kernel)
theorem m_102 : (.fieldLink R_Rl 9 "RlRounds" "saidCodes" "[I" : Cond) ∈ rg_tbl := rg_in (List.mem_append_right _ (List.mem_of_getElem? (i := 102) (by decide +kernel))) (by decide +kernel)
theorem m_103 : (.fieldLink R_Rl 13 "RlRounds" "saidCount" "I" : Cond) ∈ rg_tbl := rg_in (List.mem_append_right _ (List.mem_of_getElem? (i := 103) (by decide +kernel))) (by decide +kernel)
theorem m_104 : (.fieldLink R_Rl 18 "RlRounds" "rulesOn" "I" : Cond) ∈ rg_tbl := rg_in (List.mem_append_right _ (List.mem_of_getElem? (i := 104) (by decide +kernel))) (by decide +kernel)
theorem m_105 : (.fieldLink R_Rl 21 "RlRounds" "derived" "Z" : Cond) ∈ rg_tbl := rg_in (List.mem_append_right _ (List.mem_of_getElem? (i := 105) (by decide +kernel))) (by decide +kernel)
theorem m_106 : (.fieldLink R_Rl 28 "RlRounds" "held" "LRlRounds$Triples;" : Cond) ∈ rg_tbl := rg_in (List.mem_append_right _ (List.mem_of_getElem? (i := 106) (by decide +kernel))) (by decide +kernel)
theorem m_107 : (.fieldLink R_Rl 37 "RlRounds" "deriver" "LRlRounds$Deriver;" : Cond) ∈ rg_tbl := rg_in (List.mem_append_right _ (List.mem_of_getElem? (i := 107) (by decide +kernel))) (by decide +kernel)
theorem m_108 : (.fieldLink R_Rl 44 "RlRounds" "seeker" "LRlRounds$Seeker;" : Cond) ∈ rg_tbl := rg_in (List.mem_append_right _ (List.mem_of_getElem? (i := 108) (by decide +kernel))) (by decide +kernel)
theorem m_124 : (.methodLink R_Lw 13 y_Rl_say : Cond) ∈ rg_tbl := rg_in (List.mem_append_right _ (List.mem_of_getElem? (i := 124) (by decide +kernel))) (by decide +kernel)
theorem m_125 : (.instanceMethod y_Rl_say : Cond) ∈ rg_tbl := rg_in (List.mem_append_right _ (List.mem_of_getElem? (i := 125) (by decide +kernel))) (by decide +kernel)
theorem m_126 : (.selects R_Rl y_Rl_say y_Rl_say : Cond) ∈ rg_tbl := rg_in (List.mem_append_right _ (List.mem_of_getElem? (i := 126) (by decide +kernel))) (by decide +kernel)
theorem m_127 : (.code y_Rl_say b_Rl_say 5 (some .int) : Cond) ∈ rg_tbl := rg_in (List.mem_append_right _ (List.mem_of_getElem? (i := 127) (by decide +kernel))) (by decide +kernel)
theorem m_128 : (.methodLink R_Rl 48 y_Rl_areTerms : Cond) ∈ rg_tbl := rg_in (List.mem_append_right _ (List.mem_of_getElem? (i := 128) (by decide +kernel))) (by decide +kernel)
theorem m_129 : (.static y_Rl_areTerms : Cond) ∈ rg_tbl := rg_in (List.mem_append_right _ (List.mem_of_getElem? (i := 129) (by decide +kernel))) (by decide +kernel)
theorem m_130 : (.code y_Rl_areTerms b_Rl_areTerms 3 (some .boolean) : Cond) ∈ rg_tbl := rg_in (List.mem_append_right _ (List.mem_of_getElem? (i := 130) (by decide +kernel))) (by decide +kernel)
theorem m_131 : (.methodLink R_Rl 101 y_Rl_isTerm : Cond) ∈ rg_tbl := rg_in (List.mem_append_right _ (List.mem_of_getElem? (i := 131) (by decide +kernel))) (by decide +kernel)
theorem m_132 : (.static y_Rl_isTerm : Cond) ∈ rg_tbl := rg_in (List.mem_append_right _ (List.mem_of_getElem? (i := 132) (by decide +kernel))) (by decide +kernel)
theorem m_133 : (.code y_Rl_isTerm b_Rl_isTerm 1 (some .boolean) : Cond) ∈ rg_tbl := rg_in (List.mem_append_right _ (List.mem_of_getElem? (i := 133) (by decide +kernel))) (by decide +kernel)
theorem m_134 : (.methodLink R_Rl 52 y_Rl_codeOf : Cond) ∈ rg_tbl := rg_in (List.mem_append_right _ (List.mem_of_getElem? (i := 134) (by decide +kernel))) (by decide +kernel)
theorem m_135 : (.static y_Rl_codeOf : Cond) ∈ rg_tbl := rg_in (List.mem_append_right _ (List.mem_of_getElem? (i := 135) (by decide +kernel))) (by decide +kernel)
theorem m_136 : (.code y_Rl_codeOf b_Rl_codeOf 3 (some .int) : Cond) ∈ rg_tbl := rg_in (List.mem_append_right _ (List.mem_of_getElem? (i := 136) (by decide +kernel))) (by decide +kernel)
theorem m_137 : (.methodLink R_Rl 56 y_Rl_placeOfSaid : Cond) ∈ rg_tbl := rg_in (List.mem_append_right _ (List.mem_of_getElem? (i := 137) (by decide +kernel))) (by decide +kernel)
theorem m_139 : (.instanceMethod y_Rl_placeOfSaid : Cond) ∈ rg_tbl := rg_in (List.mem_append_right _ (List.mem_of_getElem? (i := 139) (by decide +kernel))) (by decide +kernel)
theorem m_140 : (.code y_Rl_placeOfSaid b_Rl_placeOfSaid 3 (some .int) : Cond) ∈ rg_tbl := rg_in (List.mem_append_right _ (List.mem_of_getElem? (i := 140) (by decide +kernel))) (by decide +kernel)
theorem m_141 : (.methodLink R_Lw 18 y_Rl_unsay : Cond) ∈ rg_tbl := rg_in (List.mem_append_right _ (List.mem_of_getElem? (i := 141) (by decide +kernel))) (by decide +kernel)
theorem m_142 : (.instanceMethod y_Rl_unsay : Cond) ∈ rg_tbl := rg_in (List.mem_append_right _ (List.mem_of_getElem? (i := 142) (by decide +kernel))) (by decide +kernel)
theorem m_143 : (.selects R_Rl y_Rl_unsay y_Rl_unsay : Cond) ∈ rg_tbl := rg_in (List.mem_append_right _ (List.mem_of_getElem? (i := 143) (by decide +kernel))) (by decide +kernel)
theorem m_144 : (.code y_Rl_unsay b_Rl_unsay 5 (some .int) : Cond) ∈ rg_tbl := rg_in (List.mem_append_right _ (List.mem_of_getElem? (i := 144) (by decide +kernel))) (by decide +kernel)
theorem m_145 : (.methodLink R_Lw 22 y_Rl_rule : Cond) ∈ rg_tbl := rg_in (List.mem_append_right _ (List.mem_of_getElem? (i := 145) (by decide +kernel))) (by decide +kernel)
theorem m_146 : (.instanceMethod y_Rl_rule : Cond) ∈ rg_tbl := rg_in (List.mem_append_right _ (List.mem_of_getElem? (i := 146) (by decide +kernel))) (by decide +kernel)
theorem m_147 : (.selects R_Rl y_Rl_rule y_Rl_rule : Cond) ∈ rg_tbl := rg_in (List.mem_append_right _ (List.mem_of_getElem? (i := 147) (by decide +kernel))) (by decide +kernel)
theorem m_148 : (.code y_Rl_rule b_Rl_rule 3 (some .int) : Cond) ∈ rg_tbl := rg_in (List.mem_append_right _ (List.mem_of_getElem? (i := 148) (by decide +kernel))) (by decide +kernel)
theorem m_149 : (.methodLink R_Rl 60 y_Rl_contains : Cond) ∈ rg_tbl := rg_in (List.mem_append_right _ (List.mem_of_getElem? (i := 149) (by decide +kernel))) (by decide +kernel)
theorem m_150 : (.static y_Rl_contains : Cond) ∈ rg_tbl := rg_in (List.mem_append_right _ (List.mem_of_getElem? (i := 150) (by decide +kernel))) (by decide +kernel)
theorem m_151 : (.code y_Rl_contains b_Rl_contains 2 (some .boolean) : Cond) ∈ rg_tbl := rg_in (List.mem_append_right _ (List.mem_of_getElem? (i := 151) (by decide +kernel))) (by decide +kernel)
theorem m_152 : (.methodLink R_Lw 27 y_Rl_run : Cond) ∈ rg_tbl := rg_in (List.mem_append_right _ (List.mem_of_getElem? (i := 152) (by decide +kernel))) (by decide +kernel)
theorem m_153 : (.instanceMethod y_Rl_run : Cond) ∈ rg_tbl := rg_in (List.mem_append_right _ (List.mem_of_getElem? (i := 153) (by decide +kernel))) (by decide +kernel)
theorem m_154 : (.selects R_Rl y_Rl_run y_Rl_run : Cond) ∈ rg_tbl := rg_in (List.mem_append_right _ (List.mem_of_getElem? (i := 154) (by decide +kernel))) (by decide +kernel)
theorem m_155 : (.code y_Rl_run b_Rl_run 1 (some .int) : Cond) ∈ rg_tbl := rg_in (List.mem_append_right _ (List.mem_of_getElem? (i := 155) (by decide +kernel))) (by decide +kernel)
theorem m_156 : (.methodLink R_Rl 64 y_Rl_isTooLarge : Cond) ∈ rg_tbl := rg_in (List.mem_append_right _ (List.mem_of_getElem? (i := 156) (by decide +kernel))) (by decide +kernel)
theorem m_158 : (.instanceMethod y_Rl_isTooLarge : Cond) ∈ rg_tbl := rg_in (List.mem_append_right _ (List.mem_of_getElem? (i := 158) (by decide +kernel))) (by decide +kernel)
theorem m_159 : (.code y_Rl_isTooLarge b_Rl_isTooLarge 1 (some .boolean) : Cond) ∈ rg_tbl := rg_in (List.mem_append_right _ (List.mem_of_getElem? (i := 159) (by decide +kernel))) (by decide +kernel)
theorem m_160 : (.methodLink R_Rl 117 y_De_derive : Cond) ∈ rg_tbl := rg_in (List.mem_append_right _ (List.mem_of_getElem? (i := 160) (by decide +kernel))) (by decide +kernel)
theorem m_161 : (.instanceMethod y_De_derive : Cond) ∈ rg_tbl := rg_in (List.mem_append_right _ (List.mem_of_getElem? (i := 161) (by decide +kernel))) (by decide +kernel)
theorem m_162 : (.selects R_De y_De_derive y_De_derive : Cond) ∈ rg_tbl := rg_in (List.mem_append_right _ (List.mem_of_getElem? (i := 162) (by decide +kernel))) (by decide +kernel)
theorem m_163 : (.code y_De_derive b_De_derive 9 none : Cond) ∈ rg_tbl := rg_in (List.mem_append_right _ (List.mem_of_getElem? (i := 163) (by decide +kernel))) (by decide +kernel)
theorem m_164 : (.methodLink R_De 41 y_Tr_clear : Cond) ∈ rg_tbl := rg_in (List.mem_append_right _ (List.mem_of_getElem? (i := 164) (by decide +kernel))) (by decide +kernel)
theorem m_165 : (.instanceMethod y_Tr_clear : Cond) ∈ rg_tbl := rg_in (List.mem_append_right _ (List.mem_of_getElem? (i := 165) (by decide +kernel))) (by decide +kernel)
theorem m_166 : (.selects R_Tr y_Tr_clear y_Tr_clear : Cond) ∈ rg_tbl := rg_in (List.mem_append_right _ (List.mem_of_getElem? (i := 166) (by decide +kernel))) (by decide +kernel)
theorem m_167 : (.code y_Tr_clear b_Tr_clear 1 none : Cond) ∈ rg_tbl := rg_in (List.mem_append_right _ (List.mem_of_getElem? (i := 167) (by decide +kernel))) (by decide +kernel)
theorem m_168 : (.methodLink R_Tr 25 y_Ar_fill : Cond) ∈ rg_tbl := rg_in (List.mem_append_right _ (List.mem_of_getElem? (i := 168) (by decide +kernel))) (by decide +kernel)
theorem m_169 : (.static y_Ar_fill : Cond) ∈ rg_tbl := rg_in (List.mem_append_right _ (List.mem_of_getElem? (i := 169) (by decide +kernel))) (by decide +kernel)
theorem m_170 : (.code y_Ar_fill b_Ar_fill 4 none : Cond) ∈ rg_tbl := rg_in (List.mem_append_right _ (List.mem_of_getElem? (i := 170) (by decide +kernel))) (by decide +kernel)
theorem m_171 : (.methodLink R_De 44 y_De_add : Cond) ∈ rg_tbl := rg_in (List.mem_append_right _ (List.mem_of_getElem? (i := 171) (by decide +kernel))) (by decide +kernel)
theorem m_173 : (.instanceMethod y_De_add : Cond) ∈ rg_tbl := rg_in (List.mem_append_right _ (List.mem_of_getElem? (i := 173) (by decide +kernel))) (by decide +kernel)
theorem m_174 : (.code y_De_add b_De_add 2 none : Cond) ∈ rg_tbl := rg_in (List.mem_append_right _ (List.mem_of_getElem? (i := 174) (by decide +kernel))) (by decide +kernel)
theorem m_175 : (.methodLink R_De 95 y_Tr_has : Cond) ∈ rg_tbl := rg_in (List.mem_append_right _ (List.mem_of_getElem? (i := 175) (by decide +kernel))) (by decide +kernel)
theorem m_176 : (.instanceMethod y_Tr_has : Cond) ∈ rg_tbl := rg_in (List.mem_append_right _ (List.mem_of_getElem? (i := 176) (by decide +kernel))) (by decide +kernel)
theorem m_177 : (.selects R_Tr y_Tr_has y_Tr_has : Cond) ∈ rg_tbl := rg_in (List.mem_append_right _ (List.mem_of_getElem? (i := 177) (by decide +kernel))) (by decide +kernel)
theorem m_178 : (.code y_Tr_has b_Tr_has 2 (some .boolean) : Cond) ∈ rg_tbl := rg_in (List.mem_append_right _ (List.mem_of_getElem? (i := 178) (by decide +kernel))) (by decide +kernel)
theorem m_179 : (.constant R_Tr 31 32768 : Cond) ∈ rg_tbl := rg_in (List.mem_append_right _ (List.mem_of_getElem? (i := 179) (by decide +kernel))) (by decide +kernel)
theorem m_180 : (.methodLink R_De 48 y_Tr_put : Cond) ∈ rg_tbl := rg_in (List.mem_append_right _ (List.mem_of_getElem? (i := 180) (by decide +kernel))) (by decide +kernel)
theorem m_181 : (.instanceMethod y_Tr_put : Cond) ∈ rg_tbl := rg_in (List.mem_append_right _ (List.mem_of_getElem? (i := 181) (by decide +kernel))) (by decide +kernel)
theorem m_182 : (.selects R_Tr y_Tr_put y_Tr_put : Cond) ∈ rg_tbl := rg_in (List.mem_append_right _ (List.mem_of_getElem? (i := 182) (by decide +kernel))) (by decide +kernel)
theorem m_183 : (.code y_Tr_put b_Tr_put 4 none : Cond) ∈ rg_tbl := rg_in (List.mem_append_right _ (List.mem_of_getElem? (i := 183) (by decide +kernel))) (by decide +kernel)
theorem m_184 : (.methodLink R_De 51 y_De_rulesInReach : Cond) ∈ rg_tbl := rg_in (List.mem_append_right _ (List.mem_of_getElem? (i := 184) (by decide +kernel))) (by decide +kernel)
theorem m_186 : (.instanceMethod y_De_rulesInReach : Cond) ∈ rg_tbl := rg_in (List.mem_append_right _ (List.mem_of_getElem? (i := 186) (by decide +kernel))) (by decide +kernel)
theorem m_187 : (.code y_De_rulesInReach b_De_rulesInReach 4 (some .int) : Cond) ∈ rg_tbl := rg_in (List.mem_append_right _ (List.mem_of_getElem? (i := 187) (by decide +kernel))) (by decide +kernel)
theorem m_188 : (.fieldLink R_De 59 "RlRounds$Table" "PREMISES" "[I" : Cond) ∈ rg_tbl := rg_in (List.mem_append_right _ (List.mem_of_getElem? (i := 188) (by decide +kernel))) (by decide +kernel)
theorem m_190 : (.methodLink R_De 64 y_Tb_premiseAt : Cond) ∈ rg_tbl := rg_in (List.mem_append_right _ (List.mem_of_getElem? (i := 190) (by decide +kernel))) (by decide +kernel)
theorem m_191 : (.static y_Tb_premiseAt : Cond) ∈ rg_tbl := rg_in (List.mem_append_right _ (List.mem_of_getElem? (i := 191) (by decide +kernel))) (by decide +kernel)
theorem m_192 : (.code y_Tb_premiseAt b_Tb_premiseAt 2 (some .int) : Cond) ∈ rg_tbl := rg_in (List.mem_append_right _ (List.mem_of_getElem? (i := 192) (by decide +kernel))) (by decide +kernel)
theorem m_193 : (.methodLink R_De 68 y_Tr_subjectsFor : Cond) ∈ rg_tbl := rg_in (List.mem_append_right _ (List.mem_of_getElem? (i := 193) (by decide +kernel))) (by decide +kernel)
theorem m_194 : (.instanceMethod y_Tr_subjectsFor : Cond) ∈ rg_tbl := rg_in (List.mem_append_right _ (List.mem_of_getElem? (i := 194) (by decide +kernel))) (by decide +kernel)
theorem m_195 : (.selects R_Tr y_Tr_subjectsFor y_Tr_subjectsFor : Cond) ∈ rg_tbl := rg_in (List.mem_append_right _ (List.mem_of_getElem? (i := 195) (by decide +kernel))) (by decide +kernel)
theorem m_196 : (.code y_Tr_subjectsFor b_Tr_subjectsFor 3 (some .int) : Cond) ∈ rg_tbl := rg_in (List.mem_append_right _ (List.mem_of_getElem? (i := 196) (by decide +kernel))) (by decide +kernel)
theorem m_198 : (.methodLink R_De 55 y_De_applyRules : Cond) ∈ rg_tbl := rg_in (List.mem_append_right _ (List.mem_of_getElem? (i := 198) (by decide +kernel))) (by decide +kernel)
theorem m_200 : (.instanceMethod y_De_applyRules : Cond) ∈ rg_tbl := rg_in (List.mem_append_right _ (List.mem_of_getElem? (i := 200) (by decide +kernel))) (by decide +kernel)
theorem m_201 : (.code y_De_applyRules b_De_applyRules 9 none : Cond) ∈ rg_tbl := rg_in (List.mem_append_right _ (List.mem_of_getElem? (i := 201) (by decide +kernel))) (by decide +kernel)
theorem m_203 : (.methodLink R_De 75 y_Tb_premiseCount : Cond) ∈ rg_tbl := rg_in (List.mem_append_right _ (List.mem_of_getElem? (i := 203) (by decide +kernel))) (by decide +kernel)
theorem m_204 : (.static y_Tb_premiseCount : Cond) ∈ rg_tbl := rg_in (List.mem_append_right _ (List.mem_of_getElem? (i := 204) (by decide +kernel))) (by decide +kernel)
theorem m_205 : (.code y_Tb_premiseCount b_Tb_premiseCount 1 (some .int) : Cond) ∈ rg_tbl := rg_in (List.mem_append_right _ (List.mem_of_getElem? (i := 205) (by decide +kernel))) (by decide +kernel)
theorem m_206 : (.fieldLink R_Tb 11 "RlRounds$Table" "COUNTS" "[I" : Cond) ∈ rg_tbl := rg_in (List.mem_append_right _ (List.mem_of_getElem? (i := 206) (by decide +kernel))) (by decide +kernel)
theorem m_208 : (.methodLink R_De 81 y_Le_fit : Cond) ∈ rg_tbl := rg_in (List.mem_append_right _ (List.mem_of_getElem? (i := 208) (by decide +kernel))) (by decide +kernel)
theorem m_209 : (.static y_Le_fit : Cond) ∈ rg_tbl := rg_in (List.mem_append_right _ (List.mem_of_getElem? (i := 209) (by decide +kernel))) (by decide +kernel)
theorem m_210 : (.code y_Le_fit b_Le_fit 7 (some .long) : Cond) ∈ rg_tbl := rg_in (List.mem_append_right _ (List.mem_of_getElem? (i := 210) (by decide +kernel))) (by decide +kernel)
theorem m_211 : (.constantLong R_Le 17 (-1) : Cond) ∈ rg_tbl := rg_in (List.mem_append_right _ (List.mem_of_getElem? (i := 211) (by decide +kernel))) (by decide +kernel)
theorem m_212 : (.methodLink R_Le 19 y_Le_bind : Cond) ∈ rg_tbl := rg_in (List.mem_append_right _ (List.mem_of_getElem? (i := 212) (by decide +kernel))) (by decide +kernel)
theorem m_213 : (.static y_Le_bind : Cond) ∈ rg_tbl := rg_in (List.mem_append_right _ (List.mem_of_getElem? (i := 213) (by decide +kernel))) (by decide +kernel)
theorem m_214 : (.code y_Le_bind b_Le_bind 5 (some .long) : Cond) ∈ rg_tbl := rg_in (List.mem_append_right _ (List.mem_of_getElem? (i := 214) (by decide +kernel))) (by decide +kernel)
theorem m_215 : (.methodLink R_Le 13 y_Le_termOf : Cond) ∈ rg_tbl := rg_in (List.mem_append_right _ (List.mem_of_getElem? (i := 215) (by decide +kernel))) (by decide +kernel)
theorem m_216 : (.static y_Le_termOf : Cond) ∈ rg_tbl := rg_in (List.mem_append_right _ (List.mem_of_getElem? (i := 216) (by decide +kernel))) (by decide +kernel)
theorem m_217 : (.code y_Le_termOf b_Le_termOf 3 (some .int) : Cond) ∈ rg_tbl := rg_in (List.mem_append_right _ (List.mem_of_getElem? (i := 217) (by decide +kernel))) (by decide +kernel)
theorem m_218 : (.constantLong R_Le 11 63 : Cond) ∈ rg_tbl := rg_in (List.mem_append_right _ (List.mem_of_getElem? (i := 218) (by decide +kernel))) (by decide +kernel)
theorem m_219 : (.constantLong R_De 85 (-1) : Cond) ∈ rg_tbl := rg_in (List.mem_append_right _ (List.mem_of_getElem? (i := 219) (by decide +kernel))) (by decide +kernel)
theorem m_221 : (.static y_Ma_join : Cond) ∈ rg_tbl := rg_in (List.mem_append_right _ (List.mem_of_getElem? (i := 221) (by decide +kernel))) (by decide +kernel)
theorem m_222 : (.code y_Ma_join b_Ma_join 21 (some .boolean) : Cond) ∈ rg_tbl := rg_in (List.mem_append_right _ (List.mem_of_getElem? (i := 222) (by decide +kernel))) (by decide +kernel)
theorem m_223 : (.methodLink R_Ma 19 y_Tb_premiseCount : Cond) ∈ rg_tbl := rg_in (List.mem_append_right _ (List.mem_of_getElem? (i := 223) (by decide +kernel))) (by decide +kernel)
theorem m_224 : (.methodLink R_Ma 25 y_Ma_meet : Cond) ∈ rg_tbl := rg_in (List.mem_append_right _ (List.mem_of_getElem? (i := 224) (by decide +kernel))) (by decide +kernel)
theorem m_226 : (.sameMethod R_Ma "RlRounds$Matcher" "meet" "(IJ)Z" : Cond) ∈ rg_tbl := rg_in (List.mem_append_right _ (List.mem_of_getElem? (i := 226) (by decide +kernel))) (by decide +kernel)
theorem m_227 : (.selects R_De y_Ma_meet y_De_meet : Cond) ∈ rg_tbl := rg_in (List.mem_append_right _ (List.mem_of_getElem? (i := 227) (by decide +kernel))) (by decide +kernel)
theorem m_228 : (.instanceMethod y_De_meet : Cond) ∈ rg_tbl := rg_in (List.mem_append_right _ (List.mem_of_getElem? (i := 228) (by decide +kernel))) (by decide +kernel)
theorem m_229 : (.code y_De_meet b_De_meet 4 (some .boolean) : Cond) ∈ rg_tbl := rg_in (List.mem_append_right _ (List.mem_of_getElem? (i := 229) (by decide +kernel))) (by decide +kernel)
theorem m_230 : (.methodLink R_De 91 y_Tb_givenCode : Cond) ∈ rg_tbl := rg_in (List.mem_append_right _ (List.mem_of_getElem? (i := 230) (by decide +kernel))) (by decide +kernel)
theorem m_231 : (.static y_Tb_givenCode : Cond) ∈ rg_tbl := rg_in (List.mem_append_right _ (List.mem_of_getElem? (i := 231) (by decide +kernel))) (by decide +kernel)
theorem m_232 : (.code y_Tb_givenCode b_Tb_givenCode 4 (some .int) : Cond) ∈ rg_tbl := rg_in (List.mem_append_right _ (List.mem_of_getElem? (i := 232) (by decide +kernel))) (by decide +kernel)
theorem m_233 : (.methodLink R_Tb 15 y_Tb_givenAt : Cond) ∈ rg_tbl := rg_in (List.mem_append_right _ (List.mem_of_getElem? (i := 233) (by decide +kernel))) (by decide +kernel)
theorem m_234 : (.static y_Tb_givenAt : Cond) ∈ rg_tbl := rg_in (List.mem_append_right _ (List.mem_of_getElem? (i := 234) (by decide +kernel))) (by decide +kernel)
theorem m_235 : (.code y_Tb_givenAt b_Tb_givenAt 1 (some .int) : Cond) ∈ rg_tbl := rg_in (List.mem_append_right _ (List.mem_of_getElem? (i := 235) (by decide +kernel))) (by decide +kernel)
theorem m_236 : (.fieldLink R_Tb 19 "RlRounds$Table" "GIVEN" "[I" : Cond) ∈ rg_tbl := rg_in (List.mem_append_right _ (List.mem_of_getElem? (i := 236) (by decide +kernel))) (by decide +kernel)
theorem m_238 : (.methodLink R_Tb 22 y_Le_termOf : Cond) ∈ rg_tbl := rg_in (List.mem_append_right _ (List.mem_of_getElem? (i := 238) (by decide +kernel))) (by decide +kernel)
theorem m_240 : (.selects R_Se y_Ma_meet y_Se_meet : Cond) ∈ rg_tbl := rg_in (List.mem_append_right _ (List.mem_of_getElem? (i := 240) (by decide +kernel))) (by decide +kernel)
theorem m_241 : (.instanceMethod y_Se_meet : Cond) ∈ rg_tbl := rg_in (List.mem_append_right _ (List.mem_of_getElem? (i := 241) (by decide +kernel))) (by decide +kernel)
theorem m_242 : (.code y_Se_meet b_Se_meet 5 (some .boolean) : Cond) ∈ rg_tbl := rg_in (List.mem_append_right _ (List.mem_of_getElem? (i := 242) (by decide +kernel))) (by decide +kernel)
theorem m_243 : (.methodLink R_Ma 29 y_Ma_join : Cond) ∈ rg_tbl := rg_in (List.mem_append_right _ (List.mem_of_getElem? (i := 243) (by decide +kernel))) (by decide +kernel)
theorem m_244 : (.methodLink R_Ma 33 y_Tb_premiseAt : Cond) ∈ rg_tbl := rg_in (List.mem_append_right _ (List.mem_of_getElem? (i := 244) (by decide +kernel))) (by decide +kernel)
theorem m_245 : (.fieldLink R_Ma 37 "RlRounds$Table" "PREMISES" "[I" : Cond) ∈ rg_tbl := rg_in (List.mem_append_right _ (List.mem_of_getElem? (i := 245) (by decide +kernel))) (by decide +kernel)
theorem m_246 : (.methodLink R_Ma 40 y_Le_termOf : Cond) ∈ rg_tbl := rg_in (List.mem_append_right _ (List.mem_of_getElem? (i := 246) (by decide +kernel))) (by decide +kernel)
theorem m_247 : (.methodLink R_Ma 46 y_Tr_subjectsFor : Cond) ∈ rg_tbl := rg_in (List.mem_append_right _ (List.mem_of_getElem? (i := 247) (by decide +kernel))) (by decide +kernel)
theorem m_248 : (.methodLink R_Ma 51 y_Ig_bitCount : Cond) ∈ rg_tbl := rg_in (List.mem_append_right _ (List.mem_of_getElem? (i := 248) (by decide +kernel))) (by decide +kernel)
theorem m_249 : (.static y_Ig_bitCount : Cond) ∈ rg_tbl := rg_in (List.mem_append_right _ (List.mem_of_getElem? (i := 249) (by decide +kernel))) (by decide +kernel)
theorem m_250 : (.code y_Ig_bitCount b_Ig_bitCount 1 (some .int) : Cond) ∈ rg_tbl := rg_in (List.mem_append_right _ (List.mem_of_getElem? (i := 250) (by decide +kernel))) (by decide +kernel)
theorem m_251 : (.constant R_Ig 265 1431655765 : Cond) ∈ rg_tbl := rg_in (List.mem_append_right _ (List.mem_of_getElem? (i := 251) (by decide +kernel))) (by decide +kernel)
theorem m_252 : (.constant R_Ig 266 858993459 : Cond) ∈ rg_tbl := rg_in (List.mem_append_right _ (List.mem_of_getElem? (i := 252) (by decide +kernel))) (by decide +kernel)
theorem m_253 : (.constant R_Ig 267 252645135 : Cond) ∈ rg_tbl := rg_in (List.mem_append_right _ (List.mem_of_getElem? (i := 253) (by decide +kernel))) (by decide +kernel)
theorem m_255 : (.static y_Rl_leastOf : Cond) ∈ rg_tbl := rg_in (List.mem_append_right _ (List.mem_of_getElem? (i := 255) (by decide +kernel))) (by decide +kernel)
theorem m_256 : (.code y_Rl_leastOf b_Rl_leastOf 1 (some .int) : Cond) ∈ rg_tbl := rg_in (List.mem_append_right _ (List.mem_of_getElem? (i := 256) (by decide +kernel))) (by decide +kernel)
theorem m_257 : (.methodLink R_Rl 124 y_Ig_bitCount : Cond) ∈ rg_tbl := rg_in (List.mem_append_right _ (List.mem_of_getElem? (i := 257) (by decide +kernel))) (by decide +kernel)
theorem m_259 : (.static y_Rl_withoutLeast : Cond) ∈ rg_tbl := rg_in (List.mem_append_right _ (List.mem_of_getElem? (i := 259) (by decide +kernel))) (by decide +kernel)
theorem m_260 : (.code y_Rl_withoutLeast b_Rl_withoutLeast 1 (some .int) : Cond) ∈ rg_tbl := rg_in (List.mem_append_right _ (List.mem_of_getElem? (i := 260) (by decide +kernel))) (by decide +kernel)
theorem m_261 : (.methodLink R_Ma 62 y_Tr_predicatesFor : Cond) ∈ rg_tbl := rg_in (List.mem_append_right _ (List.mem_of_getElem? (i := 261) (by decide +kernel))) (by decide +kernel)
theorem m_262 : (.instanceMethod y_Tr_predicatesFor : Cond) ∈ rg_tbl := rg_in (List.mem_append_right _ (List.mem_of_getElem? (i := 262) (by decide +kernel))) (by decide +kernel)
theorem m_263 : (.selects R_Tr y_Tr_predicatesFor y_Tr_predicatesFor : Cond) ∈ rg_tbl := rg_in (List.mem_append_right _ (List.mem_of_getElem? (i := 263) (by decide +kernel))) (by decide +kernel)
theorem m_264 : (.code y_Tr_predicatesFor b_Tr_predicatesFor 3 (some .int) : Cond) ∈ rg_tbl := rg_in (List.mem_append_right _ (List.mem_of_getElem? (i := 264) (by decide +kernel))) (by decide +kernel)
theorem m_265 : (.methodLink R_Ma 65 y_Tr_objectsFor : Cond) ∈ rg_tbl := rg_in (List.mem_append_right _ (List.mem_of_getElem? (i := 265) (by decide +kernel))) (by decide +kernel)
theorem m_266 : (.instanceMethod y_Tr_objectsFor : Cond) ∈ rg_tbl := rg_in (List.mem_append_right _ (List.mem_of_getElem? (i := 266) (by decide +kernel))) (by decide +kernel)
theorem m_267 : (.selects R_Tr y_Tr_objectsFor y_Tr_objectsFor : Cond) ∈ rg_tbl := rg_in (List.mem_append_right _ (List.mem_of_getElem? (i := 267) (by decide +kernel))) (by decide +kernel)
theorem m_268 : (.code y_Tr_objectsFor b_Tr_objectsFor 5 (some .int) : Cond) ∈ rg_tbl := rg_in (List.mem_append_right _ (List.mem_of_getElem? (i := 268) (by decide +kernel))) (by decide +kernel)
theorem m_270 : (.methodLink R_Ma 72 y_Le_fit : Cond) ∈ rg_tbl := rg_in (List.mem_append_right _ (List.mem_of_getElem? (i := 270) (by decide +kernel))) (by decide +kernel)
theorem m_271 : (.constantLong R_Ma 76 (-1) : Cond) ∈ rg_tbl := rg_in (List.mem_append_right _ (List.mem_of_getElem? (i := 271) (by decide +kernel))) (by decide +kernel)
theorem m_272 : (.methodLink R_Rl 68 y_De_lastRound : Cond) ∈ rg_tbl := rg_in (List.mem_append_right _ (List.mem_of_getElem? (i := 272) (by decide +kernel))) (by decide +kernel)
theorem m_273 : (.instanceMethod y_De_lastRound : Cond) ∈ rg_tbl := rg_in (List.mem_append_right _ (List.mem_of_getElem? (i := 273) (by decide +kernel))) (by decide +kernel)
theorem m_274 : (.selects R_De y_De_lastRound y_De_lastRound : Cond) ∈ rg_tbl := rg_in (List.mem_append_right _ (List.mem_of_getElem? (i := 274) (by decide +kernel))) (by decide +kernel)
theorem m_275 : (.code y_De_lastRound b_De_lastRound 1 (some .int) : Cond) ∈ rg_tbl := rg_in (List.mem_append_right _ (List.mem_of_getElem? (i := 275) (by decide +kernel))) (by decide +kernel)
theorem m_276 : (.methodLink R_Lw 32 y_Rl_size : Cond) ∈ rg_tbl := rg_in (List.mem_append_right _ (List.mem_of_getElem? (i := 276) (by decide +kernel))) (by decide +kernel)
theorem m_277 : (.instanceMethod y_Rl_size : Cond) ∈ rg_tbl := rg_in (List.mem_append_right _ (List.mem_of_getElem? (i := 277) (by decide +kernel))) (by decide +kernel)
theorem m_278 : (.selects R_Rl y_Rl_size y_Rl_size : Cond) ∈ rg_tbl := rg_in (List.mem_append_right _ (List.mem_of_getElem? (i := 278) (by decide +kernel))) (by decide +kernel)
theorem m_279 : (.code y_Rl_size b_Rl_size 1 (some .int) : Cond) ∈ rg_tbl := rg_in (List.mem_append_right _ (List.mem_of_getElem? (i := 279) (by decide +kernel))) (by decide +kernel)
theorem m_280 : (.methodLink R_Lw 36 y_Rl_triple : Cond) ∈ rg_tbl := rg_in (List.mem_append_right _ (List.mem_of_getElem? (i := 280) (by decide +kernel))) (by decide +kernel)
theorem m_281 : (.instanceMethod y_Rl_triple : Cond) ∈ rg_tbl := rg_in (List.mem_append_right _ (List.mem_of_getElem? (i := 281) (by decide +kernel))) (by decide +kernel)
theorem m_282 : (.selects R_Rl y_Rl_triple y_Rl_triple : Cond) ∈ rg_tbl := rg_in (List.mem_append_right _ (List.mem_of_getElem? (i := 282) (by decide +kernel))) (by decide +kernel)
theorem m_283 : (.code y_Rl_triple b_Rl_triple 2 (some .int) : Cond) ∈ rg_tbl := rg_in (List.mem_append_right _ (List.mem_of_getElem? (i := 283) (by decide +kernel))) (by decide +kernel)
theorem m_284 : (.methodLink R_Rl 75 y_Tr_codeAt : Cond) ∈ rg_tbl := rg_in (List.mem_append_right _ (List.mem_of_getElem? (i := 284) (by decide +kernel))) (by decide +kernel)
theorem m_285 : (.instanceMethod y_Tr_codeAt : Cond) ∈ rg_tbl := rg_in (List.mem_append_right _ (List.mem_of_getElem? (i := 285) (by decide +kernel))) (by decide +kernel)
theorem m_286 : (.selects R_Tr y_Tr_codeAt y_Tr_codeAt : Cond) ∈ rg_tbl := rg_in (List.mem_append_right _ (List.mem_of_getElem? (i := 286) (by decide +kernel))) (by decide +kernel)
theorem m_287 : (.code y_Tr_codeAt b_Tr_codeAt 5 (some .int) : Cond) ∈ rg_tbl := rg_in (List.mem_append_right _ (List.mem_of_getElem? (i := 287) (by decide +kernel))) (by decide +kernel)
theorem m_288 : (.methodLink R_Tr 36 y_Ig_bitCount : Cond) ∈ rg_tbl := rg_in (List.mem_append_right _ (List.mem_of_getElem? (i := 288) (by decide +kernel))) (by decide +kernel)
theorem m_289 : (.methodLink R_Tr 42 y_Tr_elementAt : Cond) ∈ rg_tbl := rg_in (List.mem_append_right _ (List.mem_of_getElem? (i := 289) (by decide +kernel))) (by decide +kernel)
theorem m_290 : (.static y_Tr_elementAt : Cond) ∈ rg_tbl := rg_in (List.mem_append_right _ (List.mem_of_getElem? (i := 290) (by decide +kernel))) (by decide +kernel)
theorem m_291 : (.code y_Tr_elementAt b_Tr_elementAt 4 (some .int) : Cond) ∈ rg_tbl := rg_in (List.mem_append_right _ (List.mem_of_getElem? (i := 291) (by decide +kernel))) (by decide +kernel)
theorem m_294 : (.methodLink R_Lw 41 y_Rl_round : Cond) ∈ rg_tbl := rg_in (List.mem_append_right _ (List.mem_of_getElem? (i := 294) (by decide +kernel))) (by decide +kernel)
theorem m_295 : (.instanceMethod y_Rl_round : Cond) ∈ rg_tbl := rg_in (List.mem_append_right _ (List.mem_of_getElem? (i := 295) (by decide +kernel))) (by decide +kernel)
theorem m_296 : (.selects R_Rl y_Rl_round y_Rl_round : Cond) ∈ rg_tbl := rg_in (List.mem_append_right _ (List.mem_of_getElem? (i := 296) (by decide +kernel))) (by decide +kernel)
theorem m_297 : (.code y_Rl_round b_Rl_round 4 (some .int) : Cond) ∈ rg_tbl := rg_in (List.mem_append_right _ (List.mem_of_getElem? (i := 297) (by decide +kernel))) (by decide +kernel)
theorem m_298 : (.methodLink R_Rl 78 y_De_roundOf : Cond) ∈ rg_tbl := rg_in (List.mem_append_right _ (List.mem_of_getElem? (i := 298) (by decide +kernel))) (by decide +kernel)
theorem m_299 : (.instanceMethod y_De_roundOf : Cond) ∈ rg_tbl := rg_in (List.mem_append_right _ (List.mem_of_getElem? (i := 299) (by decide +kernel))) (by decide +kernel)
theorem m_300 : (.selects R_De y_De_roundOf y_De_roundOf : Cond) ∈ rg_tbl := rg_in (List.mem_append_right _ (List.mem_of_getElem? (i := 300) (by decide +kernel))) (by decide +kernel)
theorem m_301 : (.code y_De_roundOf b_De_roundOf 3 (some .int) : Cond) ∈ rg_tbl := rg_in (List.mem_append_right _ (List.mem_of_getElem? (i := 301) (by decide +kernel))) (by decide +kernel)
theorem m_302 : (.methodLink R_Lw 45 y_Rl_ways : Cond) ∈ rg_tbl := rg_in (List.mem_append_right _ (List.mem_of_getElem? (i := 302) (by decide +kernel))) (by decide +kernel)
theorem m_303 : (.instanceMethod y_Rl_ways : Cond) ∈ rg_tbl := rg_in (List.mem_append_right _ (List.mem_of_getElem? (i := 303) (by decide +kernel))) (by decide +kernel)
theorem m_304 : (.selects R_Rl y_Rl_ways y_Rl_ways : Cond) ∈ rg_tbl := rg_in (List.mem_append_right _ (List.mem_of_getElem? (i := 304) (by decide +kernel))) (by decide +kernel)
theorem m_305 : (.code y_Rl_ways b_Rl_ways 4 (some .int) : Cond) ∈ rg_tbl := rg_in (List.mem_append_right _ (List.mem_of_getElem? (i := 305) (by decide +kernel))) (by decide +kernel)
theorem m_306 : (.methodLink R_Rl 81 y_Se_countWays : Cond) ∈ rg_tbl := rg_in (List.mem_append_right _ (List.mem_of_getElem? (i := 306) (by decide +kernel))) (by decide +kernel)
theorem m_307 : (.instanceMethod y_Se_countWays : Cond) ∈ rg_tbl := rg_in (List.mem_append_right _ (List.mem_of_getElem? (i := 307) (by decide +kernel))) (by decide +kernel)
theorem m_308 : (.selects R_Se y_Se_countWays y_Se_countWays : Cond) ∈ rg_tbl := rg_in (List.mem_append_right _ (List.mem_of_getElem? (i := 308) (by decide +kernel))) (by decide +kernel)
theorem m_309 : (.code y_Se_countWays b_Se_countWays 3 (some .int) : Cond) ∈ rg_tbl := rg_in (List.mem_append_right _ (List.mem_of_getElem? (i := 309) (by decide +kernel))) (by decide +kernel)
theorem m_310 : (.methodLink R_Se 21 y_Se_seekWay : Cond) ∈ rg_tbl := rg_in (List.mem_append_right _ (List.mem_of_getElem? (i := 310) (by decide +kernel))) (by decide +kernel)
theorem m_311 : (.instanceMethod y_Se_seekWay : Cond) ∈ rg_tbl := rg_in (List.mem_append_right _ (List.mem_of_getElem? (i := 311) (by decide +kernel))) (by decide +kernel)
theorem m_312 : (.selects R_Se y_Se_seekWay y_Se_seekWay : Cond) ∈ rg_tbl := rg_in (List.mem_append_right _ (List.mem_of_getElem? (i := 312) (by decide +kernel))) (by decide +kernel)
theorem m_313 : (.code y_Se_seekWay b_Se_seekWay 7 (some .boolean) : Cond) ∈ rg_tbl := rg_in (List.mem_append_right _ (List.mem_of_getElem? (i := 313) (by decide +kernel))) (by decide +kernel)
theorem m_315 : (.fieldLink R_Se 29 "RlRounds$Table" "GIVEN" "[I" : Cond) ∈ rg_tbl := rg_in (List.mem_append_right _ (List.mem_of_getElem? (i := 315) (by decide +kernel))) (by decide +kernel)
theorem m_316 : (.methodLink R_Se 35 y_Tb_givenAt : Cond) ∈ rg_tbl := rg_in (List.mem_append_right _ (List.mem_of_getElem? (i := 316) (by decide +kernel))) (by decide +kernel)
theorem m_317 : (.methodLink R_Se 41 y_Le_fit : Cond) ∈ rg_tbl := rg_in (List.mem_append_right _ (List.mem_of_getElem? (i := 317) (by decide +kernel))) (by decide +kernel)
theorem m_318 : (.constantLong R_Se 45 (-1) : Cond) ∈ rg_tbl := rg_in (List.mem_append_right _ (List.mem_of_getElem? (i := 318) (by decide +kernel))) (by decide +kernel)
theorem m_320 : (.methodLink R_Lw 49 y_Rl_way : Cond) ∈ rg_tbl := rg_in (List.mem_append_right _ (List.mem_of_getElem? (i := 320) (by decide +kernel))) (by decide +kernel)
theorem m_321 : (.instanceMethod y_Rl_way : Cond) ∈ rg_tbl := rg_in (List.mem_append_right _ (List.mem_of_getElem? (i := 321) (by decide +kernel))) (by decide +kernel)
theorem m_322 : (.selects R_Rl y_Rl_way y_Rl_way : Cond) ∈ rg_tbl := rg_in (List.mem_append_right _ (List.mem_of_getElem? (i := 322) (by decide +kernel))) (by decide +kernel)
theorem m_323 : (.code y_Rl_way b_Rl_way 6 (some .int) : Cond) ∈ rg_tbl := rg_in (List.mem_append_right _ (List.mem_of_getElem? (i := 323) (by decide +kernel))) (by decide +kernel)
theorem m_324 : (.methodLink R_Rl 85 y_Se_seekWay : Cond) ∈ rg_tbl := rg_in (List.mem_append_right _ (List.mem_of_getElem? (i := 324) (by decide +kernel))) (by decide +kernel)
theorem m_325 : (.methodLink R_Rl 91 y_Se_foundPremise : Cond) ∈ rg_tbl := rg_in (List.mem_append_right _ (List.mem_of_getElem? (i := 325) (by decide +kernel))) (by decide +kernel)
theorem m_326 : (.instanceMethod y_Se_foundPremise : Cond) ∈ rg_tbl := rg_in (List.mem_append_right _ (List.mem_of_getElem? (i := 326) (by decide +kernel))) (by decide +kernel)
theorem m_327 : (.selects R_Se y_Se_foundPremise y_Se_foundPremise : Cond) ∈ rg_tbl := rg_in (List.mem_append_right _ (List.mem_of_getElem? (i := 327) (by decide +kernel))) (by decide +kernel)
theorem m_328 : (.code y_Se_foundPremise b_Se_foundPremise 2 (some .int) : Cond) ∈ rg_tbl := rg_in (List.mem_append_right _ (List.mem_of_getElem? (i := 328) (by decide +kernel))) (by decide +kernel)
theorem m_329 : (.methodLink R_Se 55 y_Tb_premiseCount : Cond) ∈ rg_tbl := rg_in (List.mem_append_right _ (List.mem_of_getElem? (i := 329) (by decide +kernel))) (by decide +kernel)
theorem m_330 : (.methodLink R_Lw 54 y_Rl_clashes : Cond) ∈ rg_tbl := rg_in (List.mem_append_right _ (List.mem_of_getElem? (i := 330) (by decide +kernel))) (by decide +kernel)
theorem m_331 : (.instanceMethod y_Rl_clashes : Cond) ∈ rg_tbl := rg_in (List.mem_append_right _ (List.mem_of_getElem? (i := 331) (by decide +kernel))) (by decide +kernel)
theorem m_332 : (.selects R_Rl y_Rl_clashes y_Rl_clashes : Cond) ∈ rg_tbl := rg_in (List.mem_append_right _ (List.mem_of_getElem? (i := 332) (by decide +kernel))) (by decide +kernel)
theorem m_333 : (.code y_Rl_clashes b_Rl_clashes 1 (some .int) : Cond) ∈ rg_tbl := rg_in (List.mem_append_right _ (List.mem_of_getElem? (i := 333) (by decide +kernel))) (by decide +kernel)
theorem m_334 : (.methodLink R_Rl 94 y_Se_countClashes : Cond) ∈ rg_tbl := rg_in (List.mem_append_right _ (List.mem_of_getElem? (i := 334) (by decide +kernel))) (by decide +kernel)
theorem m_335 : (.instanceMethod y_Se_countClashes : Cond) ∈ rg_tbl := rg_in (List.mem_append_right _ (List.mem_of_getElem? (i := 335) (by decide +kernel))) (by decide +kernel)
theorem m_336 : (.selects R_Se y_Se_countClashes y_Se_countClashes : Cond) ∈ rg_tbl := rg_in (List.mem_append_right _ (List.mem_of_getElem? (i := 336) (by decide +kernel))) (by decide +kernel)
theorem m_337 : (.code y_Se_countClashes b_Se_countClashes 1 (some .int) : Cond) ∈ rg_tbl := rg_in (List.mem_append_right _ (List.mem_of_getElem? (i := 337) (by decide +kernel))) (by decide +kernel)
theorem m_338 : (.methodLink R_Se 51 y_Se_seekClash : Cond) ∈ rg_tbl := rg_in (List.mem_append_right _ (List.mem_of_getElem? (i := 338) (by decide +kernel))) (by decide +kernel)
theorem m_339 : (.instanceMethod y_Se_seekClash : Cond) ∈ rg_tbl := rg_in (List.mem_append_right _ (List.mem_of_getElem? (i := 339) (by decide +kernel))) (by decide +kernel)
theorem m_340 : (.selects R_Se y_Se_seekClash y_Se_seekClash : Cond) ∈ rg_tbl := rg_in (List.mem_append_right _ (List.mem_of_getElem? (i := 340) (by decide +kernel))) (by decide +kernel)
theorem m_341 : (.code y_Se_seekClash b_Se_seekClash 3 (some .boolean) : Cond) ∈ rg_tbl := rg_in (List.mem_append_right _ (List.mem_of_getElem? (i := 341) (by decide +kernel))) (by decide +kernel)
theorem m_342 : (.methodLink R_Lw 58 y_Rl_clash : Cond) ∈ rg_tbl := rg_in (List.mem_append_right _ (List.mem_of_getElem? (i := 342) (by decide +kernel))) (by decide +kernel)
theorem m_343 : (.instanceMethod y_Rl_clash : Cond) ∈ rg_tbl := rg_in (List.mem_append_right _ (List.mem_of_getElem? (i := 343) (by decide +kernel))) (by decide +kernel)
theorem m_344 : (.selects R_Rl y_Rl_clash y_Rl_clash : Cond) ∈ rg_tbl := rg_in (List.mem_append_right _ (List.mem_of_getElem? (i := 344) (by decide +kernel))) (by decide +kernel)
theorem m_345 : (.code y_Rl_clash b_Rl_clash 3 (some .int) : Cond) ∈ rg_tbl := rg_in (List.mem_append_right _ (List.mem_of_getElem? (i := 345) (by decide +kernel))) (by decide +kernel)
theorem m_346 : (.methodLink R_Rl 97 y_Se_seekClash : Cond) ∈ rg_tbl := rg_in (List.mem_append_right _ (List.mem_of_getElem? (i := 346) (by decide +kernel))) (by decide +kernel)
theorem m_347 : (.methodLink R_Lw 63 y_Rl_group : Cond) ∈ rg_tbl := rg_in (List.mem_append_right _ (List.mem_of_getElem? (i := 347) (by decide +kernel))) (by decide +kernel)
theorem m_348 : (.instanceMethod y_Rl_group : Cond) ∈ rg_tbl := rg_in (List.mem_append_right _ (List.mem_of_getElem? (i := 348) (by decide +kernel))) (by decide +kernel)
theorem m_349 : (.selects R_Rl y_Rl_group y_Rl_group : Cond) ∈ rg_tbl := rg_in (List.mem_append_right _ (List.mem_of_getElem? (i := 349) (by decide +kernel))) (by decide +kernel)
theorem m_350 : (.code y_Rl_group b_Rl_group 3 (some .int) : Cond) ∈ rg_tbl := rg_in (List.mem_append_right _ (List.mem_of_getElem? (i := 350) (by decide +kernel))) (by decide +kernel)
theorem m_351 : (.methodLink R_Rl 106 y_Tr_objectsFor : Cond) ∈ rg_tbl := rg_in (List.mem_append_right _ (List.mem_of_getElem? (i := 351) (by decide +kernel))) (by decide +kernel)
theorem m_352 : (.methodLink R_Rl 109 y_Rl_leastOf : Cond) ∈ rg_tbl := rg_in (List.mem_append_right _ (List.mem_of_getElem? (i := 352) (by decide +kernel))) (by decide +kernel)
theorem m_353 : (.methodLink R_Rl 112 y_Mt_min : Cond) ∈ rg_tbl := rg_in (List.mem_append_right _ (List.mem_of_getElem? (i := 353) (by decide +kernel))) (by decide +kernel)
theorem m_354 : (.static y_Mt_min : Cond) ∈ rg_tbl := rg_in (List.mem_append_right _ (List.mem_of_getElem? (i := 354) (by decide +kernel))) (by decide +kernel)
theorem m_355 : (.code y_Mt_min b_Mt_min 2 (some .int) : Cond) ∈ rg_tbl := rg_in (List.mem_append_right _ (List.mem_of_getElem? (i := 355) (by decide +kernel))) (by decide +kernel)
theorem m_356 : (.methodLink R_Lw 67 y_Rl_said : Cond) ∈ rg_tbl := rg_in (List.mem_append_right _ (List.mem_of_getElem? (i := 356) (by decide +kernel))) (by decide +kernel)
theorem m_357 : (.instanceMethod y_Rl_said : Cond) ∈ rg_tbl := rg_in (List.mem_append_right _ (List.mem_of_getElem? (i := 357) (by decide +kernel))) (by decide +kernel)
theorem m_358 : (.selects R_Rl y_Rl_said y_Rl_said : Cond) ∈ rg_tbl := rg_in (List.mem_append_right _ (List.mem_of_getElem? (i := 358) (by decide +kernel))) (by decide +kernel)
theorem m_359 : (.code y_Rl_said b_Rl_said 1 (some .int) : Cond) ∈ rg_tbl := rg_in (List.mem_append_right _ (List.mem_of_getElem? (i := 359) (by decide +kernel))) (by decide +kernel)
theorem m_360 : (.classLink R_Lw 10 "RlRoundsModel" : Cond) ∈ rg_tbl := rg_in (List.mem_append_right _ (List.mem_of_getElem? (i := 360) (by decide +kernel))) (by decide +kernel)
theorem m_361 : (.instantiable R_Mo 15 : Cond) ∈ rg_tbl := rg_in (List.mem_append_right _ (List.mem_of_getElem? (i := 361) (by decide +kernel))) (by decide +kernel)
theorem m_362 : (.methodLink R_Lw 12 y_Mo_init : Cond) ∈ rg_tbl := rg_in (List.mem_append_right _ (List.mem_of_getElem? (i := 362) (by decide +kernel))) (by decide +kernel)
theorem m_363 : (.instanceMethod y_Mo_init : Cond) ∈ rg_tbl := rg_in (List.mem_append_right _ (List.mem_of_getElem? (i := 363) (by decide +kernel))) (by decide +kernel)
theorem m_364 : (.code y_Mo_init b_Mo_init 1 none : Cond) ∈ rg_tbl := rg_in (List.mem_append_right _ (List.mem_of_getElem? (i := 364) (by decide +kernel))) (by decide +kernel)
theorem m_365 : (.methodLink R_Mo 1 objectInit : Cond) ∈ rg_tbl := rg_in (List.mem_append_right _ (List.mem_of_getElem? (i := 365) (by decide +kernel))) (by decide +kernel)
theorem m_366 : (.constant R_Mo 7 32768 : Cond) ∈ rg_tbl := rg_in (List.mem_append_right _ (List.mem_of_getElem? (i := 366) (by decide +kernel))) (by decide +kernel)
theorem m_367 : (.fieldLink R_Mo 8 "RlRoundsModel" "said" "[Z" : Cond) ∈ rg_tbl := rg_in (List.mem_append_right _ (List.mem_of_getElem? (i := 367) (by decide +kernel))) (by decide +kernel)
theorem m_368 : (.fieldLink R_Mo 148 "RlRoundsModel" "saidCount" "I" : Cond) ∈ rg_tbl := rg_in (List.mem_append_right _ (List.mem_of_getElem? (i := 368) (by decide +kernel))) (by decide +kernel)
theorem m_369 : (.fieldLink R_Mo 14 "RlRoundsModel" "off" "[Z" : Cond) ∈ rg_tbl := rg_in (List.mem_append_right _ (List.mem_of_getElem? (i := 369) (by decide +kernel))) (by decide +kernel)
theorem m_370 : (.fieldLink R_Mo 36 "RlRoundsModel" "known" "Z" : Cond) ∈ rg_tbl := rg_in (List.mem_append_right _ (List.mem_of_getElem? (i := 370) (by decide +kernel))) (by decide +kernel)
theorem m_371 : (.fieldLink R_Mo 124 "RlRoundsModel" "large" "Z" : Cond) ∈ rg_tbl := rg_in (List.mem_append_right _ (List.mem_of_getElem? (i := 371) (by decide +kernel))) (by decide +kernel)
theorem m_372 : (.fieldLink R_Mo 127 "RlRoundsModel" "greatest" "I" : Cond) ∈ rg_tbl := rg_in (List.mem_append_right _ (List.mem_of_getElem? (i := 372) (by decide +kernel))) (by decide +kernel)
theorem m_373 : (.fieldLink R_Mo 17 "RlRoundsModel" "rounds" "[I" : Cond) ∈ rg_tbl := rg_in (List.mem_append_right _ (List.mem_of_getElem? (i := 373) (by decide +kernel))) (by decide +kernel)
theorem m_374 : (.fieldLink R_Mo 21 "RlRoundsModel" "comes" "[Z" : Cond) ∈ rg_tbl := rg_in (List.mem_append_right _ (List.mem_of_getElem? (i := 374) (by decide +kernel))) (by decide +kernel)
theorem m_375 : (.fieldLink R_Mo 24 "RlRoundsModel" "held" "[I" : Cond) ∈ rg_tbl := rg_in (List.mem_append_right _ (List.mem_of_getElem? (i := 375) (by decide +kernel))) (by decide +kernel)
theorem m_376 : (.fieldLink R_Mo 111 "RlRoundsModel" "many" "I" : Cond) ∈ rg_tbl := rg_in (List.mem_append_right _ (List.mem_of_getElem? (i := 376) (by decide +kernel))) (by decide +kernel)
theorem m_377 : (.fieldLink R_Mo 27 "RlRoundsModel" "at" "[I" : Cond) ∈ rg_tbl := rg_in (List.mem_append_right _ (List.mem_of_getElem? (i := 377) (by decide +kernel))) (by decide +kernel)
theorem m_378 : (.fieldLink R_Mo 30 "RlRoundsModel" "letters" "[I" : Cond) ∈ rg_tbl := rg_in (List.mem_append_right _ (List.mem_of_getElem? (i := 378) (by decide +kernel))) (by decide +kernel)
theorem m_379 : (.fieldLink R_Mo 33 "RlRoundsModel" "bound" "[I" : Cond) ∈ rg_tbl := rg_in (List.mem_append_right _ (List.mem_of_getElem? (i := 379) (by decide +kernel))) (by decide +kernel)
theorem m_380 : (.fieldLink R_Mo 98 "RlRoundsModel" "level" "I" : Cond) ∈ rg_tbl := rg_in (List.mem_append_right _ (List.mem_of_getElem? (i := 380) (by decide +kernel))) (by decide +kernel)
theorem m_381 : (.fieldLink R_Mo 94 "RlRoundsModel" "rule" "I" : Cond) ∈ rg_tbl := rg_in (List.mem_append_right _ (List.mem_of_getElem? (i := 381) (by decide +kernel))) (by decide +kernel)
theorem m_413 : (.arrayClass .boolean : Cond) ∈ rg_tbl := rg_in (List.mem_append_right _ (List.mem_of_getElem? (i := 413) (by decide +kernel))) (by decide +kernel)
theorem m_414 : (.methodLink R_Lw 17 y_Mo_say : Cond) ∈ rg_tbl := rg_in (List.mem_append_right _ (List.mem_of_getElem? (i := 414) (by decide +kernel))) (by decide +kernel)
theorem m_415 : (.instanceMethod y_Mo_say : Cond) ∈ rg_tbl := rg_in (List.mem_append_right _ (List.mem_of_getElem? (i := 415) (by decide +kernel))) (by decide +kernel)
theorem m_416 : (.selects R_Mo y_Mo_say y_Mo_say : Cond) ∈ rg_tbl := rg_in (List.mem_append_right _ (List.mem_of_getElem? (i := 416) (by decide +kernel))) (by decide +kernel)
theorem m_417 : (.code y_Mo_say b_Mo_say 5 (some .int) : Cond) ∈ rg_tbl := rg_in (List.mem_append_right _ (List.mem_of_getElem? (i := 417) (by decide +kernel))) (by decide +kernel)
theorem m_418 : (.methodLink R_Mo 145 y_Mo_isTriple : Cond) ∈ rg_tbl := rg_in (List.mem_append_right _ (List.mem_of_getElem? (i := 418) (by decide +kernel))) (by decide +kernel)
theorem m_419 : (.static y_Mo_isTriple : Cond) ∈ rg_tbl := rg_in (List.mem_append_right _ (List.mem_of_getElem? (i := 419) (by decide +kernel))) (by decide +kernel)
theorem m_420 : (.code y_Mo_isTriple b_Mo_isTriple 3 (some .boolean) : Cond) ∈ rg_tbl := rg_in (List.mem_append_right _ (List.mem_of_getElem? (i := 420) (by decide +kernel))) (by decide +kernel)
theorem m_421 : (.methodLink R_Mo 40 y_Mo_isTerm : Cond) ∈ rg_tbl := rg_in (List.mem_append_right _ (List.mem_of_getElem? (i := 421) (by decide +kernel))) (by decide +kernel)
theorem m_422 : (.static y_Mo_isTerm : Cond) ∈ rg_tbl := rg_in (List.mem_append_right _ (List.mem_of_getElem? (i := 422) (by decide +kernel))) (by decide +kernel)
theorem m_423 : (.code y_Mo_isTerm b_Mo_isTerm 1 (some .boolean) : Cond) ∈ rg_tbl := rg_in (List.mem_append_right _ (List.mem_of_getElem? (i := 423) (by decide +kernel))) (by decide +kernel)
theorem m_424 : (.methodLink R_Mo 120 y_Mo_codeOf : Cond) ∈ rg_tbl := rg_in (List.mem_append_right _ (List.mem_of_getElem? (i := 424) (by decide +kernel))) (by decide +kernel)
theorem m_425 : (.static y_Mo_codeOf : Cond) ∈ rg_tbl := rg_in (List.mem_append_right _ (List.mem_of_getElem? (i := 425) (by decide +kernel))) (by decide +kernel)
theorem m_426 : (.code y_Mo_codeOf b_Mo_codeOf 3 (some .int) : Cond) ∈ rg_tbl := rg_in (List.mem_append_right _ (List.mem_of_getElem? (i := 426) (by decide +kernel))) (by decide +kernel)
theorem m_427 : (.methodLink R_Lw 21 y_Mo_unsay : Cond) ∈ rg_tbl := rg_in (List.mem_append_right _ (List.mem_of_getElem? (i := 427) (by decide +kernel))) (by decide +kernel)
theorem m_428 : (.instanceMethod y_Mo_unsay : Cond) ∈ rg_tbl := rg_in (List.mem_append_right _ (List.mem_of_getElem? (i := 428) (by decide +kernel))) (by decide +kernel)
theorem m_429 : (.selects R_Mo y_Mo_unsay y_Mo_unsay : Cond) ∈ rg_tbl := rg_in (List.mem_append_right _ (List.mem_of_getElem? (i := 429) (by decide +kernel))) (by decide +kernel)
theorem m_430 : (.code y_Mo_unsay b_Mo_unsay 5 (some .int) : Cond) ∈ rg_tbl := rg_in (List.mem_append_right _ (List.mem_of_getElem? (i := 430) (by decide +kernel))) (by decide +kernel)
theorem m_431 : (.methodLink R_Lw 26 y_Mo_rule : Cond) ∈ rg_tbl := rg_in (List.mem_append_right _ (List.mem_of_getElem? (i := 431) (by decide +kernel))) (by decide +kernel)
theorem m_432 : (.instanceMethod y_Mo_rule : Cond) ∈ rg_tbl := rg_in (List.mem_append_right _ (List.mem_of_getElem? (i := 432) (by decide +kernel))) (by decide +kernel)
theorem m_433 : (.selects R_Mo y_Mo_rule y_Mo_rule : Cond) ∈ rg_tbl := rg_in (List.mem_append_right _ (List.mem_of_getElem? (i := 433) (by decide +kernel))) (by decide +kernel)
theorem m_434 : (.code y_Mo_rule b_Mo_rule 3 (some .int) : Cond) ∈ rg_tbl := rg_in (List.mem_append_right _ (List.mem_of_getElem? (i := 434) (by decide +kernel))) (by decide +kernel)
theorem m_435 : (.methodLink R_Lw 31 y_Mo_run : Cond) ∈ rg_tbl := rg_in (List.mem_append_right _ (List.mem_of_getElem? (i := 435) (by decide +kernel))) (by decide +kernel)
theorem m_436 : (.instanceMethod y_Mo_run : Cond) ∈ rg_tbl := rg_in (List.mem_append_right _ (List.mem_of_getElem? (i := 436) (by decide +kernel))) (by decide +kernel)
theorem m_437 : (.selects R_Mo y_Mo_run y_Mo_run : Cond) ∈ rg_tbl := rg_in (List.mem_append_right _ (List.mem_of_getElem? (i := 437) (by decide +kernel))) (by decide +kernel)
theorem m_438 : (.code y_Mo_run b_Mo_run 1 (some .int) : Cond) ∈ rg_tbl := rg_in (List.mem_append_right _ (List.mem_of_getElem? (i := 438) (by decide +kernel))) (by decide +kernel)
theorem m_439 : (.methodLink R_Mo 151 y_Mo_make : Cond) ∈ rg_tbl := rg_in (List.mem_append_right _ (List.mem_of_getElem? (i := 439) (by decide +kernel))) (by decide +kernel)
theorem m_441 : (.instanceMethod y_Mo_make : Cond) ∈ rg_tbl := rg_in (List.mem_append_right _ (List.mem_of_getElem? (i := 441) (by decide +kernel))) (by decide +kernel)
theorem m_442 : (.code y_Mo_make b_Mo_make 5 none : Cond) ∈ rg_tbl := rg_in (List.mem_append_right _ (List.mem_of_getElem? (i := 442) (by decide +kernel))) (by decide +kernel)
theorem m_443 : (.methodLink R_Mo 130 y_Mo_collect : Cond) ∈ rg_tbl := rg_in (List.mem_append_right _ (List.mem_of_getElem? (i := 443) (by decide +kernel))) (by decide +kernel)
theorem m_445 : (.instanceMethod y_Mo_collect : Cond) ∈ rg_tbl := rg_in (List.mem_append_right _ (List.mem_of_getElem? (i := 445) (by decide +kernel))) (by decide +kernel)
theorem m_446 : (.code y_Mo_collect b_Mo_collect 2 none : Cond) ∈ rg_tbl := rg_in (List.mem_append_right _ (List.mem_of_getElem? (i := 446) (by decide +kernel))) (by decide +kernel)
theorem m_447 : (.methodLink R_Mo 133 y_Mo_begin : Cond) ∈ rg_tbl := rg_in (List.mem_append_right _ (List.mem_of_getElem? (i := 447) (by decide +kernel))) (by decide +kernel)
theorem m_449 : (.instanceMethod y_Mo_begin : Cond) ∈ rg_tbl := rg_in (List.mem_append_right _ (List.mem_of_getElem? (i := 449) (by decide +kernel))) (by decide +kernel)
theorem m_450 : (.code y_Mo_begin b_Mo_begin 3 none : Cond) ∈ rg_tbl := rg_in (List.mem_append_right _ (List.mem_of_getElem? (i := 450) (by decide +kernel))) (by decide +kernel)
theorem m_451 : (.methodLink R_Mo 137 y_Mo_next : Cond) ∈ rg_tbl := rg_in (List.mem_append_right _ (List.mem_of_getElem? (i := 451) (by decide +kernel))) (by decide +kernel)
theorem m_453 : (.instanceMethod y_Mo_next : Cond) ∈ rg_tbl := rg_in (List.mem_append_right _ (List.mem_of_getElem? (i := 453) (by decide +kernel))) (by decide +kernel)
theorem m_454 : (.code y_Mo_next b_Mo_next 2 (some .boolean) : Cond) ∈ rg_tbl := rg_in (List.mem_append_right _ (List.mem_of_getElem? (i := 454) (by decide +kernel))) (by decide +kernel)
theorem m_455 : (.methodLink R_Mo 105 y_Mo_premises : Cond) ∈ rg_tbl := rg_in (List.mem_append_right _ (List.mem_of_getElem? (i := 455) (by decide +kernel))) (by decide +kernel)
theorem m_456 : (.static y_Mo_premises : Cond) ∈ rg_tbl := rg_in (List.mem_append_right _ (List.mem_of_getElem? (i := 456) (by decide +kernel))) (by decide +kernel)
theorem m_457 : (.code y_Mo_premises b_Mo_premises 3 (some .int) : Cond) ∈ rg_tbl := rg_in (List.mem_append_right _ (List.mem_of_getElem? (i := 457) (by decide +kernel))) (by decide +kernel)
theorem m_458 : (.methodLink R_Mo 91 y_Mo_pattern : Cond) ∈ rg_tbl := rg_in (List.mem_append_right _ (List.mem_of_getElem? (i := 458) (by decide +kernel))) (by decide +kernel)
theorem m_459 : (.static y_Mo_pattern : Cond) ∈ rg_tbl := rg_in (List.mem_append_right _ (List.mem_of_getElem? (i := 459) (by decide +kernel))) (by decide +kernel)
theorem m_460 : (.code y_Mo_pattern b_Mo_pattern 1 (some .int) : Cond) ∈ rg_tbl := rg_in (List.mem_append_right _ (List.mem_of_getElem? (i := 460) (by decide +kernel))) (by decide +kernel)
theorem m_461 : (.methodLink R_Mo 44 y_Mo_early : Cond) ∈ rg_tbl := rg_in (List.mem_append_right _ (List.mem_of_getElem? (i := 461) (by decide +kernel))) (by decide +kernel)
theorem m_462 : (.static y_Mo_early : Cond) ∈ rg_tbl := rg_in (List.mem_append_right _ (List.mem_of_getElem? (i := 462) (by decide +kernel))) (by decide +kernel)
theorem m_463 : (.code y_Mo_early b_Mo_early 1 (some .int) : Cond) ∈ rg_tbl := rg_in (List.mem_append_right _ (List.mem_of_getElem? (i := 463) (by decide +kernel))) (by decide +kernel)
theorem m_464 : (.constant R_Mo 51 131489 : Cond) ∈ rg_tbl := rg_in (List.mem_append_right _ (List.mem_of_getElem? (i := 464) (by decide +kernel))) (by decide +kernel)
theorem m_465 : (.constant R_Mo 52 135584 : Cond) ∈ rg_tbl := rg_in (List.mem_append_right _ (List.mem_of_getElem? (i := 465) (by decide +kernel))) (by decide +kernel)
theorem m_466 : (.constant R_Mo 53 135586 : Cond) ∈ rg_tbl := rg_in (List.mem_append_right _ (List.mem_of_getElem? (i := 466) (by decide +kernel))) (by decide +kernel)
theorem m_467 : (.constant R_Mo 54 131490 : Cond) ∈ rg_tbl := rg_in (List.mem_append_right _ (List.mem_of_getElem? (i := 467) (by decide +kernel))) (by decide +kernel)
theorem m_468 : (.constant R_Mo 55 133410 : Cond) ∈ rg_tbl := rg_in (List.mem_append_right _ (List.mem_of_getElem? (i := 468) (by decide +kernel))) (by decide +kernel)
theorem m_469 : (.constant R_Mo 56 137506 : Cond) ∈ rg_tbl := rg_in (List.mem_append_right _ (List.mem_of_getElem? (i := 469) (by decide +kernel))) (by decide +kernel)
theorem m_470 : (.constant R_Mo 57 141600 : Cond) ∈ rg_tbl := rg_in (List.mem_append_right _ (List.mem_of_getElem? (i := 470) (by decide +kernel))) (by decide +kernel)
theorem m_471 : (.constant R_Mo 58 141601 : Cond) ∈ rg_tbl := rg_in (List.mem_append_right _ (List.mem_of_getElem? (i := 471) (by decide +kernel))) (by decide +kernel)
theorem m_472 : (.constant R_Mo 59 147687 : Cond) ∈ rg_tbl := rg_in (List.mem_append_right _ (List.mem_of_getElem? (i := 472) (by decide +kernel))) (by decide +kernel)
theorem m_473 : (.constant R_Mo 60 133409 : Cond) ∈ rg_tbl := rg_in (List.mem_append_right _ (List.mem_of_getElem? (i := 473) (by decide +kernel))) (by decide +kernel)
theorem m_474 : (.constant R_Mo 61 131111 : Cond) ∈ rg_tbl := rg_in (List.mem_append_right _ (List.mem_of_getElem? (i := 474) (by decide +kernel))) (by decide +kernel)
theorem m_475 : (.constant R_Mo 62 147751 : Cond) ∈ rg_tbl := rg_in (List.mem_append_right _ (List.mem_of_getElem? (i := 475) (by decide +kernel))) (by decide +kernel)
theorem m_476 : (.constant R_Mo 63 135207 : Cond) ∈ rg_tbl := rg_in (List.mem_append_right _ (List.mem_of_getElem? (i := 476) (by decide +kernel))) (by decide +kernel)
theorem m_477 : (.constant R_Mo 64 147472 : Cond) ∈ rg_tbl := rg_in (List.mem_append_right _ (List.mem_of_getElem? (i := 477) (by decide +kernel))) (by decide +kernel)
theorem m_478 : (.constant R_Mo 65 137504 : Cond) ∈ rg_tbl := rg_in (List.mem_append_right _ (List.mem_of_getElem? (i := 478) (by decide +kernel))) (by decide +kernel)
theorem m_479 : (.constant R_Mo 66 147471 : Cond) ∈ rg_tbl := rg_in (List.mem_append_right _ (List.mem_of_getElem? (i := 479) (by decide +kernel))) (by decide +kernel)
theorem m_480 : (.constant R_Mo 67 147813 : Cond) ∈ rg_tbl := rg_in (List.mem_append_right _ (List.mem_of_getElem? (i := 480) (by decide +kernel))) (by decide +kernel)
theorem m_481 : (.constant R_Mo 68 137568 : Cond) ∈ rg_tbl := rg_in (List.mem_append_right _ (List.mem_of_getElem? (i := 481) (by decide +kernel))) (by decide +kernel)
theorem m_482 : (.constant R_Mo 69 133473 : Cond) ∈ rg_tbl := rg_in (List.mem_append_right _ (List.mem_of_getElem? (i := 482) (by decide +kernel))) (by decide +kernel)
theorem m_483 : (.constant R_Mo 70 147621 : Cond) ∈ rg_tbl := rg_in (List.mem_append_right _ (List.mem_of_getElem? (i := 483) (by decide +kernel))) (by decide +kernel)
theorem m_484 : (.constant R_Mo 71 151718 : Cond) ∈ rg_tbl := rg_in (List.mem_append_right _ (List.mem_of_getElem? (i := 484) (by decide +kernel))) (by decide +kernel)
theorem m_485 : (.constant R_Mo 72 147622 : Cond) ∈ rg_tbl := rg_in (List.mem_append_right _ (List.mem_of_getElem? (i := 485) (by decide +kernel))) (by decide +kernel)
theorem m_486 : (.methodLink R_Mo 48 y_Mo_later : Cond) ∈ rg_tbl := rg_in (List.mem_append_right _ (List.mem_of_getElem? (i := 486) (by decide +kernel))) (by decide +kernel)
theorem m_487 : (.static y_Mo_later : Cond) ∈ rg_tbl := rg_in (List.mem_append_right _ (List.mem_of_getElem? (i := 487) (by decide +kernel))) (by decide +kernel)
theorem m_488 : (.code y_Mo_later b_Mo_later 1 (some .int) : Cond) ∈ rg_tbl := rg_in (List.mem_append_right _ (List.mem_of_getElem? (i := 488) (by decide +kernel))) (by decide +kernel)
theorem m_489 : (.constant R_Mo 73 159848 : Cond) ∈ rg_tbl := rg_in (List.mem_append_right _ (List.mem_of_getElem? (i := 489) (by decide +kernel))) (by decide +kernel)
theorem m_490 : (.constant R_Mo 74 131112 : Cond) ∈ rg_tbl := rg_in (List.mem_append_right _ (List.mem_of_getElem? (i := 490) (by decide +kernel))) (by decide +kernel)
theorem m_491 : (.constant R_Mo 75 163945 : Cond) ∈ rg_tbl := rg_in (List.mem_append_right _ (List.mem_of_getElem? (i := 491) (by decide +kernel))) (by decide +kernel)
theorem m_492 : (.constant R_Mo 76 159849 : Cond) ∈ rg_tbl := rg_in (List.mem_append_right _ (List.mem_of_getElem? (i := 492) (by decide +kernel))) (by decide +kernel)
theorem m_493 : (.constant R_Mo 77 147473 : Cond) ∈ rg_tbl := rg_in (List.mem_append_right _ (List.mem_of_getElem? (i := 493) (by decide +kernel))) (by decide +kernel)
theorem m_494 : (.constant R_Mo 78 147474 : Cond) ∈ rg_tbl := rg_in (List.mem_append_right _ (List.mem_of_getElem? (i := 494) (by decide +kernel))) (by decide +kernel)
theorem m_495 : (.constant R_Mo 79 160424 : Cond) ∈ rg_tbl := rg_in (List.mem_append_right _ (List.mem_of_getElem? (i := 495) (by decide +kernel))) (by decide +kernel)
theorem m_496 : (.constant R_Mo 80 160356 : Cond) ∈ rg_tbl := rg_in (List.mem_append_right _ (List.mem_of_getElem? (i := 496) (by decide +kernel))) (by decide +kernel)
theorem m_497 : (.constant R_Mo 81 135208 : Cond) ∈ rg_tbl := rg_in (List.mem_append_right _ (List.mem_of_getElem? (i := 497) (by decide +kernel))) (by decide +kernel)
theorem m_498 : (.constant R_Mo 82 160488 : Cond) ∈ rg_tbl := rg_in (List.mem_append_right _ (List.mem_of_getElem? (i := 498) (by decide +kernel))) (by decide +kernel)
theorem m_499 : (.constant R_Mo 83 160547 : Cond) ∈ rg_tbl := rg_in (List.mem_append_right _ (List.mem_of_getElem? (i := 499) (by decide +kernel))) (by decide +kernel)
theorem m_500 : (.constant R_Mo 84 133411 : Cond) ∈ rg_tbl := rg_in (List.mem_append_right _ (List.mem_of_getElem? (i := 500) (by decide +kernel))) (by decide +kernel)
theorem m_501 : (.constant R_Mo 85 148325 : Cond) ∈ rg_tbl := rg_in (List.mem_append_right _ (List.mem_of_getElem? (i := 501) (by decide +kernel))) (by decide +kernel)
theorem m_502 : (.constant R_Mo 86 148390 : Cond) ∈ rg_tbl := rg_in (List.mem_append_right _ (List.mem_of_getElem? (i := 502) (by decide +kernel))) (by decide +kernel)
theorem m_503 : (.constant R_Mo 87 137634 : Cond) ∈ rg_tbl := rg_in (List.mem_append_right _ (List.mem_of_getElem? (i := 503) (by decide +kernel))) (by decide +kernel)
theorem m_504 : (.constant R_Mo 88 131553 : Cond) ∈ rg_tbl := rg_in (List.mem_append_right _ (List.mem_of_getElem? (i := 504) (by decide +kernel))) (by decide +kernel)
theorem m_505 : (.constant R_Mo 89 160296 : Cond) ∈ rg_tbl := rg_in (List.mem_append_right _ (List.mem_of_getElem? (i := 505) (by decide +kernel))) (by decide +kernel)
theorem m_506 : (.constant R_Mo 90 148709 : Cond) ∈ rg_tbl := rg_in (List.mem_append_right _ (List.mem_of_getElem? (i := 506) (by decide +kernel))) (by decide +kernel)
theorem m_507 : (.methodLink R_Mo 108 y_Mo_release : Cond) ∈ rg_tbl := rg_in (List.mem_append_right _ (List.mem_of_getElem? (i := 507) (by decide +kernel))) (by decide +kernel)
theorem m_509 : (.instanceMethod y_Mo_release : Cond) ∈ rg_tbl := rg_in (List.mem_append_right _ (List.mem_of_getElem? (i := 509) (by decide +kernel))) (by decide +kernel)
theorem m_510 : (.code y_Mo_release b_Mo_release 2 none : Cond) ∈ rg_tbl := rg_in (List.mem_append_right _ (List.mem_of_getElem? (i := 510) (by decide +kernel))) (by decide +kernel)
theorem m_511 : (.methodLink R_Mo 114 y_Mo_fits : Cond) ∈ rg_tbl := rg_in (List.mem_append_right _ (List.mem_of_getElem? (i := 511) (by decide +kernel))) (by decide +kernel)
theorem m_513 : (.instanceMethod y_Mo_fits : Cond) ∈ rg_tbl := rg_in (List.mem_append_right _ (List.mem_of_getElem? (i := 513) (by decide +kernel))) (by decide +kernel)
theorem m_514 : (.code y_Mo_fits b_Mo_fits 3 (some .boolean) : Cond) ∈ rg_tbl := rg_in (List.mem_append_right _ (List.mem_of_getElem? (i := 514) (by decide +kernel))) (by decide +kernel)
theorem m_515 : (.methodLink R_Mo 101 y_Mo_fitsItem : Cond) ∈ rg_tbl := rg_in (List.mem_append_right _ (List.mem_of_getElem? (i := 515) (by decide +kernel))) (by decide +kernel)
theorem m_517 : (.instanceMethod y_Mo_fitsItem : Cond) ∈ rg_tbl := rg_in (List.mem_append_right _ (List.mem_of_getElem? (i := 517) (by decide +kernel))) (by decide +kernel)
theorem m_518 : (.code y_Mo_fitsItem b_Mo_fitsItem 4 (some .boolean) : Cond) ∈ rg_tbl := rg_in (List.mem_append_right _ (List.mem_of_getElem? (i := 518) (by decide +kernel))) (by decide +kernel)
theorem m_519 : (.methodLink R_Mo 141 y_Mo_given : Cond) ∈ rg_tbl := rg_in (List.mem_append_right _ (List.mem_of_getElem? (i := 519) (by decide +kernel))) (by decide +kernel)
theorem m_521 : (.instanceMethod y_Mo_given : Cond) ∈ rg_tbl := rg_in (List.mem_append_right _ (List.mem_of_getElem? (i := 521) (by decide +kernel))) (by decide +kernel)
theorem m_522 : (.code y_Mo_given b_Mo_given 2 (some .int) : Cond) ∈ rg_tbl := rg_in (List.mem_append_right _ (List.mem_of_getElem? (i := 522) (by decide +kernel))) (by decide +kernel)
theorem m_523 : (.methodLink R_Mo 117 y_Mo_termOf : Cond) ∈ rg_tbl := rg_in (List.mem_append_right _ (List.mem_of_getElem? (i := 523) (by decide +kernel))) (by decide +kernel)
theorem m_525 : (.instanceMethod y_Mo_termOf : Cond) ∈ rg_tbl := rg_in (List.mem_append_right _ (List.mem_of_getElem? (i := 525) (by decide +kernel))) (by decide +kernel)
theorem m_526 : (.code y_Mo_termOf b_Mo_termOf 2 (some .int) : Cond) ∈ rg_tbl := rg_in (List.mem_append_right _ (List.mem_of_getElem? (i := 526) (by decide +kernel))) (by decide +kernel)
theorem m_527 : (.methodLink R_Lw 35 y_Mo_size : Cond) ∈ rg_tbl := rg_in (List.mem_append_right _ (List.mem_of_getElem? (i := 527) (by decide +kernel))) (by decide +kernel)
theorem m_528 : (.instanceMethod y_Mo_size : Cond) ∈ rg_tbl := rg_in (List.mem_append_right _ (List.mem_of_getElem? (i := 528) (by decide +kernel))) (by decide +kernel)
theorem m_529 : (.selects R_Mo y_Mo_size y_Mo_size : Cond) ∈ rg_tbl := rg_in (List.mem_append_right _ (List.mem_of_getElem? (i := 529) (by decide +kernel))) (by decide +kernel)
theorem m_530 : (.code y_Mo_size b_Mo_size 1 (some .int) : Cond) ∈ rg_tbl := rg_in (List.mem_append_right _ (List.mem_of_getElem? (i := 530) (by decide +kernel))) (by decide +kernel)
theorem m_531 : (.methodLink R_Lw 40 y_Mo_triple : Cond) ∈ rg_tbl := rg_in (List.mem_append_right _ (List.mem_of_getElem? (i := 531) (by decide +kernel))) (by decide +kernel)
theorem m_532 : (.instanceMethod y_Mo_triple : Cond) ∈ rg_tbl := rg_in (List.mem_append_right _ (List.mem_of_getElem? (i := 532) (by decide +kernel))) (by decide +kernel)
theorem m_533 : (.selects R_Mo y_Mo_triple y_Mo_triple : Cond) ∈ rg_tbl := rg_in (List.mem_append_right _ (List.mem_of_getElem? (i := 533) (by decide +kernel))) (by decide +kernel)
theorem m_534 : (.code y_Mo_triple b_Mo_triple 2 (some .int) : Cond) ∈ rg_tbl := rg_in (List.mem_append_right _ (List.mem_of_getElem? (i := 534) (by decide +kernel))) (by decide +kernel)
theorem m_535 : (.methodLink R_Lw 44 y_Mo_round : Cond) ∈ rg_tbl := rg_in (List.mem_append_right _ (List.mem_of_getElem? (i := 535) (by decide +kernel))) (by decide +kernel)
theorem m_536 : (.instanceMethod y_Mo_round : Cond) ∈ rg_tbl := rg_in (List.mem_append_right _ (List.mem_of_getElem? (i := 536) (by decide +kernel))) (by decide +kernel)
theorem m_537 : (.selects R_Mo y_Mo_round y_Mo_round : Cond) ∈ rg_tbl := rg_in (List.mem_append_right _ (List.mem_of_getElem? (i := 537) (by decide +kernel))) (by decide +kernel)
theorem m_538 : (.code y_Mo_round b_Mo_round 5 (some .int) : Cond) ∈ rg_tbl := rg_in (List.mem_append_right _ (List.mem_of_getElem? (i := 538) (by decide +kernel))) (by decide +kernel)
theorem m_539 : (.methodLink R_Lw 48 y_Mo_ways : Cond) ∈ rg_tbl := rg_in (List.mem_append_right _ (List.mem_of_getElem? (i := 539) (by decide +kernel))) (by decide +kernel)
theorem m_540 : (.instanceMethod y_Mo_ways : Cond) ∈ rg_tbl := rg_in (List.mem_append_right _ (List.mem_of_getElem? (i := 540) (by decide +kernel))) (by decide +kernel)
theorem m_541 : (.selects R_Mo y_Mo_ways y_Mo_ways : Cond) ∈ rg_tbl := rg_in (List.mem_append_right _ (List.mem_of_getElem? (i := 541) (by decide +kernel))) (by decide +kernel)
theorem m_542 : (.code y_Mo_ways b_Mo_ways 7 (some .int) : Cond) ∈ rg_tbl := rg_in (List.mem_append_right _ (List.mem_of_getElem? (i := 542) (by decide +kernel))) (by decide +kernel)
theorem m_543 : (.methodLink R_Lw 53 y_Mo_way : Cond) ∈ rg_tbl := rg_in (List.mem_append_right _ (List.mem_of_getElem? (i := 543) (by decide +kernel))) (by decide +kernel)
theorem m_544 : (.instanceMethod y_Mo_way : Cond) ∈ rg_tbl := rg_in (List.mem_append_right _ (List.mem_of_getElem? (i := 544) (by decide +kernel))) (by decide +kernel)
theorem m_545 : (.selects R_Mo y_Mo_way y_Mo_way : Cond) ∈ rg_tbl := rg_in (List.mem_append_right _ (List.mem_of_getElem? (i := 545) (by decide +kernel))) (by decide +kernel)
theorem m_546 : (.code y_Mo_way b_Mo_way 9 (some .int) : Cond) ∈ rg_tbl := rg_in (List.mem_append_right _ (List.mem_of_getElem? (i := 546) (by decide +kernel))) (by decide +kernel)
theorem m_547 : (.methodLink R_Mo 154 y_Mo_premise : Cond) ∈ rg_tbl := rg_in (List.mem_append_right _ (List.mem_of_getElem? (i := 547) (by decide +kernel))) (by decide +kernel)
theorem m_549 : (.instanceMethod y_Mo_premise : Cond) ∈ rg_tbl := rg_in (List.mem_append_right _ (List.mem_of_getElem? (i := 549) (by decide +kernel))) (by decide +kernel)
theorem m_550 : (.code y_Mo_premise b_Mo_premise 2 (some .int) : Cond) ∈ rg_tbl := rg_in (List.mem_append_right _ (List.mem_of_getElem? (i := 550) (by decide +kernel))) (by decide +kernel)
theorem m_551 : (.methodLink R_Lw 57 y_Mo_clashes : Cond) ∈ rg_tbl := rg_in (List.mem_append_right _ (List.mem_of_getElem? (i := 551) (by decide +kernel))) (by decide +kernel)
theorem m_552 : (.instanceMethod y_Mo_clashes : Cond) ∈ rg_tbl := rg_in (List.mem_append_right _ (List.mem_of_getElem? (i := 552) (by decide +kernel))) (by decide +kernel)
theorem m_553 : (.selects R_Mo y_Mo_clashes y_Mo_clashes : Cond) ∈ rg_tbl := rg_in (List.mem_append_right _ (List.mem_of_getElem? (i := 553) (by decide +kernel))) (by decide +kernel)
theorem m_554 : (.code y_Mo_clashes b_Mo_clashes 3 (some .int) : Cond) ∈ rg_tbl := rg_in (List.mem_append_right _ (List.mem_of_getElem? (i := 554) (by decide +kernel))) (by decide +kernel)
theorem m_555 : (.methodLink R_Lw 62 y_Mo_clash : Cond) ∈ rg_tbl := rg_in (List.mem_append_right _ (List.mem_of_getElem? (i := 555) (by decide +kernel))) (by decide +kernel)
theorem m_556 : (.instanceMethod y_Mo_clash : Cond) ∈ rg_tbl := rg_in (List.mem_append_right _ (List.mem_of_getElem? (i := 556) (by decide +kernel))) (by decide +kernel)
theorem m_557 : (.selects R_Mo y_Mo_clash y_Mo_clash : Cond) ∈ rg_tbl := rg_in (List.mem_append_right _ (List.mem_of_getElem? (i := 557) (by decide +kernel))) (by decide +kernel)
theorem m_558 : (.code y_Mo_clash b_Mo_clash 5 (some .int) : Cond) ∈ rg_tbl := rg_in (List.mem_append_right _ (List.mem_of_getElem? (i := 558) (by decide +kernel))) (by decide +kernel)
theorem m_559 : (.methodLink R_Lw 66 y_Mo_group : Cond) ∈ rg_tbl := rg_in (List.mem_append_right _ (List.mem_of_getElem? (i := 559) (by decide +kernel))) (by decide +kernel)
theorem m_560 : (.instanceMethod y_Mo_group : Cond) ∈ rg_tbl := rg_in (List.mem_append_right _ (List.mem_of_getElem? (i := 560) (by decide +kernel))) (by decide +kernel)
theorem m_561 : (.selects R_Mo y_Mo_group y_Mo_group : Cond) ∈ rg_tbl := rg_in (List.mem_append_right _ (List.mem_of_getElem? (i := 561) (by decide +kernel))) (by decide +kernel)
theorem m_562 : (.code y_Mo_group b_Mo_group 4 (some .int) : Cond) ∈ rg_tbl := rg_in (List.mem_append_right _ (List.mem_of_getElem? (i := 562) (by decide +kernel))) (by decide +kernel)
theorem m_563 : (.methodLink R_Lw 70 y_Mo_said : Cond) ∈ rg_tbl := rg_in (List.mem_append_right _ (List.mem_of_getElem? (i := 563) (by decide +kernel))) (by decide +kernel)
theorem m_564 : (.instanceMethod y_Mo_said : Cond) ∈ rg_tbl := rg_in (List.mem_append_right _ (List.mem_of_getElem? (i := 564) (by decide +kernel))) (by decide +kernel)
theorem m_565 : (.selects R_Mo y_Mo_said y_Mo_said : Cond) ∈ rg_tbl := rg_in (List.mem_append_right _ (List.mem_of_getElem? (i := 565) (by decide +kernel))) (by decide +kernel)
theorem m_566 : (.code y_Mo_said b_Mo_said 1 (some .int) : Cond) ∈ rg_tbl := rg_in (List.mem_append_right _ (List.mem_of_getElem? (i := 566) (by decide +kernel))) (by decide +kernel)
theorem s_0 : (.selects R_Rl y_Rl_placeOfSaid y_Rl_placeOfSaid : Cond) ∈ rg_tbl := rg_in (List.mem_append_left _ (List.mem_of_getElem? (i := 0) (by decide +kernel))) (by decide +kernel)
theorem s_1 : (.selects R_Rl y_Rl_isTooLarge y_Rl_isTooLarge : Cond) ∈ rg_tbl := rg_in (List.mem_append_left _ (List.mem_of_getElem? (i := 1) (by decide +kernel))) (by decide +kernel)
theorem s_2 : (.selects R_De y_De_add y_De_add : Cond) ∈ rg_tbl := rg_in (List.mem_append_left _ (List.mem_of_getElem? (i := 2) (by decide +kernel))) (by decide +kernel)
theorem s_3 : (.selects R_De y_De_rulesInReach y_De_rulesInReach : Cond) ∈ rg_tbl := rg_in (List.mem_append_left _ (List.mem_of_getElem? (i := 3) (by decide +kernel))) (by decide +kernel)
theorem s_4 : (.selects R_De y_De_applyRules y_De_applyRules : Cond) ∈ rg_tbl := rg_in (List.mem_append_left _ (List.mem_of_getElem? (i := 4) (by decide +kernel))) (by decide +kernel)
theorem s_5 : (.selects R_Mo y_Mo_make y_Mo_make : Cond) ∈ rg_tbl := rg_in (List.mem_append_left _ (List.mem_of_getElem? (i := 5) (by decide +kernel))) (by decide +kernel)
theorem s_6 : (.selects R_Mo y_Mo_collect y_Mo_collect : Cond) ∈ rg_tbl := rg_in (List.mem_append_left _ (List.mem_of_getElem? (i := 6) (by decide +kernel))) (by decide +kernel)
theorem s_7 : (.selects R_Mo y_Mo_begin y_Mo_begin : Cond) ∈ rg_tbl := rg_in (List.mem_append_left _ (List.mem_of_getElem? (i := 7) (by decide +kernel))) (by decide +kernel)
theorem s_8 : (.selects R_Mo y_Mo_next y_Mo_next : Cond) ∈ rg_tbl := rg_in (List.mem_append_left _ (List.mem_of_getElem? (i := 8) (by decide +kernel))) (by decide +kernel)
theorem s_9 : (.selects R_Mo y_Mo_release y_Mo_release : Cond) ∈ rg_tbl := rg_in (List.mem_append_left _ (List.mem_of_getElem? (i := 9) (by decide +kernel))) (by decide +kernel)
theorem s_10 : (.selects R_Mo y_Mo_fits y_Mo_fits : Cond) ∈ rg_tbl := rg_in (List.mem_append_left _ (List.mem_of_getElem? (i := 10) (by decide +kernel))) (by decide +kernel)
theorem s_11 : (.selects R_Mo y_Mo_fitsItem y_Mo_fitsItem : Cond) ∈ rg_tbl := rg_in (List.mem_append_left _ (List.mem_of_getElem? (i := 11) (by decide +kernel))) (by decide +kernel)
theorem s_12 : (.selects R_Mo y_Mo_given y_Mo_given : Cond) ∈ rg_tbl := rg_in (List.mem_append_left _ (List.mem_of_getElem? (i := 12) (by decide +kernel))) (by decide +kernel)
theorem s_13 : (.selects R_Mo y_Mo_termOf y_Mo_termOf : Cond) ∈ rg_tbl := rg_in (List.mem_append_left _ (List.mem_of_getElem? (i := 13) (by decide +kernel))) (by decide +kernel)
theorem s_14 : (.selects R_Mo y_Mo_premise y_Mo_premise : Cond) ∈ rg_tbl := rg_in (List.mem_append_left _ (List.mem_of_getElem? (i := 14) (by decide +kernel))) (by decide +kernel)
def rn_all : List Cond := [.fieldLinkNest R_Rl 72 "RlRounds$Deriver" "count" "I" "RlRounds", .fieldLinkNest R_Rl 121 "RlRounds$Deriver" "large" "Z" "RlRounds", .fieldLinkNest R_Rl 88 "RlRounds$Seeker" "foundRow" "I" "RlRounds", .methodLinkNest R_Tr 32 y_Rl_isTerm "RlRounds", .methodLinkNest R_De 71 y_Rl_contains "RlRounds", .methodLinkNest R_De 87 y_Ma_join "RlRounds", .declares y_Ma_meet, .methodLinkNest R_Tb 28 y_Rl_codeOf "RlRounds", .methodLinkNest R_Ma 56 y_Rl_leastOf "RlRounds", .methodLinkNest R_Ma 59 y_Rl_withoutLeast "RlRounds", .methodLinkNest R_Ma 69 y_Rl_codeOf "RlRounds", .methodLinkNest R_Tr 46 y_Rl_withoutLeast "RlRounds", .methodLinkNest R_Tr 49 y_Rl_leastOf "RlRounds", .methodLinkNest R_Se 25 y_Rl_contains "RlRounds", .methodLinkNest R_Se 47 y_Ma_join "RlRounds"]
/-- what the tables say of members across the nest -/
def rn_ (U : State) : Prop := ∀ w ∈ rn_all, va_Nw w U
theorem rn_0 : (.fieldLinkNest R_Rl 72 "RlRounds$Deriver" "count" "I" "RlRounds" : Cond) ∈ rn_all := List.mem_of_getElem? (i := 0) rfl
theorem rn_1 : (.fieldLinkNest R_Rl 121 "RlRounds$Deriver" "large" "Z" "RlRounds" : Cond) ∈ rn_all := List.mem_of_getElem? (i := 1) rfl
theorem rn_2 : (.fieldLinkNest R_Rl 88 "RlRounds$Seeker" "foundRow" "I" "RlRounds" : Cond) ∈ rn_all := List.mem_of_getElem? (i := 2) rfl
theorem rn_3 : (.methodLinkNest R_Tr 32 y_Rl_isTerm "RlRounds" : Cond) ∈ rn_all := List.mem_of_getElem? (i := 3) rfl
theorem rn_4 : (.methodLinkNest R_De 71 y_Rl_contains "RlRounds" : Cond) ∈ rn_all := List.mem_of_getElem? (i := 4) rfl
theorem rn_5 : (.methodLinkNest R_De 87 y_Ma_join "RlRounds" : Cond) ∈ rn_all := List.mem_of_getElem? (i := 5) rfl
theorem rn_6 : (.declares y_Ma_meet : Cond) ∈ rn_all := List.mem_of_getElem? (i := 6) rfl
theorem rn_7 : (.methodLinkNest R_Tb 28 y_Rl_codeOf "RlRounds" : Cond) ∈ rn_all := List.mem_of_getElem? (i := 7) rfl
theorem rn_8 : (.methodLinkNest R_Ma 56 y_Rl_leastOf "RlRounds" : Cond) ∈ rn_all := List.mem_of_getElem? (i := 8) rfl
theorem rn_9 : (.methodLinkNest R_Ma 59 y_Rl_withoutLeast "RlRounds" : Cond) ∈ rn_all := List.mem_of_getElem? (i := 9) rfl
theorem rn_10 : (.methodLinkNest R_Ma 69 y_Rl_codeOf "RlRounds" : Cond) ∈ rn_all := List.mem_of_getElem? (i := 10) rfl
theorem rn_11 : (.methodLinkNest R_Tr 46 y_Rl_withoutLeast "RlRounds" : Cond) ∈ rn_all := List.mem_of_getElem? (i := 11) rfl
theorem rn_12 : (.methodLinkNest R_Tr 49 y_Rl_leastOf "RlRounds" : Cond) ∈ rn_all := List.mem_of_getElem? (i := 12) rfl
theorem rn_13 : (.methodLinkNest R_Se 25 y_Rl_contains "RlRounds" : Cond) ∈ rn_all := List.mem_of_getElem? (i := 13) rfl
theorem rn_14 : (.methodLinkNest R_Se 47 y_Ma_join "RlRounds" : Cond) ∈ rn_all := List.mem_of_getElem? (i := 14) rfl
theorem rn_tbl : ∀ w ∈ rn_all, w.onTables = true := by decide +kernel
theorem rn_same {u U : State} (h : u.vm = U.vm) (hN : rn_ u) : rn_ U := fun w hw => va_Nw.same (rn_tbl w hw) h (hN w hw)
theorem rn_warm {s U : State} (hW : s.WarmedH U.vm) (hN : rn_ s) : rn_ U := by
  unfold rn_ rn_all
  exact List.forall_mem_cons.mpr ⟨va_Nw.warmF hW (hN _ rn_0), List.forall_mem_cons.mpr ⟨va_Nw.warmF hW (hN _ rn_1), List.forall_mem_cons.mpr ⟨va_Nw.warmF hW (hN _ rn_2), List.forall_mem_cons.mpr ⟨va_Nw.warmM hW (hN _ rn_3), List.forall_mem_cons.mpr ⟨va_Nw.warmM hW (hN _ rn_4), List.forall_mem_cons.mpr ⟨va_Nw.warmM hW (hN _ rn_5), List.forall_mem_cons.mpr ⟨va_Nw.warmD hW (hN _ rn_6), List.forall_mem_cons.mpr ⟨va_Nw.warmM hW (hN _ rn_7), List.forall_mem_cons.mpr ⟨va_Nw.warmM hW (hN _ rn_8), List.forall_mem_cons.mpr ⟨va_Nw.warmM hW (hN _ rn_9), List.forall_mem_cons.mpr ⟨va_Nw.warmM hW (hN _ rn_10), List.forall_mem_cons.mpr ⟨va_Nw.warmM hW (hN _ rn_11), List.forall_mem_cons.mpr ⟨va_Nw.warmM hW (hN _ rn_12), List.forall_mem_cons.mpr ⟨va_Nw.warmM hW (hN _ rn_13), List.forall_mem_cons.mpr ⟨va_Nw.warmM hW (hN _ rn_14), List.forall_mem_nil _⟩⟩⟩⟩⟩⟩⟩⟩⟩⟩⟩⟩⟩⟩⟩
theorem rn_in : ∀ w ∈ rn_all, w ∈ lw_tbl := by decide +kernel
theorem k_Rl_init : (.code y_Rl_init b_Rl_init 1 none : Cond) ∈ rg_tbl := m_16
theorem k_Tr_init : (.code y_Tr_init b_Tr_init 1 none : Cond) ∈ rg_tbl := m_25
theorem k_De_init : (.code y_De_init b_De_init 2 none : Cond) ∈ rg_tbl := m_45
theorem k_Ma_init : (.code y_Ma_init b_Ma_init 2 none : Cond) ∈ rg_tbl := m_48
theorem k_Se_init : (.code y_Se_init b_Se_init 2 none : Cond) ∈ rg_tbl := m_87
theorem k_Rl_say : (.code y_Rl_say b_Rl_say 5 (some .int) : Cond) ∈ rg_tbl := m_127
theorem k_Rl_areTerms : (.code y_Rl_areTerms b_Rl_areTerms 3 (some .boolean) : Cond) ∈ rg_tbl := m_130
theorem k_Rl_isTerm : (.code y_Rl_isTerm b_Rl_isTerm 1 (some .boolean) : Cond) ∈ rg_tbl := m_133
theorem k_Rl_codeOf : (.code y_Rl_codeOf b_Rl_codeOf 3 (some .int) : Cond) ∈ rg_tbl := m_136
theorem k_Rl_placeOfSaid : (.code y_Rl_placeOfSaid b_Rl_placeOfSaid 3 (some .int) : Cond) ∈ rg_tbl := m_140
theorem k_Rl_unsay : (.code y_Rl_unsay b_Rl_unsay 5 (some .int) : Cond) ∈ rg_tbl := m_144
theorem k_Rl_rule : (.code y_Rl_rule b_Rl_rule 3 (some .int) : Cond) ∈ rg_tbl := m_148
theorem k_Rl_contains : (.code y_Rl_contains b_Rl_contains 2 (some .boolean) : Cond) ∈ rg_tbl := m_151
theorem k_Rl_run : (.code y_Rl_run b_Rl_run 1 (some .int) : Cond) ∈ rg_tbl := m_155
theorem k_Rl_isTooLarge : (.code y_Rl_isTooLarge b_Rl_isTooLarge 1 (some .boolean) : Cond) ∈ rg_tbl := m_159
theorem k_De_derive : (.code y_De_derive b_De_derive 9 none : Cond) ∈ rg_tbl := m_163
theorem k_Tr_clear : (.code y_Tr_clear b_Tr_clear 1 none : Cond) ∈ rg_tbl := m_167
theorem k_Ar_fill : (.code y_Ar_fill b_Ar_fill 4 none : Cond) ∈ rg_tbl := m_170
theorem k_De_add : (.code y_De_add b_De_add 2 none : Cond) ∈ rg_tbl := m_174
theorem k_Tr_has : (.code y_Tr_has b_Tr_has 2 (some .boolean) : Cond) ∈ rg_tbl := m_178
theorem k_Tr_put : (.code y_Tr_put b_Tr_put 4 none : Cond) ∈ rg_tbl := m_183
theorem k_De_rulesInReach : (.code y_De_rulesInReach b_De_rulesInReach 4 (some .int) : Cond) ∈ rg_tbl := m_187
theorem k_Tb_premiseAt : (.code y_Tb_premiseAt b_Tb_premiseAt 2 (some .int) : Cond) ∈ rg_tbl := m_192
theorem k_Tr_subjectsFor : (.code y_Tr_subjectsFor b_Tr_subjectsFor 3 (some .int) : Cond) ∈ rg_tbl := m_196
theorem k_De_applyRules : (.code y_De_applyRules b_De_applyRules 9 none : Cond) ∈ rg_tbl := m_201
theorem k_Tb_premiseCount : (.code y_Tb_premiseCount b_Tb_premiseCount 1 (some .int) : Cond) ∈ rg_tbl := m_205
theorem k_Le_fit : (.code y_Le_fit b_Le_fit 7 (some .long) : Cond) ∈ rg_tbl := m_210
theorem k_Le_bind : (.code y_Le_bind b_Le_bind 5 (some .long) : Cond) ∈ rg_tbl := m_214
theorem k_Le_termOf : (.code y_Le_termOf b_Le_termOf 3 (some .int) : Cond) ∈ rg_tbl := m_217
theorem k_Ma_join : (.code y_Ma_join b_Ma_join 21 (some .boolean) : Cond) ∈ rg_tbl := m_222
theorem k_De_meet : (.code y_De_meet b_De_meet 4 (some .boolean) : Cond) ∈ rg_tbl := m_229
theorem k_Tb_givenCode : (.code y_Tb_givenCode b_Tb_givenCode 4 (some .int) : Cond) ∈ rg_tbl := m_232
theorem k_Tb_givenAt : (.code y_Tb_givenAt b_Tb_givenAt 1 (some .int) : Cond) ∈ rg_tbl := m_235
theorem k_Se_meet : (.code y_Se_meet b_Se_meet 5 (some .boolean) : Cond) ∈ rg_tbl := m_242
theorem k_Ig_bitCount : (.code y_Ig_bitCount b_Ig_bitCount 1 (some .int) : Cond) ∈ rg_tbl := m_250
theorem k_Rl_leastOf : (.code y_Rl_leastOf b_Rl_leastOf 1 (some .int) : Cond) ∈ rg_tbl := m_256
theorem k_Rl_withoutLeast : (.code y_Rl_withoutLeast b_Rl_withoutLeast 1 (some .int) : Cond) ∈ rg_tbl := m_260
theorem k_Tr_predicatesFor : (.code y_Tr_predicatesFor b_Tr_predicatesFor 3 (some .int) : Cond) ∈ rg_tbl := m_264
theorem k_Tr_objectsFor : (.code y_Tr_objectsFor b_Tr_objectsFor 5 (some .int) : Cond) ∈ rg_tbl := m_268
theorem k_De_lastRound : (.code y_De_lastRound b_De_lastRound 1 (some .int) : Cond) ∈ rg_tbl := m_275
theorem k_Rl_size : (.code y_Rl_size b_Rl_size 1 (some .int) : Cond) ∈ rg_tbl := m_279
theorem k_Rl_triple : (.code y_Rl_triple b_Rl_triple 2 (some .int) : Cond) ∈ rg_tbl := m_283
theorem k_Tr_codeAt : (.code y_Tr_codeAt b_Tr_codeAt 5 (some .int) : Cond) ∈ rg_tbl := m_287
theorem k_Tr_elementAt : (.code y_Tr_elementAt b_Tr_elementAt 4 (some .int) : Cond) ∈ rg_tbl := m_291
theorem k_Rl_round : (.code y_Rl_round b_Rl_round 4 (some .int) : Cond) ∈ rg_tbl := m_297
theorem k_De_roundOf : (.code y_De_roundOf b_De_roundOf 3 (some .int) : Cond) ∈ rg_tbl := m_301
theorem k_Rl_ways : (.code y_Rl_ways b_Rl_ways 4 (some .int) : Cond) ∈ rg_tbl := m_305
theorem k_Se_countWays : (.code y_Se_countWays b_Se_countWays 3 (some .int) : Cond) ∈ rg_tbl := m_309
theorem k_Se_seekWay : (.code y_Se_seekWay b_Se_seekWay 7 (some .boolean) : Cond) ∈ rg_tbl := m_313
theorem k_Rl_way : (.code y_Rl_way b_Rl_way 6 (some .int) : Cond) ∈ rg_tbl := m_323
theorem k_Se_foundPremise : (.code y_Se_foundPremise b_Se_foundPremise 2 (some .int) : Cond) ∈ rg_tbl := m_328
theorem k_Rl_clashes : (.code y_Rl_clashes b_Rl_clashes 1 (some .int) : Cond) ∈ rg_tbl := m_333
theorem k_Se_countClashes : (.code y_Se_countClashes b_Se_countClashes 1 (some .int) : Cond) ∈ rg_tbl := m_337
theorem k_Se_seekClash : (.code y_Se_seekClash b_Se_seekClash 3 (some .boolean) : Cond) ∈ rg_tbl := m_341
theorem k_Rl_clash : (.code y_Rl_clash b_Rl_clash 3 (some .int) : Cond) ∈ rg_tbl := m_345
theorem k_Rl_group : (.code y_Rl_group b_Rl_group 3 (some .int) : Cond) ∈ rg_tbl := m_350
theorem k_Mt_min : (.code y_Mt_min b_Mt_min 2 (some .int) : Cond) ∈ rg_tbl := m_355
theorem k_Rl_said : (.code y_Rl_said b_Rl_said 1 (some .int) : Cond) ∈ rg_tbl := m_359
theorem k_Mo_init : (.code y_Mo_init b_Mo_init 1 none : Cond) ∈ rg_tbl := m_364
theorem k_Mo_say : (.code y_Mo_say b_Mo_say 5 (some .int) : Cond) ∈ rg_tbl := m_417
theorem k_Mo_isTriple : (.code y_Mo_isTriple b_Mo_isTriple 3 (some .boolean) : Cond) ∈ rg_tbl := m_420
theorem k_Mo_isTerm : (.code y_Mo_isTerm b_Mo_isTerm 1 (some .boolean) : Cond) ∈ rg_tbl := m_423
theorem k_Mo_codeOf : (.code y_Mo_codeOf b_Mo_codeOf 3 (some .int) : Cond) ∈ rg_tbl := m_426
theorem k_Mo_unsay : (.code y_Mo_unsay b_Mo_unsay 5 (some .int) : Cond) ∈ rg_tbl := m_430
theorem k_Mo_rule : (.code y_Mo_rule b_Mo_rule 3 (some .int) : Cond) ∈ rg_tbl := m_434
theorem k_Mo_run : (.code y_Mo_run b_Mo_run 1 (some .int) : Cond) ∈ rg_tbl := m_438
theorem k_Mo_make : (.code y_Mo_make b_Mo_make 5 none : Cond) ∈ rg_tbl := m_442
theorem k_Mo_collect : (.code y_Mo_collect b_Mo_collect 2 none : Cond) ∈ rg_tbl := m_446
theorem k_Mo_begin : (.code y_Mo_begin b_Mo_begin 3 none : Cond) ∈ rg_tbl := m_450
theorem k_Mo_next : (.code y_Mo_next b_Mo_next 2 (some .boolean) : Cond) ∈ rg_tbl := m_454
theorem k_Mo_premises : (.code y_Mo_premises b_Mo_premises 3 (some .int) : Cond) ∈ rg_tbl := m_457
theorem k_Mo_pattern : (.code y_Mo_pattern b_Mo_pattern 1 (some .int) : Cond) ∈ rg_tbl := m_460
theorem k_Mo_early : (.code y_Mo_early b_Mo_early 1 (some .int) : Cond) ∈ rg_tbl := m_463
theorem k_Mo_later : (.code y_Mo_later b_Mo_later 1 (some .int) : Cond) ∈ rg_tbl := m_488
theorem k_Mo_release : (.code y_Mo_release b_Mo_release 2 none : Cond) ∈ rg_tbl := m_510
theorem k_Mo_fits : (.code y_Mo_fits b_Mo_fits 3 (some .boolean) : Cond) ∈ rg_tbl := m_514
theorem k_Mo_fitsItem : (.code y_Mo_fitsItem b_Mo_fitsItem 4 (some .boolean) : Cond) ∈ rg_tbl := m_518
theorem k_Mo_given : (.code y_Mo_given b_Mo_given 2 (some .int) : Cond) ∈ rg_tbl := m_522
theorem k_Mo_termOf : (.code y_Mo_termOf b_Mo_termOf 2 (some .int) : Cond) ∈ rg_tbl := m_526
theorem k_Mo_size : (.code y_Mo_size b_Mo_size 1 (some .int) : Cond) ∈ rg_tbl := m_530
theorem k_Mo_triple : (.code y_Mo_triple b_Mo_triple 2 (some .int) : Cond) ∈ rg_tbl := m_534
theorem k_Mo_round : (.code y_Mo_round b_Mo_round 5 (some .int) : Cond) ∈ rg_tbl := m_538
theorem k_Mo_ways : (.code y_Mo_ways b_Mo_ways 7 (some .int) : Cond) ∈ rg_tbl := m_542
theorem k_Mo_way : (.code y_Mo_way b_Mo_way 9 (some .int) : Cond) ∈ rg_tbl := m_546
theorem k_Mo_premise : (.code y_Mo_premise b_Mo_premise 2 (some .int) : Cond) ∈ rg_tbl := m_550
theorem k_Mo_clashes : (.code y_Mo_clashes b_Mo_clashes 3 (some .int) : Cond) ∈ rg_tbl := m_554
theorem k_Mo_clash : (.code y_Mo_clash b_Mo_clash 5 (some .int) : Cond) ∈ rg_tbl := m_558
theorem k_Mo_group : (.code y_Mo_group b_Mo_group 4 (some .int) : Cond) ∈ rg_tbl := m_562
theorem k_Mo_said : (.code y_Mo_said b_Mo_said 1 (some .int) : Cond) ∈ rg_tbl := m_566
end
section
theorem wb_tb (n : Nat) : (lN n).toBitVec = BitVec.ofNat 64 n := rfl
theorem wb_inj {a b : Int64} (h : a.toBitVec = b.toBitVec) : a = b := Int64.toBitVec_inj.mp h
theorem wb_tn {n : Nat} (h : n < 2 ^ 64) : (lN n).toBitVec.toNat = n := by rw [wb_tb, BitVec.toNat_ofNat, Nat.mod_eq_of_lt h]
theorem wb_of (x : Int64) : ∃ n, n < 2 ^ 64 ∧ x = lN n := ⟨x.toBitVec.toNat, x.toBitVec.isLt, wb_inj (by rw [wb_tb]; simp)⟩
theorem wb_of32 (x : Int32) : ∃ n, n < 2 ^ 32 ∧ x = nI n := ⟨x.toBitVec.toNat, x.toBitVec.isLt, Int32.toBitVec_inj.mp (by show _ = BitVec.ofNat 32 _; simp)⟩
theorem wb_c : ∀ k, k < 64 → ((nI k).toInt64 &&& 63) = lN k := by decide +kernel
theorem wb_cu : ∀ k, k < 64 → ((nI k).toInt64.toUInt64 &&& Int64.toUInt64 63) = UInt64.ofNat k := by decide +kernel
theorem wb_sm : ∀ k, k < 64 → (BitVec.ofNat 64 k).smod 64 = BitVec.ofNat 64 k := by decide +kernel
theorem wb_pw {a b : Nat} (h : a ≤ b) : 2 ^ b = 2 ^ a * 2 ^ (b - a) := by rw [← Nat.pow_add]; congr 1; omega
theorem wb_lt2 {a b : Nat} (h : a < b) : 2 ^ a < 2 ^ b := Nat.pow_lt_pow_right (by decide) h
theorem wb_mod (n : Nat) : lN n = lN (n % 2 ^ 64) := wb_inj (by rw [wb_tb, wb_tb]; apply BitVec.eq_of_toNat_eq; rw [BitVec.toNat_ofNat, BitVec.toNat_ofNat, Nat.mod_mod])
theorem wb_shr {n k : Nat} (hn : n < 2 ^ 64) (hk : k < 64) : ((lN n).toUInt64 >>> ((nI k).toInt64.toUInt64 &&& Int64.toUInt64 63)).toInt64 = lN (n / 2 ^ k) := by
  rw [wb_cu k hk]
  apply wb_inj
  apply BitVec.eq_of_toNat_eq
  show ((lN n).toUInt64 >>> UInt64.ofNat k).toNat = (BitVec.ofNat 64 _).toNat
  have h1 : (UInt64.ofNat k).toNat = k := by
    show (BitVec.ofNat 64 k).toNat = k
    rw [BitVec.toNat_ofNat, Nat.mod_eq_of_lt (by omega)]
  have h2 : (lN n).toUInt64.toNat = n := wb_tn hn
  rw [UInt64.toNat_shiftRight, h1, h2, Nat.mod_eq_of_lt hk, Nat.shiftRight_eq_div_pow, BitVec.toNat_ofNat, Nat.mod_eq_of_lt (Nat.lt_of_le_of_lt (Nat.div_le_self _ _) hn)]
theorem wb_shl (n : Nat) {k : Nat} (hk : k < 64) : lN n <<< ((nI k).toInt64 &&& 63) = lN (n * 2 ^ k) := by
  rw [wb_c k hk]
  apply wb_inj
  rw [Int64.toBitVec_shiftLeft, wb_tb, wb_tb, wb_tb, wb_sm k hk]
  apply BitVec.eq_of_toNat_eq
  rw [BitVec.shiftLeft_eq', BitVec.toNat_shiftLeft, BitVec.toNat_ofNat, BitVec.toNat_ofNat, BitVec.toNat_ofNat, Nat.mod_eq_of_lt (show k < 2 ^ 64 by omega), Nat.shiftLeft_eq, Nat.mul_mod, Nat.mod_mod, ← Nat.mul_mod]
theorem wb_and {a b : Nat} (ha : a < 2 ^ 64) (hb : b < 2 ^ 64) : lN a &&& lN b = lN (a &&& b) := by
  apply wb_inj
  rw [Int64.toBitVec_and, wb_tb, wb_tb, wb_tb]
  apply BitVec.eq_of_toNat_eq
  rw [BitVec.toNat_and, BitVec.toNat_ofNat, BitVec.toNat_ofNat, BitVec.toNat_ofNat, Nat.mod_eq_of_lt ha, Nat.mod_eq_of_lt hb, Nat.mod_eq_of_lt (Nat.and_lt_two_pow _ hb)]
theorem wb_or {a b : Nat} (ha : a < 2 ^ 64) (hb : b < 2 ^ 64) : lN a ||| lN b = lN (a ||| b) := by
  apply wb_inj
  rw [Int64.toBitVec_or, wb_tb, wb_tb, wb_tb]
  apply BitVec.eq_of_toNat_eq
  rw [BitVec.toNat_or, BitVec.toNat_ofNat, BitVec.toNat_ofNat, BitVec.toNat_ofNat, Nat.mod_eq_of_lt ha, Nat.mod_eq_of_lt hb, Nat.mod_eq_of_lt (Nat.or_lt_two_pow ha hb)]
theorem wb_mask {n k : Nat} (hn : n < 2 ^ 64) (hk : k < 64) : lN n &&& lN (2 ^ k - 1) = lN (n % 2 ^ k) := by
  rw [wb_and hn (by have := wb_lt2 hk; omega), Nat.and_two_pow_sub_one_eq_mod]
theorem wb_a1 {n : Nat} (hn : n < 2 ^ 64) : lN n &&& 1 = lN (n % 2) := wb_mask (k := 1) hn (by decide)
theorem wb_bit {n k : Nat} (hn : n < 2 ^ 64) (hk : k < 64) : ((lN n).toUInt64 >>> ((nI k).toInt64.toUInt64 &&& Int64.toUInt64 63)).toInt64 &&& 1 = lN (n / 2 ^ k % 2) := by
  rw [wb_shr hn hk, wb_a1 (Nat.lt_of_le_of_lt (Nat.div_le_self _ _) hn)]
end
section
/-! rows of one instruction, over ints that are small naturals; calls that change nothing -/
section RV
variable {p : Program} {l : Launch} {e : Env} {R : Room} {s : State} {m : MethodId} {args : Array Value} {below : List Frame} {meth : Method} {c : Code} {H : Heap} {locs : List Loc} {cells slots : Nat} {Q : State → Prop} {cc : ByteArray} {pc : Nat} {ls : Array Slot} {rest : List Value}
theorem rv_iadd (hx : p.tables.exec = Jvm.exec) (hb : c.code = cc) {x y : Nat} (hdg : decode cc pc = .ok (.iadd, 1)) (k : W p l e R s m args below meth c H locs cells slots Q (F0 m (pc + 1) ls (.int (nI (x + y)) :: rest))) : W p l e R s m args below meth c H locs cells slots Q (F0 m pc ls (.int (nI y) :: .int (nI x) :: rest)) :=
  lv_iadd hx hb hdg (by rw [nI_add]; exact k)
theorem rv_imul (hx : p.tables.exec = Jvm.exec) (hb : c.code = cc) {x y : Nat} (hdg : decode cc pc = .ok (.imul, 1)) (k : W p l e R s m args below meth c H locs cells slots Q (F0 m (pc + 1) ls (.int (nI (x * y)) :: rest))) : W p l e R s m args below meth c H locs cells slots Q (F0 m pc ls (.int (nI y) :: .int (nI x) :: rest)) :=
  lv_imul hx hb hdg (by rw [pk_mul]; exact k)
theorem rv_isub (hx : p.tables.exec = Jvm.exec) (hb : c.code = cc) {x y : Nat} (hdg : decode cc pc = .ok (.isub, 1)) (hle : y ≤ x) (k : W p l e R s m args below meth c H locs cells slots Q (F0 m (pc + 1) ls (.int (nI (x - y)) :: rest))) : W p l e R s m args below meth c H locs cells slots Q (F0 m pc ls (.int (nI y) :: .int (nI x) :: rest)) :=
  lv_isub hx hb hdg (by rw [pk_sub hle]; exact k)
theorem rv_idiv (hx : p.tables.exec = Jvm.exec) (hb : c.code = cc) {x y : Nat} (hdg : decode cc pc = .ok (.idiv, 1)) (h0 : 0 < y) (hx1 : x < 2 ^ 31) (hy : y < 2 ^ 31) (k : W p l e R s m args below meth c H locs cells slots Q (F0 m (pc + 1) ls (.int (nI (x / y)) :: rest))) : W p l e R s m args below meth c H locs cells slots Q (F0 m pc ls (.int (nI y) :: .int (nI x) :: rest)) :=
  lv_idiv hx hb hdg (nI_ne0 h0 hy) (by rw [pk_div hx1 h0 hy]; exact k)
theorem rv_irem (hx : p.tables.exec = Jvm.exec) (hb : c.code = cc) {x y : Nat} (hdg : decode cc pc = .ok (.irem, 1)) (h0 : 0 < y) (hx1 : x < 2 ^ 31) (hy : y < 2 ^ 31) (k : W p l e R s m args below meth c H locs cells slots Q (F0 m (pc + 1) ls (.int (nI (x % y)) :: rest))) : W p l e R s m args below meth c H locs cells slots Q (F0 m pc ls (.int (nI y) :: .int (nI x) :: rest)) :=
  lv_irem hx hb hdg (nI_ne0 h0 hy) (by rw [pk_rem hx1 h0 hy]; exact k)
theorem rv_icmp_lt (hx : p.tables.exec = Jvm.exec) (hb : c.code = cc) {x y : Nat} {off : Int} {tgt : Nat} (hdg : decode cc pc = .ok (.if_icmp .lt off, 3)) (ht : (pc : Int) + off = (tgt : Int)) (hx1 : x < 2 ^ 31) (hy : y < 2 ^ 31) (kt : x < y → W p l e R s m args below meth c H locs cells slots Q (F0 m tgt ls rest)) (kf : y ≤ x → W p l e R s m args below meth c H locs cells slots Q (F0 m (pc + 3) ls rest)) : W p l e R s m args below meth c H locs cells slots Q (F0 m pc ls (.int (nI y) :: .int (nI x) :: rest)) :=
  lv_icmp_lt hx hb hdg ht (fun h => kt ((nI_ltI hx1 hy).mp h)) (fun h => kf (Nat.le_of_not_lt fun z => h ((nI_ltI hx1 hy).mpr z)))
theorem rv_icmp_ge (hx : p.tables.exec = Jvm.exec) (hb : c.code = cc) {x y : Nat} {off : Int} {tgt : Nat} (hdg : decode cc pc = .ok (.if_icmp .ge off, 3)) (ht : (pc : Int) + off = (tgt : Int)) (hx1 : x < 2 ^ 31) (hy : y < 2 ^ 31) (kt : y ≤ x → W p l e R s m args below meth c H locs cells slots Q (F0 m tgt ls rest)) (kf : x < y → W p l e R s m args below meth c H locs cells slots Q (F0 m (pc + 3) ls rest)) : W p l e R s m args below meth c H locs cells slots Q (F0 m pc ls (.int (nI y) :: .int (nI x) :: rest)) :=
  lv_icmp_ge hx hb hdg ht (fun h => kt ((nI_leI hy hx1).mp h)) (fun h => kf (Nat.lt_of_not_le fun z => h ((nI_leI hy hx1).mpr z)))
theorem rv_icmp_gt (hx : p.tables.exec = Jvm.exec) (hb : c.code = cc) {x y : Nat} {off : Int} {tgt : Nat} (hdg : decode cc pc = .ok (.if_icmp .gt off, 3)) (ht : (pc : Int) + off = (tgt : Int)) (hx1 : x < 2 ^ 31) (hy : y < 2 ^ 31) (kt : y < x → W p l e R s m args below meth c H locs cells slots Q (F0 m tgt ls rest)) (kf : x ≤ y → W p l e R s m args below meth c H locs cells slots Q (F0 m (pc + 3) ls rest)) : W p l e R s m args below meth c H locs cells slots Q (F0 m pc ls (.int (nI y) :: .int (nI x) :: rest)) :=
  lv_icmp_gt hx hb hdg ht (fun h => kt ((nI_ltI hy hx1).mp h)) (fun h => kf (Nat.le_of_not_lt fun z => h ((nI_ltI hy hx1).mpr z)))
theorem rv_icmp_le (hx : p.tables.exec = Jvm.exec) (hb : c.code = cc) {x y : Nat} {off : Int} {tgt : Nat} (hdg : decode cc pc = .ok (.if_icmp .le off, 3)) (ht : (pc : Int) + off = (tgt : Int)) (hx1 : x < 2 ^ 31) (hy : y < 2 ^ 31) (kt : x ≤ y → W p l e R s m args below meth c H locs cells slots Q (F0 m tgt ls rest)) (kf : y < x → W p l e R s m args below meth c H locs cells slots Q (F0 m (pc + 3) ls rest)) : W p l e R s m args below meth c H locs cells slots Q (F0 m pc ls (.int (nI y) :: .int (nI x) :: rest)) :=
  lv_icmp_le hx hb hdg ht (fun h => kt ((nI_leI hx1 hy).mp h)) (fun h => kf (Nat.lt_of_not_le fun z => h ((nI_leI hx1 hy).mpr z)))
theorem rv_icmp_eq (hx : p.tables.exec = Jvm.exec) (hb : c.code = cc) {x y : Nat} {off : Int} {tgt : Nat} (hdg : decode cc pc = .ok (.if_icmp .eq off, 3)) (ht : (pc : Int) + off = (tgt : Int)) (hx1 : x < 2 ^ 31) (hy : y < 2 ^ 31) (kt : x = y → W p l e R s m args below meth c H locs cells slots Q (F0 m tgt ls rest)) (kf : ¬ x = y → W p l e R s m args below meth c H locs cells slots Q (F0 m (pc + 3) ls rest)) : W p l e R s m args below meth c H locs cells slots Q (F0 m pc ls (.int (nI y) :: .int (nI x) :: rest)) :=
  lv_icmp_eq hx hb hdg ht (fun h => kt ((nI_eq hx1 hy).mp h)) (fun h => kf (fun z => h ((nI_eq hx1 hy).mpr z)))
theorem rv_icmp_ne (hx : p.tables.exec = Jvm.exec) (hb : c.code = cc) {x y : Nat} {off : Int} {tgt : Nat} (hdg : decode cc pc = .ok (.if_icmp .ne off, 3)) (ht : (pc : Int) + off = (tgt : Int)) (hx1 : x < 2 ^ 31) (hy : y < 2 ^ 31) (kt : ¬ x = y → W p l e R s m args below meth c H locs cells slots Q (F0 m tgt ls rest)) (kf : x = y → W p l e R s m args below meth c H locs cells slots Q (F0 m (pc + 3) ls rest)) : W p l e R s m args below meth c H locs cells slots Q (F0 m pc ls (.int (nI y) :: .int (nI x) :: rest)) :=
  lv_icmp_ne hx hb hdg ht (fun h => kt (fun z => h ((nI_eq hx1 hy).mpr z))) (fun h => kf ((nI_eq hx1 hy).mp h))
theorem rv_if_lt (hx : p.tables.exec = Jvm.exec) (hb : c.code = cc) {x : Nat} {off : Int} (hdg : decode cc pc = .ok (.ifCond .lt off, 3)) {tgt : Nat} (ht : (pc : Int) + off = (tgt : Int)) (hx1 : x < 2 ^ 31) (kf : W p l e R s m args below meth c H locs cells slots Q (F0 m (pc + 3) ls rest)) : W p l e R s m args below meth c H locs cells slots Q (F0 m pc ls (.int (nI x) :: rest)) :=
  lv_if_lt hx hb hdg ht (fun h => absurd h (nI_pos hx1)) (fun _ => kf)
theorem rv_if_le (hx : p.tables.exec = Jvm.exec) (hb : c.code = cc) {x : Nat} {off : Int} {tgt : Nat} (hdg : decode cc pc = .ok (.ifCond .le off, 3)) (ht : (pc : Int) + off = (tgt : Int)) (hx1 : x < 2 ^ 31) (kt : x = 0 → W p l e R s m args below meth c H locs cells slots Q (F0 m tgt ls rest)) (kf : 0 < x → W p l e R s m args below meth c H locs cells slots Q (F0 m (pc + 3) ls rest)) : W p l e R s m args below meth c H locs cells slots Q (F0 m pc ls (.int (nI x) :: rest)) :=
  lv_if_le hx hb hdg ht (fun h => kt (by rcases Nat.eq_zero_or_pos x with z | z; exact z; exact absurd h (nI_nle z hx1))) (fun h => kf (by rcases Nat.eq_zero_or_pos x with z | z; exact absurd (by rw [z, nI_0]; exact Int32.le_refl 0) h; exact z))
theorem rv_if_eq (hx : p.tables.exec = Jvm.exec) (hb : c.code = cc) {x : Nat} {off : Int} {tgt : Nat} (hdg : decode cc pc = .ok (.ifCond .eq off, 3)) (ht : (pc : Int) + off = (tgt : Int)) (hx1 : x < 2 ^ 31) (kt : x = 0 → W p l e R s m args below meth c H locs cells slots Q (F0 m tgt ls rest)) (kf : 0 < x → W p l e R s m args below meth c H locs cells slots Q (F0 m (pc + 3) ls rest)) : W p l e R s m args below meth c H locs cells slots Q (F0 m pc ls (.int (nI x) :: rest)) :=
  lv_if_eq hx hb hdg ht (fun h => kt (by rcases Nat.eq_zero_or_pos x with z | z; exact z; exact absurd h (nI_ne0 z hx1))) (fun h => kf (by rcases Nat.eq_zero_or_pos x with z | z; exact absurd (by rw [z, nI_0]) h; exact z))
theorem rv_if_ne (hx : p.tables.exec = Jvm.exec) (hb : c.code = cc) {x : Nat} {off : Int} {tgt : Nat} (hdg : decode cc pc = .ok (.ifCond .ne off, 3)) (ht : (pc : Int) + off = (tgt : Int)) (hx1 : x < 2 ^ 31) (kt : 0 < x → W p l e R s m args below meth c H locs cells slots Q (F0 m tgt ls rest)) (kf : x = 0 → W p l e R s m args below meth c H locs cells slots Q (F0 m (pc + 3) ls rest)) : W p l e R s m args below meth c H locs cells slots Q (F0 m pc ls (.int (nI x) :: rest)) :=
  lv_if_ne hx hb hdg ht (fun h => kt (by rcases Nat.eq_zero_or_pos x with z | z; exact absurd (by rw [z, nI_0]) h; exact z)) (fun h => kf (by rcases Nat.eq_zero_or_pos x with z | z; exact z; exact absurd h (nI_ne0 z hx1)))
/-- one more -/
theorem rv_inc (hx : p.tables.exec = Jvm.exec) (hb : c.code = cc) {i nL k x : Nat} {lv lv' : List (Nat × Value)} (hdg : decode cc pc = .ok (.iinc i 1, 3)) (h : lv_has ls nL lv) (hk : lv[k]? = some (i, .int (nI x))) (hn : i < nL) (hl : (i, Value.int (nI (x + 1))) :: lv.filter (fun q => !(q.1 == i) && !(q.1 + 1 == i && q.2.category == 2)) = lv') (kk : ∀ ls' : Array Slot, lv_has ls' nL lv' → W p l e R s m args below meth c H locs cells slots Q (F0 m (pc + 3) ls' rest)) : W p l e R s m args below meth c H locs cells slots Q (F0 m pc ls rest) :=
  lv_iinc (v := nI (x + 1)) hx hb hdg h hk (nI_1 x) hn hl kk
/-- one less -/
theorem rv_dec (hx : p.tables.exec = Jvm.exec) (hb : c.code = cc) {i nL k x : Nat} {lv lv' : List (Nat × Value)} (hdg : decode cc pc = .ok (.iinc i (-1), 3)) (h : lv_has ls nL lv) (hk : lv[k]? = some (i, .int (nI (x + 1)))) (hn : i < nL) (hl : (i, Value.int (nI x)) :: lv.filter (fun q => !(q.1 == i) && !(q.1 + 1 == i && q.2.category == 2)) = lv') (kk : ∀ ls' : Array Slot, lv_has ls' nL lv' → W p l e R s m args below meth c H locs cells slots Q (F0 m (pc + 3) ls' rest)) : W p l e R s m args below meth c H locs cells slots Q (F0 m pc ls rest) :=
  lv_iinc (v := nI x) hx hb hdg h hk (pk_m1 x) hn hl kk
/-- a number on top, said otherwise -/
theorem rv_eq {x y : Int32} (h : x = y) (k : W p l e R s m args below meth c H locs cells slots Q (F0 m pc ls (.int y :: rest))) : W p l e R s m args below meth c H locs cells slots Q (F0 m pc ls (.int x :: rest)) := by rw [h]; exact k
theorem rv_eql {x y : Int64} (h : x = y) (k : W p l e R s m args below meth c H locs cells slots Q (F0 m pc ls (.long y :: rest))) : W p l e R s m args below meth c H locs cells slots Q (F0 m pc ls (.long x :: rest)) := by rw [h]; exact k
variable {D : va_G} {cl : List vw_C} {tys : List (ClassId × FieldType)} {ws : va_W} {A : Nat → Prop} {H0 : Heap} {a : Nat}
theorem rv_ald (hx : p.tables.exec = Jvm.exec) (hb : c.code = cc) (hK : va_K D cl tys s) (hP : va_P D cl ws H) (q0 t0 : Nat) {cA : ClassId} {n k : Nat} {f : Nat → Int32} (ha : ws[q0]? = some (a, .inl (cA, n, .inl f))) (ht : tys[t0]? = some (cA, .int)) (hk : k < n) (hn : n < 2 ^ 31) (hdg : decode cc pc = .ok (.iaload, 1)) (kk : W p l e R s m args below meth c H locs cells slots Q (F0 m (pc + 1) ls (.int (f k) :: rest))) : W p l e R s m args below meth c H locs cells slots Q (F0 m pc ls (.int (nI k) :: .ref a :: rest)) :=
  va_iald hx hb hK hP q0 t0 ha ht (vp_in_nI hk hn) hdg (by rw [nI_clamp (by omega)]; exact kk)
theorem rv_ast (hx : p.tables.exec = Jvm.exec) (hb : c.code = cc) (hK : va_K D cl tys s) (hP : va_P D cl ws H) (hD : va_D A ws) (hS : va_S A H0 H locs) (q0 t0 : Nat) {cA : ClassId} {n k : Nat} {f : Nat → Int32} (ha : ws[q0]? = some (a, .inl (cA, n, .inl f))) (ht : tys[t0]? = some (cA, .int)) {x : Int32} (hk : k < n) (hn : n < 2 ^ 31) (hdg : decode cc pc = .ok (.iastore, 1)) (kk : ∀ (H1 : Heap) (locs1 : List Loc), va_P D cl (ws.set q0 (a, .inl (cA, n, .inl (upd f k x)))) H1 → va_D A (ws.set q0 (a, .inl (cA, n, .inl (upd f k x)))) → va_S A H0 H1 locs1 → W p l e R s m args below meth c H1 locs1 cells slots Q (F0 m (pc + 1) ls rest)) : W p l e R s m args below meth c H locs cells slots Q (F0 m pc ls (.int x :: .int (nI k) :: .ref a :: rest)) :=
  va_iast hx hb hK hP hD hS q0 t0 ha ht (vp_in_nI hk hn) hdg (by rw [nI_clamp (show k < 2 ^ 31 by omega)]; exact kk)
theorem rv_ti (hx : p.tables.exec = Jvm.exec) (hb : c.code = cc) {t N k : Nat} {f : Nat → Value} (hT : va_T .int t N f A s s.heap) (hS : va_S A s.heap H locs) (hk : k < N) (hn : N < 2 ^ 31) {v : Value} (hv : f k = v) (hdg : decode cc pc = .ok (.iaload, 1)) (kk : W p l e R s m args below meth c H locs cells slots Q (F0 m (pc + 1) ls (v :: rest))) : W p l e R s m args below meth c H locs cells slots Q (F0 m pc ls (.int (nI k) :: .ref t :: rest)) :=
  va_ti hx hb hT hS (vp_in_nI hk hn) (by rw [nI_clamp (by omega)]; exact hv) hdg kk
/-- a call that changes no cell: what held of the old cells holds -/
theorem rv_calli {r : Int32} {mc ms : Nat} {free : Addr → Prop} {st0 : List Value} {av : Array Value} (hr : va_Run p l e R s m args below meth c H locs cells slots mc ms (F0 m pc ls st0) rest (va_Qi (fun (r' : Int32) (_ : Unit) => r' = r) (fun _ _ => True) (fun _ => False) av) free) (hS : va_S A H0 H locs) (hf : ∀ q, free q → A q)
    (kk : ∀ (H1 : Heap) (locs1 : List Loc), (∀ q : Nat, q < H.size → H1[q]? = H[q]?) → va_S A H0 H1 locs1 → W p l e R s m args below meth c H1 locs1 (cells + mc) (slots + ms) Q (F0 m (pc + 3) ls (.int r :: rest))) : W p l e R s m args below meth c H locs cells slots Q (F0 m pc ls st0) :=
  va_calli hr hS (fun _ _ h => h.elim) hf (fun r' _ _ H1 locs1 _ _ hp _ _ hk hS1 => by rw [hp]; exact kk H1 locs1 (fun q hq => hk q hq id) hS1)
theorem rv_calll {r : Int64} {mc ms : Nat} {free : Addr → Prop} {st0 : List Value} {av : Array Value} (hr : va_Run p l e R s m args below meth c H locs cells slots mc ms (F0 m pc ls st0) rest (va_Ql (fun (r' : Int64) (_ : Unit) => r' = r) (fun _ _ => True) (fun _ => False) av) free) (hS : va_S A H0 H locs) (hf : ∀ q, free q → A q)
    (kk : ∀ (H1 : Heap) (locs1 : List Loc), (∀ q : Nat, q < H.size → H1[q]? = H[q]?) → va_S A H0 H1 locs1 → W p l e R s m args below meth c H1 locs1 (cells + mc) (slots + ms) Q (F0 m (pc + 3) ls (.long r :: rest))) : W p l e R s m args below meth c H locs cells slots Q (F0 m pc ls st0) :=
  va_calll hr hS (fun _ _ h => h.elim) hf (fun r' _ _ H1 locs1 _ _ hp _ _ hk hS1 => by rw [hp]; exact kk H1 locs1 (fun q hq => hk q hq id) hS1)
end RV
theorem rv_kept {D : va_G} {cl : List vw_C} {ws : va_W} {H H1 : Heap} (hP : va_P D cl ws H) (hk : ∀ q : Nat, q < H.size → H1[q]? = H[q]?) : va_P D cl ws H1 := hP.kept (fun k q h => hk q.1 (hP k q h).lt)
/-- the depth's room -/
abbrev rm_ (d : Nat) : Room := { frames := d, cells := 0, slots := 0, locals := 64 * d }
end
section
/-! bits of an Int32 as a set of numbers below 32; the count by folding (the code of Integer.bitCount), the least one, the set without its least -/
def rb_pc : Nat → Nat → Nat
  | 0, _ => 0
  | k + 1, n => n % 2 + rb_pc k (n / 2)
theorem rb_pc_add (j k n : Nat) : rb_pc (j + k) n = rb_pc j n + rb_pc k (n / 2 ^ j) := by
  induction j generalizing n with
  | zero => simp [rb_pc]
  | succ j ih =>
    rw [Nat.succ_add]
    show n % 2 + rb_pc (j + k) (n / 2) = n % 2 + rb_pc j (n / 2) + rb_pc k (n / 2 ^ (j + 1))
    rw [ih, Nat.div_div_eq_div_mul, Nat.pow_succ, Nat.mul_comm 2 (2 ^ j), Nat.add_assoc]
theorem rb_pc8 (a b : Nat) : rb_pc 8 (256 * b + a) = rb_pc 8 a := by
  simp only [rb_pc]
  omega
theorem rb_pc_dig {a b k : Nat} (ha : a < 256) : rb_pc (8 + k) (256 * b + a) = rb_pc 8 a + rb_pc k b := by
  rw [rb_pc_add, rb_pc8, show (256 * b + a) / 2 ^ 8 = b by omega]
/-- a mask works digit by digit -/
theorem rb_dig {a b ma mb : Nat} (ha : a < 256) (hm : ma < 256) : (256 * b + a) &&& (256 * mb + ma) = 256 * (b &&& mb) + (a &&& ma) := by
  apply Nat.eq_of_testBit_eq
  intro i
  have h8 : a &&& ma < 2 ^ 8 := Nat.and_lt_two_pow _ (by omega)
  have e1 := Nat.testBit_two_pow_mul_add b (show a < 2 ^ 8 by omega) i
  have e2 := Nat.testBit_two_pow_mul_add mb (show ma < 2 ^ 8 by omega) i
  have e3 := Nat.testBit_two_pow_mul_add (b &&& mb) h8 i
  rw [show (2 : Nat) ^ 8 = 256 from rfl] at e1 e2 e3
  rw [Nat.testBit_and, e1, e2, e3]
  split <;> simp [Nat.testBit_and]
theorem rb_t1 : ∀ a, a < 256 → ∀ c, c < 2 → (128 * c + a / 2) &&& 85 = (a / 2) &&& 85 ∧ (a / 2) &&& 85 ≤ a := by decide +kernel
theorem rb_t2 : ∀ a, a < 256 → ∀ c, c < 4 → (64 * c + a / 4) &&& 51 = (a / 4) &&& 51 := by decide +kernel
def rb_g1 (a : Nat) : Nat := a - ((a / 2) &&& 85)
def rb_g2 (a : Nat) : Nat := (a &&& 51) + ((a / 4) &&& 51)
theorem rb_g : ∀ a, a < 256 → rb_g1 a < 256 ∧ rb_g2 (rb_g1 a) ≤ 68 ∧ rb_g2 (rb_g1 a) / 16 ≤ 4 ∧ (rb_g2 (rb_g1 a) + rb_g2 (rb_g1 a) / 16) % 16 = rb_pc 8 a ∧ rb_pc 8 a ≤ 8 := by decide +kernel
theorem rb_t3 : ∀ x, x < 256 → x &&& 15 = x % 16 := by decide +kernel
/-- one byte more: the first step -/
theorem rb_s1 {a b m : Nat} (ha : a < 256) (hb : (b / 2) &&& m ≤ b) : (256 * b + a) - (((256 * b + a) / 2) &&& (256 * m + 85)) = 256 * (b - ((b / 2) &&& m)) + rb_g1 a ∧ ((256 * b + a) / 2) &&& (256 * m + 85) ≤ 256 * b + a := by
  have hc : b % 2 < 2 := Nat.mod_lt _ (by omega)
  obtain ⟨h1, h2⟩ := rb_t1 a ha (b % 2) hc
  have e : (256 * b + a) / 2 = 256 * (b / 2) + (128 * (b % 2) + a / 2) := by omega
  rw [e, rb_dig (by omega) (by omega), h1]
  unfold rb_g1
  generalize (b / 2) &&& m = z at hb ⊢
  generalize (a / 2) &&& 85 = w at h2 ⊢
  omega
/-- one byte more: the second step -/
theorem rb_s2 {a b m : Nat} (ha : a < 256) : ((256 * b + a) &&& (256 * m + 51)) + (((256 * b + a) / 4) &&& (256 * m + 51)) = 256 * ((b &&& m) + ((b / 4) &&& m)) + rb_g2 a := by
  have hc : b % 4 < 4 := Nat.mod_lt _ (by omega)
  have h1 := rb_t2 a ha (b % 4) hc
  have e : (256 * b + a) / 4 = 256 * (b / 4) + (64 * (b % 4) + a / 4) := by omega
  rw [e, rb_dig ha (by omega), rb_dig (show 64 * (b % 4) + a / 4 < 256 by omega) (by omega), h1]
  unfold rb_g2
  generalize b &&& m = z
  generalize (b / 4) &&& m = w
  omega
/-- one byte more: the third step -/
theorem rb_s3 {a b m : Nat} (ha : a ≤ 68) (h16 : a / 16 ≤ 4) (hb : b % 16 ≤ 4) : ((256 * b + a) + (256 * b + a) / 16) &&& (256 * m + 15) = 256 * ((b + b / 16) &&& m) + (a + a / 16) % 16 := by
  have e : (256 * b + a) + (256 * b + a) / 16 = 256 * (b + b / 16) + (16 * (b % 16) + a + a / 16) := by omega
  rw [e, rb_dig (by omega) (by omega), rb_t3 _ (by omega)]
  omega
def rb_n1 (n : Nat) : Nat := n - ((n / 2) &&& 1431655765)
def rb_n2 (n : Nat) : Nat := (n &&& 858993459) + ((n / 4) &&& 858993459)
def rb_n3 (n : Nat) : Nat := (n + n / 16) &&& 252645135
theorem rb_m16 {x y : Nat} (h : y % 16 ≤ 4) : (256 * x + y) % 16 ≤ 4 := by omega
theorem rb_gm : ∀ a, a < 256 → rb_g2 (rb_g1 a) % 16 ≤ 4 := by decide +kernel
theorem rb_swar {n : Nat} (hn : n < 4294967296) : rb_n1 n < 4294967296 ∧ (n / 2) &&& 1431655765 ≤ n ∧ rb_n2 (rb_n1 n) ≤ 1145324612 ∧ ∃ p0 p1 p2 p3 : Nat, p0 ≤ 8 ∧ p1 ≤ 8 ∧ p2 ≤ 8 ∧ p3 ≤ 8 ∧ rb_n3 (rb_n2 (rb_n1 n)) = 256 * (256 * (256 * p3 + p2) + p1) + p0 ∧ p0 + p1 + p2 + p3 = rb_pc 32 n := by
  obtain ⟨a0, a1, a2, a3, h0, h1, h2, h3, rfl⟩ : ∃ a0 a1 a2 a3 : Nat, a0 < 256 ∧ a1 < 256 ∧ a2 < 256 ∧ a3 < 256 ∧ n = 256 * (256 * (256 * a3 + a2) + a1) + a0 := ⟨n % 256, n / 256 % 256, n / 65536 % 256, n / 16777216, by omega, by omega, by omega, by omega, by omega⟩
  obtain ⟨q00, q01, q02, q03, q04⟩ := rb_g a0 h0
  obtain ⟨q10, q11, q12, q13, q14⟩ := rb_g a1 h1
  obtain ⟨q20, q21, q22, q23, q24⟩ := rb_g a2 h2
  obtain ⟨q30, q31, q32, q33, q34⟩ := rb_g a3 h3
  have z3 : (a3 / 2) &&& 85 ≤ a3 := (rb_t1 a3 h3 0 (by omega)).2
  obtain ⟨x2, y2⟩ := rb_s1 (a := a2) (b := a3) (m := 85) h2 z3
  obtain ⟨x1, y1⟩ := rb_s1 (a := a1) (b := 256 * a3 + a2) (m := 256 * 85 + 85) h1 y2
  obtain ⟨x0, y0⟩ := rb_s1 (a := a0) (b := 256 * (256 * a3 + a2) + a1) (m := 256 * (256 * 85 + 85) + 85) h0 y1
  have e1 : rb_n1 (256 * (256 * (256 * a3 + a2) + a1) + a0) = 256 * (256 * (256 * rb_g1 a3 + rb_g1 a2) + rb_g1 a1) + rb_g1 a0 := by
    unfold rb_n1
    rw [show (1431655765 : Nat) = 256 * (256 * (256 * 85 + 85) + 85) + 85 from rfl, x0, x1, x2]
    rfl
  have w2 := rb_s2 (a := rb_g1 a2) (b := rb_g1 a3) (m := 51) q20
  have w1 := rb_s2 (a := rb_g1 a1) (b := 256 * rb_g1 a3 + rb_g1 a2) (m := 256 * 51 + 51) q10
  have w0 := rb_s2 (a := rb_g1 a0) (b := 256 * (256 * rb_g1 a3 + rb_g1 a2) + rb_g1 a1) (m := 256 * (256 * 51 + 51) + 51) q00
  have e2 : rb_n2 (256 * (256 * (256 * rb_g1 a3 + rb_g1 a2) + rb_g1 a1) + rb_g1 a0) = 256 * (256 * (256 * rb_g2 (rb_g1 a3) + rb_g2 (rb_g1 a2)) + rb_g2 (rb_g1 a1)) + rb_g2 (rb_g1 a0) := by
    unfold rb_n2
    rw [show (858993459 : Nat) = 256 * (256 * (256 * 51 + 51) + 51) + 51 from rfl, w0, w1, w2]
    rfl
  have m3 := rb_gm a3 h3
  have m2 := rb_gm a2 h2
  have m1 := rb_gm a1 h1
  have f3 : (rb_g2 (rb_g1 a3) + rb_g2 (rb_g1 a3) / 16) &&& 15 = (rb_g2 (rb_g1 a3) + rb_g2 (rb_g1 a3) / 16) % 16 := rb_t3 _ (by omega)
  have v2 := rb_s3 (a := rb_g2 (rb_g1 a2)) (b := rb_g2 (rb_g1 a3)) (m := 15) q21 q22 m3
  have v1 := rb_s3 (a := rb_g2 (rb_g1 a1)) (b := 256 * rb_g2 (rb_g1 a3) + rb_g2 (rb_g1 a2)) (m := 256 * 15 + 15) q11 q12 (rb_m16 m2)
  have v0 := rb_s3 (a := rb_g2 (rb_g1 a0)) (b := 256 * (256 * rb_g2 (rb_g1 a3) + rb_g2 (rb_g1 a2)) + rb_g2 (rb_g1 a1)) (m := 256 * (256 * 15 + 15) + 15) q01 q02 (rb_m16 m1)
  have e3 : rb_n3 (256 * (256 * (256 * rb_g2 (rb_g1 a3) + rb_g2 (rb_g1 a2)) + rb_g2 (rb_g1 a1)) + rb_g2 (rb_g1 a0)) = 256 * (256 * (256 * rb_pc 8 a3 + rb_pc 8 a2) + rb_pc 8 a1) + rb_pc 8 a0 := by
    unfold rb_n3
    rw [show (252645135 : Nat) = 256 * (256 * (256 * 15 + 15) + 15) + 15 from rfl, v0, v1, v2, f3, q03, q13, q23, q33]
  refine ⟨?_, ?_, ?_, rb_pc 8 a0, rb_pc 8 a1, rb_pc 8 a2, rb_pc 8 a3, q04, q14, q24, q34, ?_, ?_⟩
  · rw [e1]; omega
  · exact y0
  · rw [e1, e2]; omega
  · rw [e1, e2, e3]
  · have p0 := rb_pc_dig (a := a0) (b := 256 * (256 * a3 + a2) + a1) (k := 24) h0
    have p1 := rb_pc_dig (a := a1) (b := 256 * a3 + a2) (k := 16) h1
    have p2 := rb_pc_dig (a := a2) (b := a3) (k := 8) h2
    rw [show 8 + 24 = 32 from rfl] at p0
    rw [show 8 + 16 = 24 from rfl] at p1
    rw [show 8 + 8 = 16 from rfl] at p2
    rw [p0, p1, p2]
    omega
theorem rb_pc32 {n : Nat} : rb_pc 32 n ≤ 32 := by
  have h : ∀ k n, rb_pc k n ≤ k := by
    intro k
    induction k with
    | zero => intro n; exact Nat.le_refl 0
    | succ k ih => intro n; show n % 2 + rb_pc k (n / 2) ≤ k + 1; have := ih (n / 2); omega
  exact h 32 n
/-- the whole chain, as naturals -/
theorem rb_chain {n : Nat} (hn : n < 4294967296) {y z : Nat} (hy : y = rb_n3 (rb_n2 (rb_n1 n))) (hz : z = y + y / 256) : y < 4294967296 ∧ z < 4294967296 ∧ z + z / 65536 < 4294967296 ∧ (z + z / 65536) % 64 = rb_pc 32 n := by
  obtain ⟨-, -, -, p0, p1, p2, p3, h0, h1, h2, h3, e, hs⟩ := rb_swar hn
  rw [← hs]
  rw [e] at hy
  have e1 : y / 256 = 256 * (256 * p3 + p2) + p1 := by omega
  have e2 : z = 65536 * (256 * p3 + p2 + p3) + (256 * (p1 + p2) + p0 + p1) := by omega
  have e3 : z / 65536 = 256 * p3 + p2 + p3 := by omega
  refine ⟨by omega, by omega, by omega, ?_⟩
  rw [e3, e2]
  omega
theorem rb_pc_len (k n : Nat) : rb_pc k n = ((List.range k).filter (fun i => n.testBit i)).length := by
  induction k generalizing n with
  | zero => rfl
  | succ k ih =>
    have hc : (fun i => n.testBit i) ∘ Nat.succ = fun i => (n / 2).testBit i := funext fun i => Nat.testBit_succ n i
    rw [List.range_succ_eq_map, List.filter_cons, List.filter_map, hc]
    show n % 2 + rb_pc k (n / 2) = _
    rw [ih]
    rcases Nat.mod_two_eq_zero_or_one n with h | h
    · simp [Nat.testBit_zero, h]
    · simp [Nat.testBit_zero, h]
      omega
/-- the bit i of x -/
def rb_b (x : Int32) (i : Nat) : Bool := x.toBitVec.toNat.testBit i
/-- the numbers below 32 whose bits x has, going up -/
def rb_els (x : Int32) : List Nat := (List.range 32).filter (fun i => rb_b x i)
def rb_cnt (x : Int32) : Nat := (rb_els x).length
theorem rb_mem {x : Int32} {i : Nat} : i ∈ rb_els x ↔ i < 32 ∧ rb_b x i = true := by
  unfold rb_els
  rw [List.mem_filter, List.mem_range]
theorem rb_of (x : Int32) : x = nI x.toBitVec.toNat := by
  apply Int32.toBitVec_inj.1
  show x.toBitVec = BitVec.ofNat 32 x.toBitVec.toNat
  simp
theorem rb_lt (x : Int32) : x.toBitVec.toNat < 4294967296 := x.toBitVec.isLt
theorem rb_tn {n : Nat} (h : n < 4294967296) : (nI n).toBitVec.toNat = n := pk_tn h
theorem rb_bN {n i : Nat} (h : n < 4294967296) : rb_b (nI n) i = n.testBit i := by
  unfold rb_b
  rw [rb_tn h]
theorem rb_cnt_pc (x : Int32) : rb_cnt x = rb_pc 32 x.toBitVec.toNat := (rb_pc_len 32 _).symm
theorem rb_cnt_le (x : Int32) : rb_cnt x ≤ 32 := by
  rw [rb_cnt_pc]
  exact rb_pc32
theorem rb_and (a b : Nat) : nI a &&& nI b = nI (a &&& b) := by
  apply Int32.toBitVec_inj.1
  show BitVec.ofNat 32 a &&& BitVec.ofNat 32 b = BitVec.ofNat 32 (a &&& b)
  apply BitVec.eq_of_getLsbD_eq
  intro i hi
  simp [hi]
theorem rb_ext {x y : Int32} (h : ∀ i, i < 32 → rb_b x i = rb_b y i) : x = y := Int32.toBitVec_inj.mp (BitVec.eq_of_getLsbD_eq (fun i hi => h i hi))
/-- a number by its least bit -/
theorem rb_low {n i : Nat} (h1 : n.testBit i = true) (h0 : ∀ j, j < i → n.testBit j = false) : ∃ k, n = 2 ^ (i + 1) * k + 2 ^ i := by
  have hm : n % 2 ^ i = 0 := by
    apply Nat.eq_of_testBit_eq
    intro j
    rw [Nat.testBit_mod_two_pow, Nat.zero_testBit]
    by_cases h : j < i
    · rw [h0 j h]; simp
    · simp [h]
  have ho : n / 2 ^ i % 2 = 1 := by
    rw [Nat.testBit_eq_decide_div_mod_eq] at h1
    exact of_decide_eq_true h1
  have hd := Nat.div_add_mod n (2 ^ i)
  rw [hm] at hd
  refine ⟨n / 2 ^ i / 2, ?_⟩
  have hq : n / 2 ^ i = 2 * (n / 2 ^ i / 2) + 1 := by omega
  generalize n / 2 ^ i / 2 = k at hq ⊢
  rw [hq] at hd
  rw [← hd, Nat.pow_succ, Nat.mul_add, Nat.mul_one, Nat.add_zero, Nat.mul_assoc]
theorem rb_bit_n {i k j : Nat} : (2 ^ (i + 1) * k + 2 ^ i).testBit j = if j < i + 1 then decide (i = j) else k.testBit (j - (i + 1)) := by
  rw [Nat.testBit_two_pow_mul_add k (show 2 ^ i < 2 ^ (i + 1) from Nat.pow_lt_pow_right (by omega) (by omega)), Nat.testBit_two_pow]
theorem rb_bit_p {i k j : Nat} : (2 ^ (i + 1) * k + 2 ^ i - 1).testBit j = if j < i + 1 then decide (j < i) else k.testBit (j - (i + 1)) := by
  have h2 : 0 < 2 ^ i := Nat.two_pow_pos i
  have h3 : 2 ^ i < 2 ^ (i + 1) := Nat.pow_lt_pow_right (by omega) (by omega)
  rw [show 2 ^ (i + 1) * k + 2 ^ i - 1 = 2 ^ (i + 1) * k + (2 ^ i - 1) by omega, Nat.testBit_two_pow_mul_add k (show 2 ^ i - 1 < 2 ^ (i + 1) by omega), Nat.testBit_two_pow_sub_one]
/-- without its least bit -/
theorem rb_wl {n i : Nat} (h1 : n.testBit i = true) (h0 : ∀ j, j < i → n.testBit j = false) (j : Nat) : (n &&& (n - 1)).testBit j = (n.testBit j && decide (j ≠ i)) := by
  obtain ⟨k, rfl⟩ := rb_low h1 h0
  rw [Nat.testBit_and, rb_bit_n, rb_bit_p]
  by_cases h : j < i + 1
  · rw [if_pos h, if_pos h]
    by_cases e : i = j
    · subst e; simp
    · simp [e]
  · rw [if_neg h, if_neg h]
    have : j ≠ i := by omega
    simp [this]
/-- the least bit alone -/
theorem rb_iso {n i : Nat} (hn : n < 4294967296) (h1 : n.testBit i = true) (h0 : ∀ j, j < i → n.testBit j = false) (hi : i < 32) : n &&& (4294967296 - n) = 2 ^ i := by
  obtain ⟨k, rfl⟩ := rb_low h1 h0
  have hp : 2 ^ (i + 1) * 2 ^ (31 - i) = 4294967296 := by rw [← Nat.pow_add, show i + 1 + (31 - i) = 32 by omega]
  have hpi : 2 ^ (i + 1) = 2 ^ i + 2 ^ i := by rw [Nat.pow_succ]; omega
  have hk : k < 2 ^ (31 - i) := by
    rcases Nat.lt_or_ge k (2 ^ (31 - i)) with z | z
    · exact z
    · exfalso
      have h9 := Nat.mul_le_mul_left (2 ^ (i + 1)) z
      have h8 := Nat.two_pow_pos i
      rw [hp] at h9
      omega
  have e : 4294967296 - (2 ^ (i + 1) * k + 2 ^ i) = 2 ^ (i + 1) * (2 ^ (31 - i) - (k + 1)) + 2 ^ i := by
    rw [Nat.mul_sub, hp, Nat.mul_add, Nat.mul_one]
    have : 2 ^ (i + 1) * (k + 1) ≤ 2 ^ (i + 1) * 2 ^ (31 - i) := Nat.mul_le_mul_left _ hk
    rw [hp, Nat.mul_add, Nat.mul_one] at this
    omega
  rw [e]
  apply Nat.eq_of_testBit_eq
  intro j
  rw [Nat.testBit_and, rb_bit_n, rb_bit_n, Nat.testBit_two_pow]
  by_cases h : j < i + 1
  · rw [if_pos h, if_pos h]; simp
  · rw [if_neg h, if_neg h, Nat.testBit_two_pow_sub_succ hk]
    have : ¬ i = j := by omega
    rw [decide_eq_false this]
    cases k.testBit (j - (i + 1)) <;> simp
theorem rb_ones : ∀ i, i < 33 → rb_pc 32 (2 ^ i - 1) = i := by decide +kernel
theorem rb_nil {x : Int32} (h : rb_els x = []) : x = 0 := by
  apply rb_ext
  intro i hi
  have h0 : rb_b 0 i = false := by
    show (0 : Int32).toBitVec.toNat.testBit i = false
    rw [show (0 : Int32).toBitVec.toNat = 0 from rfl, Nat.zero_testBit]
  rw [h0]
  cases hb : rb_b x i
  · rfl
  · have : i ∈ rb_els x := rb_mem.mpr ⟨hi, hb⟩
    rw [h] at this
    cases this
theorem rb_head {x : Int32} {i : Nat} {r : List Nat} (h : rb_els x = i :: r) : i < 32 ∧ rb_b x i = true ∧ (∀ j, j < i → rb_b x j = false) ∧ i ∉ r := by
  have hm : i ∈ rb_els x := by rw [h]; exact List.mem_cons_self
  have hp : (rb_els x).Pairwise (· < ·) := List.Pairwise.filter _ (List.pairwise_lt_range)
  rw [h, List.pairwise_cons] at hp
  obtain ⟨h1, h2⟩ := rb_mem.mp hm
  refine ⟨h1, h2, fun j hj => ?_, fun hr => Nat.lt_irrefl i (hp.1 i hr)⟩
  cases hb : rb_b x j
  · rfl
  · have hj2 : j ∈ rb_els x := rb_mem.mpr ⟨by omega, hb⟩
    rw [h] at hj2
    rcases List.mem_cons.mp hj2 with rfl | hr
    · omega
    · have := hp.1 j hr
      omega
theorem rb_sub1 {n : Nat} (h : 0 < n) : nI n - 1 = nI (n - 1) := pk_sub (show 1 ≤ n from h)
/-- x & (x - 1) -/
theorem rb_rest {x : Int32} {i : Nat} {r : List Nat} (h : rb_els x = i :: r) : rb_els (x &&& (x - 1)) = r := by
  obtain ⟨h1, h2, h3, h4⟩ := rb_head h
  have hlt := rb_lt x
  have hpos : 0 < x.toBitVec.toNat := by
    rcases Nat.eq_zero_or_pos x.toBitVec.toNat with z | z
    · unfold rb_b at h2
      rw [z, Nat.zero_testBit] at h2
      cases h2
    · exact z
  have e : x &&& (x - 1) = nI (x.toBitVec.toNat &&& (x.toBitVec.toNat - 1)) := by
    conv => lhs; rw [rb_of x]
    rw [rb_sub1 hpos, rb_and]
  have hl2 : x.toBitVec.toNat &&& (x.toBitVec.toNat - 1) < 4294967296 := Nat.lt_of_le_of_lt Nat.and_le_left hlt
  have hb : ∀ j, rb_b (x &&& (x - 1)) j = (rb_b x j && decide (j ≠ i)) := fun j => by
    rw [e, rb_bN hl2, rb_wl h2 h3 j]
    rfl
  unfold rb_els
  rw [show (fun j => rb_b (x &&& (x - 1)) j) = fun j => decide (j ≠ i) && rb_b x j from funext fun j => by rw [hb j, Bool.and_comm], ← List.filter_filter]
  show (rb_els x).filter _ = r
  rw [h, List.filter_cons_of_neg (by simp), List.filter_eq_self]
  intro a ha
  have : a ≠ i := fun z => h4 (z ▸ ha)
  simp [this]
def rb_least (x : Int32) : Nat := match rb_els x with
  | [] => 32
  | i :: _ => i
theorem rb_neg {n : Nat} (h : 0 < n) (h2 : n < 4294967296) : -nI n = nI (4294967296 - n) := by
  apply Int32.toBitVec_inj.1
  apply BitVec.eq_of_toNat_eq
  rw [Int32.toBitVec_neg, BitVec.toNat_neg, rb_tn h2, rb_tn (by omega)]
  omega
/-- the count of (x & -x) - 1 -/
theorem rb_leastE (x : Int32) : rb_cnt ((x &&& -x) - 1) = rb_least x := by
  unfold rb_least
  cases h : rb_els x with
  | nil =>
    rw [rb_nil h]
    decide +kernel
  | cons i r =>
    obtain ⟨h1, h2, h3, h4⟩ := rb_head h
    have hlt := rb_lt x
    have hpos : 0 < x.toBitVec.toNat := by
      rcases Nat.eq_zero_or_pos x.toBitVec.toNat with z | z
      · unfold rb_b at h2
        rw [z, Nat.zero_testBit] at h2
        cases h2
      · exact z
    have e : x &&& -x = nI (2 ^ i) := by
      conv => lhs; rw [rb_of x]
      rw [rb_neg hpos hlt, rb_and, rb_iso hlt h2 h3 h1]
    have h2i : 2 ^ i < 4294967296 := by
      have : 2 ^ i < 2 ^ 32 := Nat.pow_lt_pow_right (by omega) h1
      omega
    have hp : 0 < 2 ^ i := Nat.two_pow_pos i
    rw [e, rb_sub1 hp, rb_cnt_pc, rb_tn (by omega)]
    exact rb_ones i (by omega)
/-- the whole of Integer.bitCount, as its code has it -/
theorem rb_bc {x i1 i2 i3 i4 i5 u1 u2 u3 u4 u5 : Int32}
    (hu1 : (x.toUInt32 >>> ((1 : Int32).toUInt32 &&& Int32.toUInt32 31)).toInt32 = u1) (h1 : i1 = x - (u1 &&& 1431655765))
    (hu2 : (i1.toUInt32 >>> ((2 : Int32).toUInt32 &&& Int32.toUInt32 31)).toInt32 = u2) (h2 : i2 = (i1 &&& 858993459) + (u2 &&& 858993459))
    (hu3 : (i2.toUInt32 >>> ((4 : Int32).toUInt32 &&& Int32.toUInt32 31)).toInt32 = u3) (h3 : i3 = (i2 + u3) &&& 252645135)
    (hu4 : (i3.toUInt32 >>> ((8 : Int32).toUInt32 &&& Int32.toUInt32 31)).toInt32 = u4) (h4 : i4 = i3 + u4)
    (hu5 : (i4.toUInt32 >>> ((16 : Int32).toUInt32 &&& Int32.toUInt32 31)).toInt32 = u5) (h5 : i5 = i4 + u5) : i5 &&& 63 = nI (rb_cnt x) := by
  have hn := rb_lt x
  rw [rb_cnt_pc]
  obtain ⟨s1, s2, s3, -⟩ := rb_swar hn
  obtain ⟨c1, c2, c3, c4⟩ := rb_chain hn rfl rfl
  generalize hN : x.toBitVec.toNat = n at hn s1 s2 s3 c1 c2 c3 c4 ⊢
  have ex : x = nI n := by rw [← hN]; exact rb_of x
  have e1 : i1 = nI (rb_n1 n) := by
    rw [h1, ← hu1, ex, pk_ushrN hn 1 1 (by decide), show (1431655765 : Int32) = nI 1431655765 from rfl, rb_and]
    exact pk_sub s2
  have e2 : i2 = nI (rb_n2 (rb_n1 n)) := by
    rw [h2, ← hu2, e1, pk_ushrN s1 2 2 (by decide), show (858993459 : Int32) = nI 858993459 from rfl, rb_and, rb_and, nI_add]
    rfl
  have e3 : i3 = nI (rb_n3 (rb_n2 (rb_n1 n))) := by
    rw [h3, ← hu3, e2, pk_ushrN (by omega) 4 4 (by decide), nI_add, show (252645135 : Int32) = nI 252645135 from rfl, rb_and]
    rfl
  have e4 : i4 = nI (rb_n3 (rb_n2 (rb_n1 n)) + rb_n3 (rb_n2 (rb_n1 n)) / 256) := by
    rw [h4, ← hu4, e3, pk_ushrN c1 8 8 (by decide), nI_add]
  rw [h5, ← hu5, e4, pk_ushrN c2 16 16 (by decide), nI_add, show (63 : Int32) = nI 63 from rfl, rb_and, show (63 : Nat) = 2 ^ 6 - 1 from rfl, Nat.and_two_pow_sub_one_eq_mod]
  rw [show (2 : Nat) ^ 6 = 64 from rfl]
  exact congrArg nI c4
end
section
/-! letters: ten digits to the base 64, the lowest first; 0 is free, a term and one more when it is bound -/
def rt_pk : List Nat → Nat
  | [] => 0
  | x :: xs => x + 64 * rt_pk xs
def rt_ok (ds : List Nat) : Prop := ds.length = 10 ∧ ∀ x ∈ ds, x ≤ 32
def rt_i : Option Nat → Int32
  | none => -1
  | some t => nI t
def rt_l : Option (List Nat) → Int64
  | none => -1
  | some ds => lN (rt_pk ds)
def rt_term (k : Nat) (ds : List Nat) : Option Nat := if k < 32 then some k else match ds.getD (k - 32) 0 with
  | 0 => none
  | t + 1 => some t
def rt_bind (k t : Nat) (ds : List Nat) : Option (List Nat) := match rt_term k ds with
  | none => some (ds.set (k - 32) (t + 1))
  | some u => if u = t then some ds else none
def rt_fit (k1 k2 k3 c : Nat) (ds : List Nat) : Option (List Nat) := (rt_bind k2 (c / 32 % 32) ds).bind fun ds => (rt_bind k1 (c / 32 / 32) ds).bind fun ds => rt_bind k3 (c % 32) ds
def rt_free : List Nat := List.replicate 10 0
theorem rt_free_ok : rt_ok rt_free := ⟨rfl, fun x h => by rw [List.eq_of_mem_replicate h]; exact Nat.zero_le _⟩
theorem rt_free_pk : rt_pk rt_free = 0 := rfl
theorem rt_pk_lt : ∀ (ds : List Nat), (∀ x ∈ ds, x ≤ 32) → rt_pk ds < 64 ^ ds.length
  | [], _ => by decide
  | x :: xs, h => by
    have h1 := rt_pk_lt xs (fun y hy => h y (List.mem_cons_of_mem _ hy))
    have h2 := h x List.mem_cons_self
    show x + 64 * rt_pk xs < 64 ^ (xs.length + 1)
    rw [Nat.pow_succ]
    omega
theorem rt_ok_lt {ds : List Nat} (h : rt_ok ds) : rt_pk ds < 1152921504606846976 := by
  have := rt_pk_lt ds h.2
  rw [h.1] at this
  exact this
theorem rt_pk_dig : ∀ (j : Nat) (ds : List Nat), (∀ x ∈ ds, x ≤ 32) → rt_pk ds / 64 ^ j % 64 = ds.getD j 0
  | _, [], _ => by simp [rt_pk]
  | 0, x :: xs, h => by
    have h2 := h x List.mem_cons_self
    show (x + 64 * rt_pk xs) / 64 ^ 0 % 64 = x
    rw [Nat.pow_zero, Nat.div_one]
    omega
  | j + 1, x :: xs, h => by
    have h1 := rt_pk_dig j xs (fun y hy => h y (List.mem_cons_of_mem _ hy))
    have h2 := h x List.mem_cons_self
    show (x + 64 * rt_pk xs) / 64 ^ (j + 1) % 64 = xs.getD j 0
    rw [← h1, Nat.pow_succ, Nat.mul_comm (64 ^ j) 64, ← Nat.div_div_eq_div_mul, show (x + 64 * rt_pk xs) / 64 = rt_pk xs by omega]
theorem rt_or64 (x y a b : Nat) (hx : x < 64) (hy : y < 64) : (x + 64 * a) ||| (y + 64 * b) = (x ||| y) + 64 * (a ||| b) := by
  have h8 : x ||| y < 2 ^ 6 := Nat.or_lt_two_pow hx hy
  apply Nat.eq_of_testBit_eq
  intro i
  have e1 := Nat.testBit_two_pow_mul_add a (show x < 2 ^ 6 from hx) i
  have e2 := Nat.testBit_two_pow_mul_add b (show y < 2 ^ 6 from hy) i
  have e3 := Nat.testBit_two_pow_mul_add (a ||| b) h8 i
  rw [show (2 : Nat) ^ 6 = 64 from rfl] at e1 e2 e3
  rw [Nat.add_comm x, Nat.add_comm y, Nat.add_comm (x ||| y), Nat.testBit_or, e1, e2, e3]
  split <;> simp [Nat.testBit_or]
theorem rt_pk_or : ∀ (j v : Nat) (ds : List Nat), (∀ x ∈ ds, x ≤ 32) → v < 64 → j < ds.length → ds.getD j 0 = 0 → rt_pk ds ||| v * 64 ^ j = rt_pk (ds.set j v)
  | _, _, [], _, _, hl, _ => absurd hl (Nat.not_lt_zero _)
  | 0, v, x :: xs, h, hv, _, h0 => by
    have hx : x = 0 := h0
    subst hx
    show (0 + 64 * rt_pk xs) ||| v * 64 ^ 0 = v + 64 * rt_pk xs
    have e := rt_or64 0 v (rt_pk xs) 0 (by omega) hv
    rw [Nat.pow_zero, Nat.mul_one]
    simpa using e
  | j + 1, v, x :: xs, h, hv, hl, h0 => by
    have hx := h x List.mem_cons_self
    have ih := rt_pk_or j v xs (fun y hy => h y (List.mem_cons_of_mem _ hy)) hv (Nat.lt_of_succ_lt_succ hl) h0
    show (x + 64 * rt_pk xs) ||| v * 64 ^ (j + 1) = x + 64 * rt_pk (xs.set j v)
    have e := rt_or64 x 0 (rt_pk xs) (v * 64 ^ j) (by omega) (by omega)
    rw [Nat.pow_succ, ← Nat.mul_assoc, Nat.mul_comm (v * 64 ^ j) 64, ← ih]
    simpa using e
theorem rt_set_ok {ds : List Nat} (h : rt_ok ds) {j v : Nat} (hv : v ≤ 32) : rt_ok (ds.set j v) := by
  refine ⟨by rw [List.length_set]; exact h.1, fun x hx => ?_⟩
  rcases List.mem_or_eq_of_mem_set hx with z | z
  · exact h.2 x z
  · rw [z]; exact hv
theorem rt_bind_ok {k t : Nat} {ds ds' : List Nat} (h : rt_ok ds) (ht : t < 32) (hb : rt_bind k t ds = some ds') : rt_ok ds' := by
  unfold rt_bind at hb
  split at hb
  · cases hb
    exact rt_set_ok h (by omega)
  · split at hb
    · cases hb; exact h
    · cases hb
theorem rt_fit_ok {k1 k2 k3 c : Nat} {ds ds' : List Nat} (h : rt_ok ds) (hc : c < 32768) (hb : rt_fit k1 k2 k3 c ds = some ds') : rt_ok ds' := by
  unfold rt_fit at hb
  obtain ⟨d1, h1, hb⟩ := Option.bind_eq_some_iff.mp hb
  obtain ⟨d2, h2, hb⟩ := Option.bind_eq_some_iff.mp hb
  exact rt_bind_ok (rt_bind_ok (rt_bind_ok h (by omega) h1) (by omega) h2) (by omega) hb
theorem rt_l_ne {ds : List Nat} (h : rt_ok ds) : ¬ lN (rt_pk ds) = -1 := by
  intro e
  have h1 := rt_ok_lt h
  have h2 := pk_lT (n := rt_pk ds) (by omega)
  rw [e] at h2
  have h3 : (-1 : Int64).toInt = -1 := by decide
  rw [h3] at h2
  omega
/-- the digit behind a letter, as termOf has it -/
theorem rt_termE {k : Nat} {ds : List Nat} (h : rt_ok ds) (hk : 32 ≤ k) : nI (rt_pk ds / 64 ^ (k - 32) % 64) - 1 = rt_i (rt_term k ds) := by
  rw [rt_pk_dig _ _ h.2]
  unfold rt_term
  rw [if_neg (by omega)]
  cases ds.getD (k - 32) 0 with
  | zero => decide
  | succ t => exact nI_pred t
theorem rt_p64 (j : Nat) : 2 ^ (6 * j) = 64 ^ j := by rw [Nat.pow_mul]
theorem rt_shr {ds : List Nat} (h : rt_ok ds) {j : Nat} (hj : j < 10) : ((lN (rt_pk ds)).toUInt64 >>> ((nI (6 * j)).toInt64.toUInt64 &&& Int64.toUInt64 63)).toInt64 = lN (rt_pk ds / 64 ^ j) := by
  have := rt_ok_lt h
  rw [wb_shr (by omega) (by omega), rt_p64]
theorem rt_mask {n : Nat} (h : n < 2 ^ 64) : lN n &&& lN 63 = lN (n % 64) := wb_mask (k := 6) h (by decide)
theorem rt_mask2 {ds : List Nat} (h : rt_ok ds) (j : Nat) : lN (rt_pk ds / 64 ^ j) &&& lN 63 = lN (rt_pk ds / 64 ^ j % 64) := by
  have h1 := rt_ok_lt h
  have h2 : rt_pk ds / 64 ^ j ≤ rt_pk ds := Nat.div_le_self _ _
  exact rt_mask (by omega)
theorem rt_shl {t j : Nat} (hj : j < 10) : lN (t + 1) <<< ((nI (6 * j)).toInt64 &&& 63) = lN ((t + 1) * 64 ^ j) := by
  rw [wb_shl _ (by omega), rt_p64]
theorem rt_lor {ds : List Nat} (h : rt_ok ds) {j t : Nat} (hj : j < 10) (ht : t < 32) (h0 : ds.getD j 0 = 0) : lN (rt_pk ds) ||| lN ((t + 1) * 64 ^ j) = lN (rt_pk (ds.set j (t + 1))) := by
  have h1 := rt_ok_lt h
  have h2 : 64 ^ j ≤ 64 ^ 9 := Nat.pow_le_pow_right (by omega) (by omega)
  have h3 : (t + 1) * 64 ^ j ≤ 32 * 64 ^ 9 := Nat.mul_le_mul (by omega) h2
  have h4 : (32 : Nat) * 64 ^ 9 < 2 ^ 64 := by decide
  rw [wb_or (by omega) (by omega), rt_pk_or j (t + 1) ds h.2 (by omega) (by rw [h.1]; exact hj) h0]
theorem rt_none {k : Nat} {ds : List Nat} (h : rt_term k ds = none) : 32 ≤ k ∧ ds.getD (k - 32) 0 = 0 := by
  unfold rt_term at h
  split at h
  · cases h
  · rename_i hk
    split at h
    · rename_i hd
      exact ⟨by omega, hd⟩
    · cases h
theorem rt_term_lt {k u : Nat} {ds : List Nat} (hd : rt_ok ds) (h : rt_term k ds = some u) : u < 32 := by
  unfold rt_term at h
  split at h
  · cases h; assumption
  · split at h
    · cases h
    · rename_i hu
      cases h
      by_cases hl : k - 32 < ds.length
      · have : ds.getD (k - 32) 0 ∈ ds := by
          rw [List.getD_eq_getElem?_getD, List.getElem?_eq_getElem hl]
          exact List.getElem_mem hl
        have := hd.2 _ this
        omega
      · rw [List.getD_eq_getElem?_getD, List.getElem?_eq_none (by omega)] at hu
        cases hu
theorem rt_nm1 {u : Nat} (h : u < 2 ^ 31) : ¬ nI u = -1 := by
  intro e
  have h1 := nI_toInt h
  rw [e] at h1
  have h2 : (-1 : Int32).toInt = -1 := by decide
  rw [h2] at h1
  omega
theorem rt_cmp0 (x : Int64) : lg_cmp x x = nI 0 := by simp [lg_cmp, nI_0]
theorem rt_cmp_ne {ds : List Nat} (h : rt_ok ds) : ¬ lg_cmp (lN (rt_pk ds)) (-1) = 0 := by
  intro e
  have hne := rt_l_ne h
  unfold lg_cmp at e
  split at e
  · exact absurd e (by decide)
  · exact absurd e (by decide)
end
section
/-! triples as sets of bits: what each row of ints holds of a set X of codes; going through by codes -/
theorem ry_filter {α β : Type} (P : α → Bool) (G : α → List β) : ∀ (l : List α), (∀ a ∈ l, P a = false → G a = []) → (l.filter P).flatMap G = l.flatMap G
  | [], _ => rfl
  | a :: l, h => by
    have ih := ry_filter P G l (fun b hb => h b (List.mem_cons_of_mem _ hb))
    rw [List.filter_cons]
    cases hp : P a with
    | true => rw [if_pos rfl, List.flatMap_cons, List.flatMap_cons, ih]
    | false =>
      rw [if_neg (by simp), List.flatMap_cons, ih, h a List.mem_cons_self hp]
      rfl
theorem ry_congr {α β : Type} {F G : α → List β} : ∀ {l : List α}, (∀ a ∈ l, F a = G a) → l.flatMap F = l.flatMap G
  | [], _ => rfl
  | a :: l, h => by rw [List.flatMap_cons, List.flatMap_cons, h a List.mem_cons_self, ry_congr (fun b hb => h b (List.mem_cons_of_mem _ hb))]
theorem ry_range (b : Nat) : ∀ a : Nat, List.range (a * b) = (List.range a).flatMap (fun i => (List.range b).map (fun j => i * b + j))
  | 0 => by simp
  | a + 1 => by
    rw [List.range_succ, List.flatMap_append, ← ry_range b a, Nat.succ_mul, List.range_add]
    simp
theorem ry_one {i : Nat} (hi : i < 32) : ∀ j, j < 32 → rb_b ((1 : Int32) <<< (nI i &&& 31)) j = decide (j = i) := by
  have h : ∀ i, i < 32 → ∀ j, j < 32 → rb_b ((1 : Int32) <<< (nI i &&& 31)) j = decide (j = i) := by decide +kernel
  exact h i hi
theorem ry_big {x : Int32} {j : Nat} (h : 32 ≤ j) : rb_b x j = false := by
  unfold rb_b
  exact Nat.testBit_lt_two_pow (Nat.lt_of_lt_of_le x.toBitVec.isLt (Nat.pow_le_pow_right (by omega) h))
theorem ry_or (x y : Int32) (j : Nat) : rb_b (x ||| y) j = (rb_b x j || rb_b y j) := by
  unfold rb_b
  rw [Int32.toBitVec_or, BitVec.toNat_or, Nat.testBit_or]
theorem ry_and (x y : Int32) (j : Nat) : rb_b (x &&& y) j = (rb_b x j && rb_b y j) := by
  unfold rb_b
  rw [Int32.toBitVec_and, BitVec.toNat_and, Nat.testBit_and]
theorem ry_xor (x y : Int32) (j : Nat) : rb_b (x ^^^ y) j = (rb_b x j ^^ rb_b y j) := by
  unfold rb_b
  rw [Int32.toBitVec_xor, BitVec.toNat_xor, Nat.testBit_xor]
theorem ry_set (x : Int32) {i : Nat} (hi : i < 32) {j : Nat} (hj : j < 32) : rb_b (x ||| ((1 : Int32) <<< (nI i &&& 31))) j = (rb_b x j || decide (j = i)) := by
  rw [ry_or, ry_one hi j hj]
theorem ry_test (x : Int32) {i : Nat} (hi : i < 32) : (x &&& ((1 : Int32) <<< (nI i &&& 31))) = 0 ↔ rb_b x i = false := by
  constructor
  · intro h
    have h1 := ry_and x ((1 : Int32) <<< (nI i &&& 31)) i
    rw [h, ry_one hi i hi] at h1
    have h0 : rb_b 0 i = false := by
      show (0 : Int32).toBitVec.toNat.testBit i = false
      rw [show (0 : Int32).toBitVec.toNat = 0 from rfl, Nat.zero_testBit]
    rw [h0] at h1
    simpa using h1.symm
  · intro h
    apply rb_ext
    intro j hj
    have h0 : rb_b 0 j = false := by
      show (0 : Int32).toBitVec.toNat.testBit j = false
      rw [show (0 : Int32).toBitVec.toNat = 0 from rfl, Nat.zero_testBit]
    rw [ry_and, ry_one hi j hj, h0]
    by_cases e : j = i
    · rw [e, h]; rfl
    · simp [e]
/-- the code of three terms -/
def rx_code (s p o : Nat) : Nat := (s * 32 + p) * 32 + o
theorem rx_code_s {s p o : Nat} (hp : p < 32) (ho : o < 32) : rx_code s p o / 32 / 32 = s := by unfold rx_code; omega
theorem rx_code_p {s p o : Nat} (hp : p < 32) (ho : o < 32) : rx_code s p o / 32 % 32 = p := by unfold rx_code; omega
theorem rx_code_o {s p o : Nat} (ho : o < 32) : rx_code s p o % 32 = o := by unfold rx_code; omega
theorem rx_code_lt {s p o : Nat} (hs : s < 32) (hp : p < 32) (ho : o < 32) : rx_code s p o < 32768 := by unfold rx_code; omega
theorem rx_code_of (c : Nat) : rx_code (c / 32 / 32) (c / 32 % 32) (c % 32) = c := by unfold rx_code; omega
/-- what the rows hold of a set -/
def rx_TR (X : Nat → Bool) (f g h : Nat → Int32) (al : Int32) : Prop :=
  (∀ s p o, s < 32 → p < 32 → o < 32 → rb_b (f (s * 32 + p)) o = X (rx_code s p o)) ∧
  (∀ p s, p < 32 → s < 32 → (rb_b (g p) s = true ↔ ∃ o, o < 32 ∧ X (rx_code s p o) = true)) ∧
  (∀ s p, s < 32 → p < 32 → (rb_b (h s) p = true ↔ ∃ o, o < 32 ∧ X (rx_code s p o) = true)) ∧
  (∀ s, s < 32 → (rb_b al s = true ↔ ∃ p o, p < 32 ∧ o < 32 ∧ X (rx_code s p o) = true))
/-- the codes of a set, going up -/
def rx_codes (X : Nat → Bool) : List Nat := (List.range 32768).filter X
theorem rx_codes_mem {X : Nat → Bool} {c : Nat} : c ∈ rx_codes X ↔ c < 32768 ∧ X c = true := by
  unfold rx_codes
  rw [List.mem_filter, List.mem_range]
theorem rx_split : List.range 32768 = (List.range 32).flatMap (fun s => (List.range 32).flatMap (fun p => (List.range 32).map (fun o => rx_code s p o))) := by
  have h1 := ry_range 32 1024
  have h2 := ry_range 32 32
  rw [show 1024 * 32 = 32768 from rfl] at h1
  rw [show 32 * 32 = 1024 from rfl] at h2
  rw [h1, h2, List.flatMap_assoc]
  apply ry_congr
  intro s _
  rw [List.flatMap_map]
  rfl
def rx_ss (g : Nat → Int32) (al : Int32) (ks kp : Option Nat) : Int32 := match ks with
  | some s => (1 : Int32) <<< (nI s &&& 31)
  | none => match kp with
    | some p => g p
    | none => al
def rx_ps (h : Nat → Int32) (s : Nat) (kp : Option Nat) : Int32 := match kp with
  | some p => (1 : Int32) <<< (nI p &&& 31)
  | none => h s
def rx_os (f : Nat → Int32) (s p : Nat) (ko : Option Nat) : Int32 := match ko with
  | some o => f (s * 32 + p) &&& ((1 : Int32) <<< (nI o &&& 31))
  | none => f (s * 32 + p)
/-- the codes that three loops go through -/
def rx_trav (f g h : Nat → Int32) (al : Int32) (ks kp ko : Option Nat) : List Nat := (rb_els (rx_ss g al ks kp)).flatMap (fun s => (rb_els (rx_ps h s kp)).flatMap (fun p => (rb_els (rx_os f s p ko)).map (fun o => rx_code s p o)))
theorem rx_trav_all {β : Type} {X : Nat → Bool} {f g h : Nat → Int32} {al : Int32} (hT : rx_TR X f g h al) {ks kp ko : Option Nat} (hs : ∀ s, ks = some s → s < 32) (hp : ∀ p, kp = some p → p < 32) (ho : ∀ o, ko = some o → o < 32) (F : Nat → List β)
    (hF : ∀ s p o, s < 32 → p < 32 → o < 32 → (∃ z, ks = some z ∧ z ≠ s) ∨ (∃ z, kp = some z ∧ z ≠ p) ∨ (∃ z, ko = some z ∧ z ≠ o) → F (rx_code s p o) = []) :
    (rx_trav f g h al ks kp ko).flatMap F = (rx_codes X).flatMap F := by
  obtain ⟨h1, h2, h3, h4⟩ := hT
  have hR : (rx_codes X).flatMap F = (List.range 32).flatMap (fun s => (List.range 32).flatMap (fun p => (List.range 32).flatMap (fun o => if X (rx_code s p o) then F (rx_code s p o) else []))) := by
    unfold rx_codes
    rw [show ((List.range 32768).filter X).flatMap F = ((List.range 32768).filter X).flatMap (fun c => if X c then F c else []) from ry_congr (fun c hc => by rw [if_pos (List.mem_filter.mp hc).2])]
    rw [ry_filter X _ _ (fun c _ hx => by rw [hx]; rfl), rx_split, List.flatMap_assoc]
    apply ry_congr
    intro s _
    rw [List.flatMap_assoc]
    apply ry_congr
    intro p _
    rw [List.flatMap_map]
  rw [hR]
  unfold rx_trav
  rw [List.flatMap_assoc]
  have hO : ∀ s p, s < 32 → p < 32 → ((rb_els (rx_os f s p ko)).map (fun o => rx_code s p o)).flatMap F = (List.range 32).flatMap (fun o => if X (rx_code s p o) then F (rx_code s p o) else []) := by
    intro s p hs1 hp1
    rw [List.flatMap_map]
    unfold rb_els
    rw [← ry_filter (fun o => rb_b (rx_os f s p ko) o) (fun o => if X (rx_code s p o) then F (rx_code s p o) else [])]
    · apply ry_congr
      intro o hom
      obtain ⟨ho1, ho2⟩ := List.mem_filter.mp hom
      have ho3 := List.mem_range.mp ho1
      have hx : X (rx_code s p o) = true := by
        rw [← h1 s p o hs1 hp1 ho3]
        unfold rx_os at ho2
        cases ko with
        | none => exact ho2
        | some z =>
          have ho2 : rb_b (f (s * 32 + p) &&& ((1 : Int32) <<< (nI z &&& 31))) o = true := ho2
          rw [ry_and, Bool.and_eq_true] at ho2
          exact ho2.1
      rw [if_pos hx]
    · intro o ho1 hb
      have ho3 := List.mem_range.mp ho1
      unfold rx_os at hb
      cases ko with
      | none =>
        simp only at hb
        rw [h1 s p o hs1 hp1 ho3] at hb
        rw [hb]; rfl
      | some z =>
        simp only at hb
        rw [ry_and, h1 s p o hs1 hp1 ho3, ry_one (ho z rfl) o ho3] at hb
        by_cases e : o = z
        · subst e
          have : X (rx_code s p o) = false := by simpa using hb
          rw [this]; rfl
        · rw [hF s p o hs1 hp1 ho3 (Or.inr (Or.inr ⟨z, rfl, fun q => e q.symm⟩))]
          simp
  have hPp : ∀ s, s < 32 → ((rb_els (rx_ps h s kp)).flatMap (fun p => (rb_els (rx_os f s p ko)).map (fun o => rx_code s p o))).flatMap F = (List.range 32).flatMap (fun p => (List.range 32).flatMap (fun o => if X (rx_code s p o) then F (rx_code s p o) else [])) := by
    intro s hs1
    rw [List.flatMap_assoc]
    unfold rb_els
    rw [← ry_filter (fun p => rb_b (rx_ps h s kp) p) (fun p => (List.range 32).flatMap (fun o => if X (rx_code s p o) then F (rx_code s p o) else []))]
    · apply ry_congr
      intro p hpm
      exact hO s p hs1 (List.mem_range.mp (List.mem_filter.mp hpm).1)
    · intro p hp1 hb
      have hp3 := List.mem_range.mp hp1
      apply List.flatMap_eq_nil_iff.mpr
      intro o ho1
      have ho3 := List.mem_range.mp ho1
      unfold rx_ps at hb
      cases kp with
      | none =>
        simp only at hb
        have hn : ¬ X (rx_code s p o) = true := fun q => by
          have := (h3 s p hs1 hp3).mpr ⟨o, ho3, q⟩
          rw [hb] at this
          cases this
        rw [if_neg hn]
      | some z =>
        simp only at hb
        rw [ry_one (hp z rfl) p hp3] at hb
        have e : p ≠ z := by simpa using hb
        rw [hF s p o hs1 hp3 ho3 (Or.inr (Or.inl ⟨z, rfl, fun q => e q.symm⟩))]
        simp
  unfold rb_els
  rw [← ry_filter (fun s => rb_b (rx_ss g al ks kp) s) (fun s => (List.range 32).flatMap (fun p => (List.range 32).flatMap (fun o => if X (rx_code s p o) then F (rx_code s p o) else [])))]
  · apply ry_congr
    intro s hsm
    exact hPp s (List.mem_range.mp (List.mem_filter.mp hsm).1)
  · intro s hs1 hb
    have hs3 := List.mem_range.mp hs1
    apply List.flatMap_eq_nil_iff.mpr
    intro p hp1
    have hp3 := List.mem_range.mp hp1
    apply List.flatMap_eq_nil_iff.mpr
    intro o ho1
    have ho3 := List.mem_range.mp ho1
    unfold rx_ss at hb
    cases ks with
    | some z =>
      simp only at hb
      rw [ry_one (hs z rfl) s hs3] at hb
      have e : s ≠ z := by simpa using hb
      rw [hF s p o hs3 hp3 ho3 (Or.inl ⟨z, rfl, fun q => e q.symm⟩)]
      simp
    | none =>
      cases kp with
      | none =>
        simp only at hb
        have hn : ¬ X (rx_code s p o) = true := fun q => by
          have := (h4 s hs3).mpr ⟨p, o, hp3, ho3, q⟩
          rw [hb] at this
          cases this
        rw [if_neg hn]
      | some z =>
        simp only at hb
        by_cases e : p = z
        · subst e
          have hn : ¬ X (rx_code s p o) = true := fun q => by
            have := (h2 p s hp3 hs3).mpr ⟨o, ho3, q⟩
            rw [hb] at this
            cases this
          rw [if_neg hn]
        · rw [hF s p o hs3 hp3 ho3 (Or.inr (Or.inl ⟨z, rfl, fun q => e q.symm⟩))]
          simp
end
