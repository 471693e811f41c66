section
-- ===== PART A: goes FIRST, ahead of the names: the tables' words, and 'selects' of the private methods out of them =====
/-- a private method of a class that the tables say can be made, by its rows of tables_1 -/
def lw_okq (q : MethodName × Nat) : Prop := (q.1.cls ≠ "java/lang/invoke/MethodHandle" ∧ q.1.cls ≠ "java/lang/invoke/VarHandle") ∧ Cond.instantiable q.1.cls q.2 ∈ tables_1 ∧ Cond.privateMethod q.1 ∈ tables_1 ∧ Cond.instanceMethod q.1 ∈ tables_1
theorem lw_p0 : lw_okq (⟨"RlRounds", "placeOfSaid", "(I)I"⟩, 7) := ⟨⟨by decide +kernel, by decide +kernel⟩, List.mem_of_getElem? (i := 13) (by decide +kernel), List.mem_of_getElem? (i := 138) (by decide +kernel), List.mem_of_getElem? (i := 139) (by decide +kernel)⟩
theorem lw_p1 : lw_okq (⟨"RlRounds", "isTooLarge", "()Z"⟩, 7) := ⟨⟨by decide +kernel, by decide +kernel⟩, List.mem_of_getElem? (i := 13) (by decide +kernel), List.mem_of_getElem? (i := 157) (by decide +kernel), List.mem_of_getElem? (i := 158) (by decide +kernel)⟩
theorem lw_p2 : lw_okq (⟨"RlRounds$Deriver", "add", "(I)V"⟩, 8) := ⟨⟨by decide +kernel, by decide +kernel⟩, List.mem_of_getElem? (i := 42) (by decide +kernel), List.mem_of_getElem? (i := 172) (by decide +kernel), List.mem_of_getElem? (i := 173) (by decide +kernel)⟩
theorem lw_p3 : lw_okq (⟨"RlRounds$Deriver", "rulesInReach", "()I"⟩, 8) := ⟨⟨by decide +kernel, by decide +kernel⟩, List.mem_of_getElem? (i := 42) (by decide +kernel), List.mem_of_getElem? (i := 185) (by decide +kernel), List.mem_of_getElem? (i := 186) (by decide +kernel)⟩
theorem lw_p4 : lw_okq (⟨"RlRounds$Deriver", "applyRules", "(II)V"⟩, 8) := ⟨⟨by decide +kernel, by decide +kernel⟩, List.mem_of_getElem? (i := 42) (by decide +kernel), List.mem_of_getElem? (i := 199) (by decide +kernel), List.mem_of_getElem? (i := 200) (by decide +kernel)⟩
theorem lw_p5 : lw_okq (⟨"RlRoundsModel", "make", "()V"⟩, 15) := ⟨⟨by decide +kernel, by decide +kernel⟩, List.mem_of_getElem? (i := 361) (by decide +kernel), List.mem_of_getElem? (i := 440) (by decide +kernel), List.mem_of_getElem? (i := 441) (by decide +kernel)⟩
theorem lw_p6 : lw_okq (⟨"RlRoundsModel", "collect", "()V"⟩, 15) := ⟨⟨by decide +kernel, by decide +kernel⟩, List.mem_of_getElem? (i := 361) (by decide +kernel), List.mem_of_getElem? (i := 444) (by decide +kernel), List.mem_of_getElem? (i := 445) (by decide +kernel)⟩
theorem lw_p7 : lw_okq (⟨"RlRoundsModel", "begin", "(I)V"⟩, 15) := ⟨⟨by decide +kernel, by decide +kernel⟩, List.mem_of_getElem? (i := 361) (by decide +kernel), List.mem_of_getElem? (i := 448) (by decide +kernel), List.mem_of_getElem? (i := 449) (by decide +kernel)⟩
theorem lw_p8 : lw_okq (⟨"RlRoundsModel", "next", "()Z"⟩, 15) := ⟨⟨by decide +kernel, by decide +kernel⟩, List.mem_of_getElem? (i := 361) (by decide +kernel), List.mem_of_getElem? (i := 452) (by decide +kernel), List.mem_of_getElem? (i := 453) (by decide +kernel)⟩
theorem lw_p9 : lw_okq (⟨"RlRoundsModel", "release", "()V"⟩, 15) := ⟨⟨by decide +kernel, by decide +kernel⟩, List.mem_of_getElem? (i := 361) (by decide +kernel), List.mem_of_getElem? (i := 508) (by decide +kernel), List.mem_of_getElem? (i := 509) (by decide +kernel)⟩
theorem lw_p10 : lw_okq (⟨"RlRoundsModel", "fits", "(I)Z"⟩, 15) := ⟨⟨by decide +kernel, by decide +kernel⟩, List.mem_of_getElem? (i := 361) (by decide +kernel), List.mem_of_getElem? (i := 512) (by decide +kernel), List.mem_of_getElem? (i := 513) (by decide +kernel)⟩
theorem lw_p11 : lw_okq (⟨"RlRoundsModel", "fitsItem", "(III)Z"⟩, 15) := ⟨⟨by decide +kernel, by decide +kernel⟩, List.mem_of_getElem? (i := 361) (by decide +kernel), List.mem_of_getElem? (i := 516) (by decide +kernel), List.mem_of_getElem? (i := 517) (by decide +kernel)⟩
theorem lw_p12 : lw_okq (⟨"RlRoundsModel", "given", "()I"⟩, 15) := ⟨⟨by decide +kernel, by decide +kernel⟩, List.mem_of_getElem? (i := 361) (by decide +kernel), List.mem_of_getElem? (i := 520) (by decide +kernel), List.mem_of_getElem? (i := 521) (by decide +kernel)⟩
theorem lw_p13 : lw_okq (⟨"RlRoundsModel", "termOf", "(I)I"⟩, 15) := ⟨⟨by decide +kernel, by decide +kernel⟩, List.mem_of_getElem? (i := 361) (by decide +kernel), List.mem_of_getElem? (i := 524) (by decide +kernel), List.mem_of_getElem? (i := 525) (by decide +kernel)⟩
theorem lw_p14 : lw_okq (⟨"RlRoundsModel", "premise", "(I)I"⟩, 15) := ⟨⟨by decide +kernel, by decide +kernel⟩, List.mem_of_getElem? (i := 361) (by decide +kernel), List.mem_of_getElem? (i := 548) (by decide +kernel), List.mem_of_getElem? (i := 549) (by decide +kernel)⟩
def lw_privs_1 : List (MethodName × Nat) := [(⟨"RlRounds", "placeOfSaid", "(I)I"⟩, 7), (⟨"RlRounds", "isTooLarge", "()Z"⟩, 7), (⟨"RlRounds$Deriver", "add", "(I)V"⟩, 8), (⟨"RlRounds$Deriver", "rulesInReach", "()I"⟩, 8), (⟨"RlRounds$Deriver", "applyRules", "(II)V"⟩, 8), (⟨"RlRoundsModel", "make", "()V"⟩, 15), (⟨"RlRoundsModel", "collect", "()V"⟩, 15), (⟨"RlRoundsModel", "begin", "(I)V"⟩, 15), (⟨"RlRoundsModel", "next", "()Z"⟩, 15), (⟨"RlRoundsModel", "release", "()V"⟩, 15), (⟨"RlRoundsModel", "fits", "(I)Z"⟩, 15), (⟨"RlRoundsModel", "fitsItem", "(III)Z"⟩, 15), (⟨"RlRoundsModel", "given", "()I"⟩, 15), (⟨"RlRoundsModel", "termOf", "(I)I"⟩, 15), (⟨"RlRoundsModel", "premise", "(I)I"⟩, 15)]
theorem lw_r1 : ∀ q ∈ lw_privs_1, lw_okq q := List.forall_mem_cons.mpr ⟨lw_p0, List.forall_mem_cons.mpr ⟨lw_p1, List.forall_mem_cons.mpr ⟨lw_p2, List.forall_mem_cons.mpr ⟨lw_p3, List.forall_mem_cons.mpr ⟨lw_p4, List.forall_mem_cons.mpr ⟨lw_p5, List.forall_mem_cons.mpr ⟨lw_p6, List.forall_mem_cons.mpr ⟨lw_p7, List.forall_mem_cons.mpr ⟨lw_p8, List.forall_mem_cons.mpr ⟨lw_p9, List.forall_mem_cons.mpr ⟨lw_p10, List.forall_mem_cons.mpr ⟨lw_p11, List.forall_mem_cons.mpr ⟨lw_p12, List.forall_mem_cons.mpr ⟨lw_p13, List.forall_mem_cons.mpr ⟨lw_p14, fun _ h => absurd h List.not_mem_nil⟩⟩⟩⟩⟩⟩⟩⟩⟩⟩⟩⟩⟩⟩⟩
def lw_privs : List (MethodName × Nat) := lw_privs_1
def lw_tbl : List Cond := k2_sels lw_privs ++ tables_1
theorem lw_privs_ok : ∀ q ∈ lw_privs, lw_okq q := lw_r1

/-! the tables' words that go with every call; what a method needs of them -/
def rg_tbl : List Cond := lw_tbl.filter goodWord
abbrev w_ (y : MethodName) (b : ByteArray) (n : Nat) (r : Option FieldType) : List Cond := .code y b n r :: rg_tbl
theorem rg_ok {w : Cond} (h : w ∈ rg_tbl) : (w.onTables && w.keeps) = true ∨ ∃ ty, w = .arrayClass ty := good_of_word (List.mem_filter.mp h).2
theorem rg_G {c0 : Cond} {y : MethodName} {b : ByteArray} {n : Nat} {r : Option FieldType} (hk : Cond.code y b n r ∈ rg_tbl) : GoodIn (c0 :: rg_tbl) (w_ y b n r) := by
  intro w hw
  rcases List.mem_cons.mp hw with rfl | hw
  · exact ⟨List.mem_cons_of_mem _ hk, rg_ok hk⟩
  · exact ⟨List.mem_cons_of_mem _ hw, rg_ok hw⟩
theorem rg_S {c0 : Cond} {own : String} {idx : Nat} {y : MethodName} {b : ByteArray} {n : Nat} {r : Option FieldType} (h : ∀ w ∈ ([.methodLink own idx y, .static y, .initialized y.cls] : List Cond), w ∈ rg_tbl) (hk : Cond.code y b n r ∈ rg_tbl) : GoodIn (c0 :: rg_tbl) (va_wsS own idx y (w_ y b n r)) := by
  intro w hw
  unfold va_wsS at hw
  rcases List.mem_append.mp hw with hw | hw
  · exact ⟨List.mem_cons_of_mem _ (h w hw), rg_ok (h w hw)⟩
  · exact rg_G hk w hw
theorem rg_V {c0 : Cond} {own C : String} {idx : Nat} {y : MethodName} {b : ByteArray} {n : Nat} {r : Option FieldType} (h : ∀ w ∈ ([.methodLink own idx y, .instanceMethod y, .selects C y y, .initialized C] : List Cond), w ∈ rg_tbl) (hk : Cond.code y b n r ∈ rg_tbl) : GoodIn (c0 :: rg_tbl) (wsV own idx C y (w_ y b n r)) := by
  intro w hw
  unfold wsV at hw
  rcases List.mem_append.mp hw with hw | hw
  · exact ⟨List.mem_cons_of_mem _ (h w hw), rg_ok (h w hw)⟩
  · exact rg_G hk w hw
theorem rg_U {c0 : Cond} {own C owner : String} {idx : Nat} {x y : MethodName} {b : ByteArray} {n : Nat} {r : Option FieldType} (h : ∀ w ∈ ([.methodLink own idx x, .sameMethod x.cls owner x.name x.desc, .selects C x y, .instanceMethod y, .initialized y.cls] : List Cond), w ∈ rg_tbl) (hk : Cond.code y b n r ∈ rg_tbl) : GoodIn (c0 :: rg_tbl) (va_wsU own idx C owner x y (w_ y b n r)) := by
  intro w hw
  unfold va_wsU at hw
  rcases List.mem_append.mp hw with hw | hw
  · exact ⟨List.mem_cons_of_mem _ (h w hw), rg_ok (h w hw)⟩
  · exact rg_G hk w hw
theorem rg_c {c0 : Cond} {ws : List Cond} (h : ∀ w ∈ ws, w ∈ rg_tbl) : ∀ w ∈ ws, w ∈ c0 :: rg_tbl := fun w hw => List.mem_cons_of_mem _ (h w hw)
theorem rg_in {w : Cond} (h : w ∈ lw_tbl) (hg : goodWord w = true) : w ∈ rg_tbl := List.mem_filter.mpr ⟨h, hg⟩
end
section
def R_Rl : String := "RlRounds"
def R_Tb : String := "RlRounds$Table"
def R_Le : String := "RlRounds$Letters"
def R_Tr : String := "RlRounds$Triples"
def R_Ma : String := "RlRounds$Matcher"
def R_De : String := "RlRounds$Deriver"
def R_Se : String := "RlRounds$Seeker"
def R_Ig : String := "java/lang/Integer"
def R_Mt : String := "java/lang/Math"
def R_Ar : String := "java/util/Arrays"
def R_Mo : String := "RlRoundsModel"
def R_Lw : String := "RlRoundsLaw"
abbrev b_Rl_init : ByteArray := prog_1_method_1_code
def y_Rl_init : MethodName := ⟨R_Rl, "<init>", "()V"⟩
abbrev b_Tr_init : ByteArray := prog_7_method_1_code
def y_Tr_init : MethodName := ⟨R_Tr, "<init>", "()V"⟩
abbrev b_De_init : ByteArray := prog_2_method_1_code
def y_De_init : MethodName := ⟨R_De, "<init>", "(LRlRounds$Triples;)V"⟩
abbrev b_Ma_init : ByteArray := prog_4_method_1_code
def y_Ma_init : MethodName := ⟨R_Ma, "<init>", "(LRlRounds$Triples;)V"⟩
abbrev b_Se_init : ByteArray := prog_5_method_1_code
def y_Se_init : MethodName := ⟨R_Se, "<init>", "(LRlRounds$Triples;)V"⟩
abbrev b_Rl_say : ByteArray := prog_1_method_2_code
def y_Rl_say : MethodName := ⟨R_Rl, "say", "(III)I"⟩
abbrev b_Rl_areTerms : ByteArray := prog_1_method_18_code
def y_Rl_areTerms : MethodName := ⟨R_Rl, "areTerms", "(III)Z"⟩
abbrev b_Rl_isTerm : ByteArray := prog_1_method_17_code
def y_Rl_isTerm : MethodName := ⟨R_Rl, "isTerm", "(I)Z"⟩
abbrev b_Rl_codeOf : ByteArray := prog_1_method_19_code
def y_Rl_codeOf : MethodName := ⟨R_Rl, "codeOf", "(III)I"⟩
abbrev b_Rl_placeOfSaid : ByteArray := prog_1_method_16_code
def y_Rl_placeOfSaid : MethodName := ⟨R_Rl, "placeOfSaid", "(I)I"⟩
abbrev b_Rl_unsay : ByteArray := prog_1_method_3_code
def y_Rl_unsay : MethodName := ⟨R_Rl, "unsay", "(III)I"⟩
abbrev b_Rl_rule : ByteArray := prog_1_method_4_code
def y_Rl_rule : MethodName := ⟨R_Rl, "rule", "(IZ)I"⟩
abbrev b_Rl_contains : ByteArray := prog_1_method_20_code
def y_Rl_contains : MethodName := ⟨R_Rl, "contains", "(II)Z"⟩
abbrev b_Rl_run : ByteArray := prog_1_method_5_code
def y_Rl_run : MethodName := ⟨R_Rl, "run", "()I"⟩
abbrev b_Rl_isTooLarge : ByteArray := prog_1_method_15_code
def y_Rl_isTooLarge : MethodName := ⟨R_Rl, "isTooLarge", "()Z"⟩
abbrev b_De_derive : ByteArray := prog_2_method_2_code
def y_De_derive : MethodName := ⟨R_De, "derive", "([III)V"⟩
abbrev b_Tr_clear : ByteArray := prog_7_method_2_code
def y_Tr_clear : MethodName := ⟨R_Tr, "clear", "()V"⟩
abbrev b_Ar_fill : ByteArray := prog_12_method_103_code
def y_Ar_fill : MethodName := ⟨R_Ar, "fill", "([II)V"⟩
abbrev b_De_add : ByteArray := prog_2_method_6_code
def y_De_add : MethodName := ⟨R_De, "add", "(I)V"⟩
abbrev b_Tr_has : ByteArray := prog_7_method_4_code
def y_Tr_has : MethodName := ⟨R_Tr, "has", "(I)Z"⟩
abbrev b_Tr_put : ByteArray := prog_7_method_3_code
def y_Tr_put : MethodName := ⟨R_Tr, "put", "(I)V"⟩
abbrev b_De_rulesInReach : ByteArray := prog_2_method_3_code
def y_De_rulesInReach : MethodName := ⟨R_De, "rulesInReach", "()I"⟩
abbrev b_Tb_premiseAt : ByteArray := prog_6_method_3_code
def y_Tb_premiseAt : MethodName := ⟨R_Tb, "premiseAt", "(II)I"⟩
abbrev b_Tr_subjectsFor : ByteArray := prog_7_method_5_code
def y_Tr_subjectsFor : MethodName := ⟨R_Tr, "subjectsFor", "(II)I"⟩
abbrev b_De_applyRules : ByteArray := prog_2_method_4_code
def y_De_applyRules : MethodName := ⟨R_De, "applyRules", "(II)V"⟩
abbrev b_Tb_premiseCount : ByteArray := prog_6_method_2_code
def y_Tb_premiseCount : MethodName := ⟨R_Tb, "premiseCount", "(I)I"⟩
abbrev b_Le_fit : ByteArray := prog_3_method_4_code
def y_Le_fit : MethodName := ⟨R_Le, "fit", "([IIIJ)J"⟩
abbrev b_Le_bind : ByteArray := prog_3_method_3_code
def y_Le_bind : MethodName := ⟨R_Le, "bind", "(IIJ)J"⟩
abbrev b_Le_termOf : ByteArray := prog_3_method_2_code
def y_Le_termOf : MethodName := ⟨R_Le, "termOf", "(IJ)I"⟩
abbrev b_Ma_join : ByteArray := prog_4_method_3_code
def y_Ma_join : MethodName := ⟨R_Ma, "join", "(LRlRounds$Matcher;IIIJ)Z"⟩
abbrev b_De_meet : ByteArray := prog_2_method_5_code
def y_De_meet : MethodName := ⟨R_De, "meet", "(IJ)Z"⟩
abbrev b_Tb_givenCode : ByteArray := prog_6_method_5_code
def y_Tb_givenCode : MethodName := ⟨R_Tb, "givenCode", "(IJ)I"⟩
abbrev b_Tb_givenAt : ByteArray := prog_6_method_4_code
def y_Tb_givenAt : MethodName := ⟨R_Tb, "givenAt", "(I)I"⟩
abbrev b_Se_meet : ByteArray := prog_5_method_6_code
def y_Se_meet : MethodName := ⟨R_Se, "meet", "(IJ)Z"⟩
abbrev b_Ig_bitCount : ByteArray := prog_10_method_49_code
def y_Ig_bitCount : MethodName := ⟨R_Ig, "bitCount", "(I)I"⟩
abbrev b_Rl_leastOf : ByteArray := prog_1_method_21_code
def y_Rl_leastOf : MethodName := ⟨R_Rl, "leastOf", "(I)I"⟩
abbrev b_Rl_withoutLeast : ByteArray := prog_1_method_22_code
def y_Rl_withoutLeast : MethodName := ⟨R_Rl, "withoutLeast", "(I)I"⟩
abbrev b_Tr_predicatesFor : ByteArray := prog_7_method_6_code
def y_Tr_predicatesFor : MethodName := ⟨R_Tr, "predicatesFor", "(II)I"⟩
abbrev b_Tr_objectsFor : ByteArray := prog_7_method_7_code
def y_Tr_objectsFor : MethodName := ⟨R_Tr, "objectsFor", "(III)I"⟩
abbrev b_De_lastRound : ByteArray := prog_2_method_7_code
def y_De_lastRound : MethodName := ⟨R_De, "lastRound", "()I"⟩
abbrev b_Rl_size : ByteArray := prog_1_method_6_code
def y_Rl_size : MethodName := ⟨R_Rl, "size", "()I"⟩
abbrev b_Rl_triple : ByteArray := prog_1_method_7_code
def y_Rl_triple : MethodName := ⟨R_Rl, "triple", "(I)I"⟩
abbrev b_Tr_codeAt : ByteArray := prog_7_method_8_code
def y_Tr_codeAt : MethodName := ⟨R_Tr, "codeAt", "(I)I"⟩
abbrev b_Tr_elementAt : ByteArray := prog_7_method_9_code
def y_Tr_elementAt : MethodName := ⟨R_Tr, "elementAt", "(II)I"⟩
abbrev b_Rl_round : ByteArray := prog_1_method_8_code
def y_Rl_round : MethodName := ⟨R_Rl, "round", "(III)I"⟩
abbrev b_De_roundOf : ByteArray := prog_2_method_8_code
def y_De_roundOf : MethodName := ⟨R_De, "roundOf", "(I)I"⟩
abbrev b_Rl_ways : ByteArray := prog_1_method_9_code
def y_Rl_ways : MethodName := ⟨R_Rl, "ways", "(III)I"⟩
abbrev b_Se_countWays : ByteArray := prog_5_method_2_code
def y_Se_countWays : MethodName := ⟨R_Se, "countWays", "(II)I"⟩
abbrev b_Se_seekWay : ByteArray := prog_5_method_3_code
def y_Se_seekWay : MethodName := ⟨R_Se, "seekWay", "(III)Z"⟩
abbrev b_Rl_way : ByteArray := prog_1_method_10_code
def y_Rl_way : MethodName := ⟨R_Rl, "way", "(IIIII)I"⟩
abbrev b_Se_foundPremise : ByteArray := prog_5_method_7_code
def y_Se_foundPremise : MethodName := ⟨R_Se, "foundPremise", "(I)I"⟩
abbrev b_Rl_clashes : ByteArray := prog_1_method_11_code
def y_Rl_clashes : MethodName := ⟨R_Rl, "clashes", "()I"⟩
abbrev b_Se_countClashes : ByteArray := prog_5_method_4_code
def y_Se_countClashes : MethodName := ⟨R_Se, "countClashes", "()I"⟩
abbrev b_Se_seekClash : ByteArray := prog_5_method_5_code
def y_Se_seekClash : MethodName := ⟨R_Se, "seekClash", "(I)Z"⟩
abbrev b_Rl_clash : ByteArray := prog_1_method_12_code
def y_Rl_clash : MethodName := ⟨R_Rl, "clash", "(II)I"⟩
abbrev b_Rl_group : ByteArray := prog_1_method_13_code
def y_Rl_group : MethodName := ⟨R_Rl, "group", "(I)I"⟩
abbrev b_Mt_min : ByteArray := prog_11_method_69_code
def y_Mt_min : MethodName := ⟨R_Mt, "min", "(II)I"⟩
abbrev b_Rl_said : ByteArray := prog_1_method_14_code
def y_Rl_said : MethodName := ⟨R_Rl, "said", "()I"⟩
abbrev b_Mo_init : ByteArray := prog_9_method_1_code
def y_Mo_init : MethodName := ⟨R_Mo, "<init>", "()V"⟩
abbrev b_Mo_say : ByteArray := prog_9_method_18_code
def y_Mo_say : MethodName := ⟨R_Mo, "say", "(III)I"⟩
abbrev b_Mo_isTriple : ByteArray := prog_9_method_3_code
def y_Mo_isTriple : MethodName := ⟨R_Mo, "isTriple", "(III)Z"⟩
abbrev b_Mo_isTerm : ByteArray := prog_9_method_2_code
def y_Mo_isTerm : MethodName := ⟨R_Mo, "isTerm", "(I)Z"⟩
abbrev b_Mo_codeOf : ByteArray := prog_9_method_4_code
def y_Mo_codeOf : MethodName := ⟨R_Mo, "codeOf", "(III)I"⟩
abbrev b_Mo_unsay : ByteArray := prog_9_method_19_code
def y_Mo_unsay : MethodName := ⟨R_Mo, "unsay", "(III)I"⟩
abbrev b_Mo_rule : ByteArray := prog_9_method_20_code
def y_Mo_rule : MethodName := ⟨R_Mo, "rule", "(IZ)I"⟩
abbrev b_Mo_run : ByteArray := prog_9_method_21_code
def y_Mo_run : MethodName := ⟨R_Mo, "run", "()I"⟩
abbrev b_Mo_make : ByteArray := prog_9_method_17_code
def y_Mo_make : MethodName := ⟨R_Mo, "make", "()V"⟩
abbrev b_Mo_collect : ByteArray := prog_9_method_16_code
def y_Mo_collect : MethodName := ⟨R_Mo, "collect", "()V"⟩
abbrev b_Mo_begin : ByteArray := prog_9_method_9_code
def y_Mo_begin : MethodName := ⟨R_Mo, "begin", "(I)V"⟩
abbrev b_Mo_next : ByteArray := prog_9_method_13_code
def y_Mo_next : MethodName := ⟨R_Mo, "next", "()Z"⟩
abbrev b_Mo_premises : ByteArray := prog_9_method_8_code
def y_Mo_premises : MethodName := ⟨R_Mo, "premises", "(I)I"⟩
abbrev b_Mo_pattern : ByteArray := prog_9_method_5_code
def y_Mo_pattern : MethodName := ⟨R_Mo, "pattern", "(I)I"⟩
abbrev b_Mo_early : ByteArray := prog_9_method_6_code
def y_Mo_early : MethodName := ⟨R_Mo, "early", "(I)I"⟩
abbrev b_Mo_later : ByteArray := prog_9_method_7_code
def y_Mo_later : MethodName := ⟨R_Mo, "later", "(I)I"⟩
abbrev b_Mo_release : ByteArray := prog_9_method_10_code
def y_Mo_release : MethodName := ⟨R_Mo, "release", "()V"⟩
abbrev b_Mo_fits : ByteArray := prog_9_method_12_code
def y_Mo_fits : MethodName := ⟨R_Mo, "fits", "(I)Z"⟩
abbrev b_Mo_fitsItem : ByteArray := prog_9_method_11_code
def y_Mo_fitsItem : MethodName := ⟨R_Mo, "fitsItem", "(III)Z"⟩
abbrev b_Mo_given : ByteArray := prog_9_method_15_code
def y_Mo_given : MethodName := ⟨R_Mo, "given", "()I"⟩
abbrev b_Mo_termOf : ByteArray := prog_9_method_14_code
def y_Mo_termOf : MethodName := ⟨R_Mo, "termOf", "(I)I"⟩
abbrev b_Mo_size : ByteArray := prog_9_method_22_code
def y_Mo_size : MethodName := ⟨R_Mo, "size", "()I"⟩
abbrev b_Mo_triple : ByteArray := prog_9_method_23_code
def y_Mo_triple : MethodName := ⟨R_Mo, "triple", "(I)I"⟩
abbrev b_Mo_round : ByteArray := prog_9_method_24_code
def y_Mo_round : MethodName := ⟨R_Mo, "round", "(III)I"⟩
abbrev b_Mo_ways : ByteArray := prog_9_method_25_code
def y_Mo_ways : MethodName := ⟨R_Mo, "ways", "(III)I"⟩
abbrev b_Mo_way : ByteArray := prog_9_method_27_code
def y_Mo_way : MethodName := ⟨R_Mo, "way", "(IIIII)I"⟩
abbrev b_Mo_premise : ByteArray := prog_9_method_26_code
def y_Mo_premise : MethodName := ⟨R_Mo, "premise", "(I)I"⟩
abbrev b_Mo_clashes : ByteArray := prog_9_method_28_code
def y_Mo_clashes : MethodName := ⟨R_Mo, "clashes", "()I"⟩
abbrev b_Mo_clash : ByteArray := prog_9_method_29_code
def y_Mo_clash : MethodName := ⟨R_Mo, "clash", "(II)I"⟩
abbrev b_Mo_group : ByteArray := prog_9_method_30_code
def y_Mo_group : MethodName := ⟨R_Mo, "group", "(I)I"⟩
abbrev b_Mo_said : ByteArray := prog_9_method_31_code
def y_Mo_said : MethodName := ⟨R_Mo, "said", "()I"⟩
def y_Ma_meet : MethodName := ⟨R_Ma, "meet", "(IJ)Z"⟩
def F_Rl : u_T := fun k => match k with
  | 0 => ("RlRounds", "saidCodes", "[I", true)
  | 1 => ("RlRounds", "saidCount", "I", false)
  | 2 => ("RlRounds", "rulesOn", "I", false)
  | 3 => ("RlRounds", "derived", "Z", false)
  | 4 => ("RlRounds", "held", "LRlRounds$Triples;", true)
  | 5 => ("RlRounds", "deriver", "LRlRounds$Deriver;", true)
  | _ => ("RlRounds", "seeker", "LRlRounds$Seeker;", true)
def t_Rl : Nat → FieldType := fun k => match k with
  | 0 => .array .int
  | 1 => .int
  | 2 => .int
  | 3 => .boolean
  | 4 => .object "RlRounds$Triples"
  | 5 => .object "RlRounds$Deriver"
  | _ => .object "RlRounds$Seeker"
theorem n_Rl : ∀ a, a < 7 → ∀ b, b < 7 → a ≠ b → (F_Rl a).2.1 ≠ (F_Rl b).2.1 := by decide +kernel
theorem t_Rl_ok : ∀ k, k < 7 → parseFieldDescriptor (F_Rl k).2.2.1 = some (t_Rl k) := by decide +kernel
theorem i_Rl : ∀ w ∈ u_ws R_Rl F_Rl 7, w ∈ rg_tbl := by decide +kernel
def F_Tr : u_T := fun k => match k with
  | 0 => ("RlRounds$Triples", "objects", "[I", true)
  | 1 => ("RlRounds$Triples", "subjects", "[I", true)
  | 2 => ("RlRounds$Triples", "predicates", "[I", true)
  | _ => ("RlRounds$Triples", "allSubjects", "I", false)
def t_Tr : Nat → FieldType := fun k => match k with
  | 0 => .array .int
  | 1 => .array .int
  | 2 => .array .int
  | _ => .int
theorem n_Tr : ∀ a, a < 4 → ∀ b, b < 4 → a ≠ b → (F_Tr a).2.1 ≠ (F_Tr b).2.1 := by decide +kernel
theorem t_Tr_ok : ∀ k, k < 4 → parseFieldDescriptor (F_Tr k).2.2.1 = some (t_Tr k) := by decide +kernel
theorem i_Tr : ∀ w ∈ u_ws R_Tr F_Tr 4, w ∈ rg_tbl := by decide +kernel
def F_De : u_T := fun k => match k with
  | 0 => ("RlRounds$Matcher", "held", "LRlRounds$Triples;", true)
  | 1 => ("RlRounds$Matcher", "chosen", "[I", true)
  | 2 => ("RlRounds$Deriver", "come", "LRlRounds$Triples;", true)
  | 3 => ("RlRounds$Deriver", "codes", "[I", true)
  | 4 => ("RlRounds$Deriver", "rounds", "[I", true)
  | 5 => ("RlRounds$Deriver", "nowRound", "I", false)
  | 6 => ("RlRounds$Deriver", "count", "I", false)
  | _ => ("RlRounds$Deriver", "large", "Z", false)
def t_De : Nat → FieldType := fun k => match k with
  | 0 => .object "RlRounds$Triples"
  | 1 => .array .int
  | 2 => .object "RlRounds$Triples"
  | 3 => .array .int
  | 4 => .array .int
  | 5 => .int
  | 6 => .int
  | _ => .boolean
theorem n_De : ∀ a, a < 8 → ∀ b, b < 8 → a ≠ b → (F_De a).2.1 ≠ (F_De b).2.1 := by decide +kernel
theorem t_De_ok : ∀ k, k < 8 → parseFieldDescriptor (F_De k).2.2.1 = some (t_De k) := by decide +kernel
theorem i_De : ∀ w ∈ u_ws R_De F_De 8, w ∈ rg_tbl := by decide +kernel
def F_Se : u_T := fun k => match k with
  | 0 => ("RlRounds$Matcher", "held", "LRlRounds$Triples;", true)
  | 1 => ("RlRounds$Matcher", "chosen", "[I", true)
  | 2 => ("RlRounds$Seeker", "wanted", "I", false)
  | 3 => ("RlRounds$Seeker", "met", "I", false)
  | _ => ("RlRounds$Seeker", "foundRow", "I", false)
def t_Se : Nat → FieldType := fun k => match k with
  | 0 => .object "RlRounds$Triples"
  | 1 => .array .int
  | 2 => .int
  | 3 => .int
  | _ => .int
theorem n_Se : ∀ a, a < 5 → ∀ b, b < 5 → a ≠ b → (F_Se a).2.1 ≠ (F_Se b).2.1 := by decide +kernel
theorem t_Se_ok : ∀ k, k < 5 → parseFieldDescriptor (F_Se k).2.2.1 = some (t_Se k) := by decide +kernel
theorem i_Se : ∀ w ∈ u_ws R_Se F_Se 5, w ∈ rg_tbl := by decide +kernel
def F_Mo : u_T := fun k => match k with
  | 0 => ("RlRoundsModel", "said", "[Z", true)
  | 1 => ("RlRoundsModel", "saidCount", "I", false)
  | 2 => ("RlRoundsModel", "off", "[Z", true)
  | 3 => ("RlRoundsModel", "known", "Z", false)
  | 4 => ("RlRoundsModel", "large", "Z", false)
  | 5 => ("RlRoundsModel", "greatest", "I", false)
  | 6 => ("RlRoundsModel", "rounds", "[I", true)
  | 7 => ("RlRoundsModel", "comes", "[Z", true)
  | 8 => ("RlRoundsModel", "held", "[I", true)
  | 9 => ("RlRoundsModel", "many", "I", false)
  | 10 => ("RlRoundsModel", "at", "[I", true)
  | 11 => ("RlRoundsModel", "letters", "[I", true)
  | 12 => ("RlRoundsModel", "bound", "[I", true)
  | 13 => ("RlRoundsModel", "level", "I", false)
  | _ => ("RlRoundsModel", "rule", "I", false)
def t_Mo : Nat → FieldType := fun k => match k with
  | 0 => .array .boolean
  | 1 => .int
  | 2 => .array .boolean
  | 3 => .boolean
  | 4 => .boolean
  | 5 => .int
  | 6 => .array .int
  | 7 => .array .boolean
  | 8 => .array .int
  | 9 => .int
  | 10 => .array .int
  | 11 => .array .int
  | 12 => .array .int
  | 13 => .int
  | _ => .int
theorem n_Mo : ∀ a, a < 15 → ∀ b, b < 15 → a ≠ b → (F_Mo a).2.1 ≠ (F_Mo b).2.1 := by decide +kernel
theorem t_Mo_ok : ∀ k, k < 15 → parseFieldDescriptor (F_Mo k).2.2.1 = some (t_Mo k) := by decide +kernel
theorem i_Mo : ∀ w ∈ u_ws R_Mo F_Mo 15, w ∈ rg_tbl := by decide +kernel
abbrev classes : List vw_C := [(R_Rl, F_Rl, 7), (R_Tr, F_Tr, 4), (R_De, F_De, 8), (R_Se, F_Se, 5), (R_Mo, F_Mo, 15)]
theorem m_0 : (.initialized R_Lw : Cond) ∈ rg_tbl := rg_in (List.mem_append_right _ (List.mem_of_getElem? (i := 0) (by decide +kernel))) (by decide +kernel)
theorem m_1 : (.initialized R_Rl : Cond) ∈ rg_tbl := rg_in (List.mem_append_right _ (List.mem_of_getElem? (i := 1) (by decide +kernel))) (by decide +kernel)
theorem m_2 : (.initialized R_Tr : Cond) ∈ rg_tbl := rg_in (List.mem_append_right _ (List.mem_of_getElem? (i := 2) (by decide +kernel))) (by decide +kernel)
theorem m_3 : (.initialized R_Ma : Cond) ∈ rg_tbl := rg_in (List.mem_append_right _ (List.mem_of_getElem? (i := 3) (by decide +kernel))) (by decide +kernel)
theorem m_4 : (.initialized R_De : Cond) ∈ rg_tbl := rg_in (List.mem_append_right _ (List.mem_of_getElem? (i := 4) (by decide +kernel))) (by decide +kernel)
theorem m_5 : (.initialized R_Se : Cond) ∈ rg_tbl := rg_in (List.mem_append_right _ (List.mem_of_getElem? (i := 5) (by decide +kernel))) (by decide +kernel)
theorem m_6 : (.initialized R_Mo : Cond) ∈ rg_tbl := rg_in (List.mem_append_right _ (List.mem_of_getElem? (i := 6) (by decide +kernel))) (by decide +kernel)
theorem m_7 : (.initialized R_Ar : Cond) ∈ rg_tbl := rg_in (List.mem_append_right _ (List.mem_of_getElem? (i := 7) (by decide +kernel))) (by decide +kernel)
theorem m_8 : (.initialized R_Tb : Cond) ∈ rg_tbl := rg_in (List.mem_append_right _ (List.mem_of_getElem? (i := 8) (by decide +kernel))) (by decide +kernel)
theorem m_9 : (.initialized R_Le : Cond) ∈ rg_tbl := rg_in (List.mem_append_right _ (List.mem_of_getElem? (i := 9) (by decide +kernel))) (by decide +kernel)
theorem m_10 : (.initialized R_Ig : Cond) ∈ rg_tbl := rg_in (List.mem_append_right _ (List.mem_of_getElem? (i := 10) (by decide +kernel))) (by decide +kernel)
theorem m_11 : (.initialized R_Mt : Cond) ∈ rg_tbl := rg_in (List.mem_append_right _ (List.mem_of_getElem? (i := 11) (by decide +kernel))) (by decide +kernel)
theorem m_12 : (.classLink R_Lw 7 "RlRounds" : Cond) ∈ rg_tbl := rg_in (List.mem_append_right _ (List.mem_of_getElem? (i := 12) (by decide +kernel))) (by decide +kernel)
theorem m_13 : (.instantiable R_Rl 7 : Cond) ∈ rg_tbl := rg_in (List.mem_append_right _ (List.mem_of_getElem? (i := 13) (by decide +kernel))) (by decide +kernel)
theorem m_14 : (.methodLink R_Lw 9 y_Rl_init : Cond) ∈ rg_tbl := rg_in (List.mem_append_right _ (List.mem_of_getElem? (i := 14) (by decide +kernel))) (by decide +kernel)
theorem m_15 : (.instanceMethod y_Rl_init : Cond) ∈ rg_tbl := rg_in (List.mem_append_right _ (List.mem_of_getElem? (i := 15) (by decide +kernel))) (by decide +kernel)
theorem m_16 : (.code y_Rl_init b_Rl_init 1 none : Cond) ∈ rg_tbl := rg_in (List.mem_append_right _ (List.mem_of_getElem? (i := 16) (by decide +kernel))) (by decide +kernel)
theorem m_17 : (.methodLink R_Rl 3 objectInit : Cond) ∈ rg_tbl := rg_in (List.mem_append_right _ (List.mem_of_getElem? (i := 17) (by decide +kernel))) (by decide +kernel)
theorem m_18 : (.instanceMethod objectInit : Cond) ∈ rg_tbl := rg_in (List.mem_append_right _ (List.mem_of_getElem? (i := 18) (by decide +kernel))) (by decide +kernel)
theorem m_19 : (.code objectInit ⟨#[0xb1]⟩ 1 none : Cond) ∈ rg_tbl := rg_in (List.mem_append_right _ (List.mem_of_getElem? (i := 19) (by decide +kernel))) (by decide +kernel)
theorem m_20 : (.constant R_Rl 17 2097151 : Cond) ∈ rg_tbl := rg_in (List.mem_append_right _ (List.mem_of_getElem? (i := 20) (by decide +kernel))) (by decide +kernel)
theorem m_21 : (.classLink R_Rl 25 "RlRounds$Triples" : Cond) ∈ rg_tbl := rg_in (List.mem_append_right _ (List.mem_of_getElem? (i := 21) (by decide +kernel))) (by decide +kernel)
theorem m_22 : (.instantiable R_Tr 4 : Cond) ∈ rg_tbl := rg_in (List.mem_append_right _ (List.mem_of_getElem? (i := 22) (by decide +kernel))) (by decide +kernel)
theorem m_23 : (.methodLink R_Rl 27 y_Tr_init : Cond) ∈ rg_tbl := rg_in (List.mem_append_right _ (List.mem_of_getElem? (i := 23) (by decide +kernel))) (by decide +kernel)
theorem m_24 : (.instanceMethod y_Tr_init : Cond) ∈ rg_tbl := rg_in (List.mem_append_right _ (List.mem_of_getElem? (i := 24) (by decide +kernel))) (by decide +kernel)
theorem m_25 : (.code y_Tr_init b_Tr_init 1 none : Cond) ∈ rg_tbl := rg_in (List.mem_append_right _ (List.mem_of_getElem? (i := 25) (by decide +kernel))) (by decide +kernel)
theorem m_26 : (.methodLink R_Tr 3 objectInit : Cond) ∈ rg_tbl := rg_in (List.mem_append_right _ (List.mem_of_getElem? (i := 26) (by decide +kernel))) (by decide +kernel)
theorem m_27 : (.fieldLink R_Tr 9 "RlRounds$Triples" "objects" "[I" : Cond) ∈ rg_tbl := rg_in (List.mem_append_right _ (List.mem_of_getElem? (i := 27) (by decide +kernel))) (by decide +kernel)
theorem m_28 : (.fieldLink R_Tr 15 "RlRounds$Triples" "subjects" "[I" : Cond) ∈ rg_tbl := rg_in (List.mem_append_right _ (List.mem_of_getElem? (i := 28) (by decide +kernel))) (by decide +kernel)
theorem m_29 : (.fieldLink R_Tr 18 "RlRounds$Triples" "predicates" "[I" : Cond) ∈ rg_tbl := rg_in (List.mem_append_right _ (List.mem_of_getElem? (i := 29) (by decide +kernel))) (by decide +kernel)
theorem m_30 : (.fieldLink R_Tr 21 "RlRounds$Triples" "allSubjects" "I" : Cond) ∈ rg_tbl := rg_in (List.mem_append_right _ (List.mem_of_getElem? (i := 30) (by decide +kernel))) (by decide +kernel)
theorem m_40 : (.arrayClass .int : Cond) ∈ rg_tbl := rg_in (List.mem_append_right _ (List.mem_of_getElem? (i := 40) (by decide +kernel))) (by decide +kernel)
theorem m_41 : (.classLink R_Rl 32 "RlRounds$Deriver" : Cond) ∈ rg_tbl := rg_in (List.mem_append_right _ (List.mem_of_getElem? (i := 41) (by decide +kernel))) (by decide +kernel)
theorem m_42 : (.instantiable R_De 8 : Cond) ∈ rg_tbl := rg_in (List.mem_append_right _ (List.mem_of_getElem? (i := 42) (by decide +kernel))) (by decide +kernel)
theorem m_43 : (.methodLink R_Rl 34 y_De_init : Cond) ∈ rg_tbl := rg_in (List.mem_append_right _ (List.mem_of_getElem? (i := 43) (by decide +kernel))) (by decide +kernel)
theorem m_44 : (.instanceMethod y_De_init : Cond) ∈ rg_tbl := rg_in (List.mem_append_right _ (List.mem_of_getElem? (i := 44) (by decide +kernel))) (by decide +kernel)
theorem m_45 : (.code y_De_init b_De_init 2 none : Cond) ∈ rg_tbl := rg_in (List.mem_append_right _ (List.mem_of_getElem? (i := 45) (by decide +kernel))) (by decide +kernel)
theorem m_46 : (.methodLink R_De 3 y_Ma_init : Cond) ∈ rg_tbl := rg_in (List.mem_append_right _ (List.mem_of_getElem? (i := 46) (by decide +kernel))) (by decide +kernel)
theorem m_47 : (.instanceMethod y_Ma_init : Cond) ∈ rg_tbl := rg_in (List.mem_append_right _ (List.mem_of_getElem? (i := 47) (by decide +kernel))) (by decide +kernel)
theorem m_48 : (.code y_Ma_init b_Ma_init 2 none : Cond) ∈ rg_tbl := rg_in (List.mem_append_right _ (List.mem_of_getElem? (i := 48) (by decide +kernel))) (by decide +kernel)
theorem m_49 : (.methodLink R_Ma 3 objectInit : Cond) ∈ rg_tbl := rg_in (List.mem_append_right _ (List.mem_of_getElem? (i := 49) (by decide +kernel))) (by decide +kernel)
theorem m_50 : (.classLink R_De 9 "RlRounds$Triples" : Cond) ∈ rg_tbl := rg_in (List.mem_append_right _ (List.mem_of_getElem? (i := 50) (by decide +kernel))) (by decide +kernel)
theorem m_51 : (.methodLink R_De 11 y_Tr_init : Cond) ∈ rg_tbl := rg_in (List.mem_append_right _ (List.mem_of_getElem? (i := 51) (by decide +kernel))) (by decide +kernel)
theorem m_52 : (.fieldLink R_De 14 "RlRounds$Deriver" "come" "LRlRounds$Triples;" : Cond) ∈ rg_tbl := rg_in (List.mem_append_right _ (List.mem_of_getElem? (i := 52) (by decide +kernel))) (by decide +kernel)
theorem m_53 : (.fieldLink R_De 20 "RlRounds$Deriver" "codes" "[I" : Cond) ∈ rg_tbl := rg_in (List.mem_append_right _ (List.mem_of_getElem? (i := 53) (by decide +kernel))) (by decide +kernel)
theorem m_54 : (.fieldLink R_De 24 "RlRounds$Deriver" "rounds" "[I" : Cond) ∈ rg_tbl := rg_in (List.mem_append_right _ (List.mem_of_getElem? (i := 54) (by decide +kernel))) (by decide +kernel)
theorem m_55 : (.fieldLink R_De 27 "RlRounds$Deriver" "nowRound" "I" : Cond) ∈ rg_tbl := rg_in (List.mem_append_right _ (List.mem_of_getElem? (i := 55) (by decide +kernel))) (by decide +kernel)
theorem m_56 : (.fieldLink R_De 31 "RlRounds$Deriver" "count" "I" : Cond) ∈ rg_tbl := rg_in (List.mem_append_right _ (List.mem_of_getElem? (i := 56) (by decide +kernel))) (by decide +kernel)
theorem m_58 : (.fieldLink R_De 34 "RlRounds$Deriver" "large" "Z" : Cond) ∈ rg_tbl := rg_in (List.mem_append_right _ (List.mem_of_getElem? (i := 58) (by decide +kernel))) (by decide +kernel)
theorem m_60 : (.fieldLink R_Ma 9 "RlRounds$Matcher" "held" "LRlRounds$Triples;" : Cond) ∈ rg_tbl := rg_in (List.mem_append_right _ (List.mem_of_getElem? (i := 60) (by decide +kernel))) (by decide +kernel)
theorem m_61 : (.fieldLink R_De 38 "RlRounds$Deriver" "held" "LRlRounds$Triples;" : Cond) ∈ rg_tbl := rg_in (List.mem_append_right _ (List.mem_of_getElem? (i := 61) (by decide +kernel))) (by decide +kernel)
theorem m_62 : (.sameField R_De "RlRounds$Matcher" "held" "LRlRounds$Triples;" : Cond) ∈ rg_tbl := rg_in (List.mem_append_right _ (List.mem_of_getElem? (i := 62) (by decide +kernel))) (by decide +kernel)
theorem m_63 : (.fieldLink R_Ma 15 "RlRounds$Matcher" "chosen" "[I" : Cond) ∈ rg_tbl := rg_in (List.mem_append_right _ (List.mem_of_getElem? (i := 63) (by decide +kernel))) (by decide +kernel)
theorem m_64 : (.fieldLink R_Se 58 "RlRounds$Seeker" "chosen" "[I" : Cond) ∈ rg_tbl := rg_in (List.mem_append_right _ (List.mem_of_getElem? (i := 64) (by decide +kernel))) (by decide +kernel)
theorem m_65 : (.sameField R_Se "RlRounds$Matcher" "chosen" "[I" : Cond) ∈ rg_tbl := rg_in (List.mem_append_right _ (List.mem_of_getElem? (i := 65) (by decide +kernel))) (by decide +kernel)
theorem m_83 : (.classLink R_Rl 41 "RlRounds$Seeker" : Cond) ∈ rg_tbl := rg_in (List.mem_append_right _ (List.mem_of_getElem? (i := 83) (by decide +kernel))) (by decide +kernel)
theorem m_84 : (.instantiable R_Se 5 : Cond) ∈ rg_tbl := rg_in (List.mem_append_right _ (List.mem_of_getElem? (i := 84) (by decide +kernel))) (by decide +kernel)
theorem m_85 : (.methodLink R_Rl 43 y_Se_init : Cond) ∈ rg_tbl := rg_in (List.mem_append_right _ (List.mem_of_getElem? (i := 85) (by decide +kernel))) (by decide +kernel)
theorem m_86 : (.instanceMethod y_Se_init : Cond) ∈ rg_tbl := rg_in (List.mem_append_right _ (List.mem_of_getElem? (i := 86) (by decide +kernel))) (by decide +kernel)
theorem m_87 : (.code y_Se_init b_Se_init 2 none : Cond) ∈ rg_tbl := rg_in (List.mem_append_right _ (List.mem_of_getElem? (i := 87) (by decide +kernel))) (by decide +kernel)
theorem m_88 : (.methodLink R_Se 3 y_Ma_init : Cond) ∈ rg_tbl := rg_in (List.mem_append_right _ (List.mem_of_getElem? (i := 88) (by decide +kernel))) (by decide +kernel)
theorem m_89 : (.fieldLink R_Se 9 "RlRounds$Seeker" "wanted" "I" : Cond) ∈ rg_tbl := rg_in (List.mem_append_right _ (List.mem_of_getElem? (i := 89) (by decide +kernel))) (by decide +kernel)
theorem m_90 : (.fieldLink R_Se 15 "RlRounds$Seeker" "met" "I" : Cond) ∈ rg_tbl := rg_in (List.mem_append_right _ (List.mem_of_getElem? (i := 90) (by decide +kernel))) (by decide +kernel)
theorem m_91 : (.fieldLink R_Se 18 "RlRounds$Seeker" "foundRow" "I" : Cond) ∈ rg_tbl := rg_in (List.mem_append_right _ (List.mem_of_getElem? (i := 91) (by decide +kernel))) (by decide +kernel)
theorem m_102 : (.fieldLink R_Rl 9 "RlRounds" "saidCodes" "[I" : Cond) ∈ rg_tbl := rg_in (List.mem_append_right _ (List.mem_of_getElem? (i := 102) (by decide +kernel))) (by decide +kernel)
theorem m_103 : (.fieldLink R_Rl 13 "RlRounds" "saidCount" "I" : Cond) ∈ rg_tbl := rg_in (List.mem_append_right _ (List.mem_of_getElem? (i := 103) (by decide +kernel))) (by decide +kernel)
theorem m_104 : (.fieldLink R_Rl 18 "RlRounds" "rulesOn" "I" : Cond) ∈ rg_tbl := rg_in (List.mem_append_right _ (List.mem_of_getElem? (i := 104) (by decide +kernel))) (by decide +kernel)
theorem m_105 : (.fieldLink R_Rl 21 "RlRounds" "derived" "Z" : Cond) ∈ rg_tbl := rg_in (List.mem_append_right _ (List.mem_of_getElem? (i := 105) (by decide +kernel))) (by decide +kernel)
theorem m_106 : (.fieldLink R_Rl 28 "RlRounds" "held" "LRlRounds$Triples;" : Cond) ∈ rg_tbl := rg_in (List.mem_append_right _ (List.mem_of_getElem? (i := 106) (by decide +kernel))) (by decide +kernel)
theorem m_107 : (.fieldLink R_Rl 37 "RlRounds" "deriver" "LRlRounds$Deriver;" : Cond) ∈ rg_tbl := rg_in (List.mem_append_right _ (List.mem_of_getElem? (i := 107) (by decide +kernel))) (by decide +kernel)
theorem m_108 : (.fieldLink R_Rl 44 "RlRounds" "seeker" "LRlRounds$Seeker;" : Cond) ∈ rg_tbl := rg_in (List.mem_append_right _ (List.mem_of_getElem? (i := 108) (by decide +kernel))) (by decide +kernel)
theorem m_124 : (.methodLink R_Lw 13 y_Rl_say : Cond) ∈ rg_tbl := rg_in (List.mem_append_right _ (List.mem_of_getElem? (i := 124) (by decide +kernel))) (by decide +kernel)
theorem m_125 : (.instanceMethod y_Rl_say : Cond) ∈ rg_tbl := rg_in (List.mem_append_right _ (List.mem_of_getElem? (i := 125) (by decide +kernel))) (by decide +kernel)
theorem m_126 : (.selects R_Rl y_Rl_say y_Rl_say : Cond) ∈ rg_tbl := rg_in (List.mem_append_right _ (List.mem_of_getElem? (i := 126) (by decide +kernel))) (by decide +kernel)
theorem m_127 : (.code y_Rl_say b_Rl_say 5 (some .int) : Cond) ∈ rg_tbl := rg_in (List.mem_append_right _ (List.mem_of_getElem? (i := 127) (by decide +kernel))) (by decide +kernel)
theorem m_128 : (.methodLink R_Rl 48 y_Rl_areTerms : Cond) ∈ rg_tbl := rg_in (List.mem_append_right _ (List.mem_of_getElem? (i := 128) (by decide +kernel))) (by decide +kernel)
theorem m_129 : (.static y_Rl_areTerms : Cond) ∈ rg_tbl := rg_in (List.mem_append_right _ (List.mem_of_getElem? (i := 129) (by decide +kernel))) (by decide +kernel)
theorem m_130 : (.code y_Rl_areTerms b_Rl_areTerms 3 (some .boolean) : Cond) ∈ rg_tbl := rg_in (List.mem_append_right _ (List.mem_of_getElem? (i := 130) (by decide +kernel))) (by decide +kernel)
theorem m_131 : (.methodLink R_Rl 101 y_Rl_isTerm : Cond) ∈ rg_tbl := rg_in (List.mem_append_right _ (List.mem_of_getElem? (i := 131) (by decide +kernel))) (by decide +kernel)
theorem m_132 : (.static y_Rl_isTerm : Cond) ∈ rg_tbl := rg_in (List.mem_append_right _ (List.mem_of_getElem? (i := 132) (by decide +kernel))) (by decide +kernel)
theorem m_133 : (.code y_Rl_isTerm b_Rl_isTerm 1 (some .boolean) : Cond) ∈ rg_tbl := rg_in (List.mem_append_right _ (List.mem_of_getElem? (i := 133) (by decide +kernel))) (by decide +kernel)
theorem m_134 : (.methodLink R_Rl 52 y_Rl_codeOf : Cond) ∈ rg_tbl := rg_in (List.mem_append_right _ (List.mem_of_getElem? (i := 134) (by decide +kernel))) (by decide +kernel)
theorem m_135 : (.static y_Rl_codeOf : Cond) ∈ rg_tbl := rg_in (List.mem_append_right _ (List.mem_of_getElem? (i := 135) (by decide +kernel))) (by decide +kernel)
theorem m_136 : (.code y_Rl_codeOf b_Rl_codeOf 3 (some .int) : Cond) ∈ rg_tbl := rg_in (List.mem_append_right _ (List.mem_of_getElem? (i := 136) (by decide +kernel))) (by decide +kernel)
theorem m_137 : (.methodLink R_Rl 56 y_Rl_placeOfSaid : Cond) ∈ rg_tbl := rg_in (List.mem_append_right _ (List.mem_of_getElem? (i := 137) (by decide +kernel))) (by decide +kernel)
theorem m_139 : (.instanceMethod y_Rl_placeOfSaid : Cond) ∈ rg_tbl := rg_in (List.mem_append_right _ (List.mem_of_getElem? (i := 139) (by decide +kernel))) (by decide +kernel)
theorem m_140 : (.code y_Rl_placeOfSaid b_Rl_placeOfSaid 3 (some .int) : Cond) ∈ rg_tbl := rg_in (List.mem_append_right _ (List.mem_of_getElem? (i := 140) (by decide +kernel))) (by decide +kernel)
theorem m_141 : (.methodLink R_Lw 18 y_Rl_unsay : Cond) ∈ rg_tbl := rg_in (List.mem_append_right _ (List.mem_of_getElem? (i := 141) (by decide +kernel))) (by decide +kernel)
theorem m_142 : (.instanceMethod y_Rl_unsay : Cond) ∈ rg_tbl := rg_in (List.mem_append_right _ (List.mem_of_getElem? (i := 142) (by decide +kernel))) (by decide +kernel)
theorem m_143 : (.selects R_Rl y_Rl_unsay y_Rl_unsay : Cond) ∈ rg_tbl := rg_in (List.mem_append_right _ (List.mem_of_getElem? (i := 143) (by decide +kernel))) (by decide +kernel)
theorem m_144 : (.code y_Rl_unsay b_Rl_unsay 5 (some .int) : Cond) ∈ rg_tbl := rg_in (List.mem_append_right _ (List.mem_of_getElem? (i := 144) (by decide +kernel))) (by decide +kernel)
theorem m_145 : (.methodLink R_Lw 22 y_Rl_rule : Cond) ∈ rg_tbl := rg_in (List.mem_append_right _ (List.mem_of_getElem? (i := 145) (by decide +kernel))) (by decide +kernel)
theorem m_146 : (.instanceMethod y_Rl_rule : Cond) ∈ rg_tbl := rg_in (List.mem_append_right _ (List.mem_of_getElem? (i := 146) (by decide +kernel))) (by decide +kernel)
theorem m_147 : (.selects R_Rl y_Rl_rule y_Rl_rule : Cond) ∈ rg_tbl := rg_in (List.mem_append_right _ (List.mem_of_getElem? (i := 147) (by decide +kernel))) (by decide +kernel)
theorem m_148 : (.code y_Rl_rule b_Rl_rule 3 (some .int) : Cond) ∈ rg_tbl := rg_in (List.mem_append_right _ (List.mem_of_getElem? (i := 148) (by decide +kernel))) (by decide +kernel)
theorem m_149 : (.methodLink R_Rl 60 y_Rl_contains : Cond) ∈ rg_tbl := rg_in (List.mem_append_right _ (List.mem_of_getElem? (i := 149) (by decide +kernel))) (by decide +kernel)
theorem m_150 : (.static y_Rl_contains : Cond) ∈ rg_tbl := rg_in (List.mem_append_right _ (List.mem_of_getElem? (i := 150) (by decide +kernel))) (by decide +kernel)
theorem m_151 : (.code y_Rl_contains b_Rl_contains 2 (some .boolean) : Cond) ∈ rg_tbl := rg_in (List.mem_append_right _ (List.mem_of_getElem? (i := 151) (by decide +kernel))) (by decide +kernel)
theorem m_152 : (.methodLink R_Lw 27 y_Rl_run : Cond) ∈ rg_tbl := rg_in (List.mem_append_right _ (List.mem_of_getElem? (i := 152) (by decide +kernel))) (by decide +kernel)
theorem m_153 : (.instanceMethod y_Rl_run : Cond) ∈ rg_tbl := rg_in (List.mem_append_right _ (List.mem_of_getElem? (i := 153) (by decide +kernel))) (by decide +kernel)
theorem m_154 : (.selects R_Rl y_Rl_run y_Rl_run : Cond) ∈ rg_tbl := rg_in (List.mem_append_right _ (List.mem_of_getElem? (i := 154) (by decide +kernel))) (by decide +kernel)
theorem m_155 : (.code y_Rl_run b_Rl_run 1 (some .int) : Cond) ∈ rg_tbl := rg_in (List.mem_append_right _ (List.mem_of_getElem? (i := 155) (by decide +kernel))) (by decide +kernel)
theorem m_156 : (.methodLink R_Rl 64 y_Rl_isTooLarge : Cond) ∈ rg_tbl := rg_in (List.mem_append_right _ (List.mem_of_getElem? (i := 156) (by decide +kernel))) (by decide +kernel)
theorem m_158 : (.instanceMethod y_Rl_isTooLarge : Cond) ∈ rg_tbl := rg_in (List.mem_append_right _ (List.mem_of_getElem? (i := 158) (by decide +kernel))) (by decide +kernel)
theorem m_159 : (.code y_Rl_isTooLarge b_Rl_isTooLarge 1 (some .boolean) : Cond) ∈ rg_tbl := rg_in (List.mem_append_right _ (List.mem_of_getElem? (i := 159) (by decide +kernel))) (by decide +kernel)
theorem m_160 : (.methodLink R_Rl 117 y_De_derive : Cond) ∈ rg_tbl := rg_in (List.mem_append_right _ (List.mem_of_getElem? (i := 160) (by decide +kernel))) (by decide +kernel)
theorem m_161 : (.instanceMethod y_De_derive : Cond) ∈ rg_tbl := rg_in (List.mem_append_right _ (List.mem_of_getElem? (i := 161) (by decide +kernel))) (by decide +kernel)
theorem m_162 : (.selects R_De y_De_derive y_De_derive : Cond) ∈ rg_tbl := rg_in (List.mem_append_right _ (List.mem_of_getElem? (i := 162) (by decide +kernel))) (by decide +kernel)
theorem m_163 : (.code y_De_derive b_De_derive 9 none : Cond) ∈ rg_tbl := rg_in (List.mem_append_right _ (List.mem_of_getElem? (i := 163) (by decide +kernel))) (by decide +kernel)
theorem m_164 : (.methodLink R_De 41 y_Tr_clear : Cond) ∈ rg_tbl := rg_in (List.mem_append_right _ (List.mem_of_getElem? (i := 164) (by decide +kernel))) (by decide +kernel)
theorem m_165 : (.instanceMethod y_Tr_clear : Cond) ∈ rg_tbl := rg_in (List.mem_append_right _ (List.mem_of_getElem? (i := 165) (by decide +kernel))) (by decide +kernel)
theorem m_166 : (.selects R_Tr y_Tr_clear y_Tr_clear : Cond) ∈ rg_tbl := rg_in (List.mem_append_right _ (List.mem_of_getElem? (i := 166) (by decide +kernel))) (by decide +kernel)
theorem m_167 : (.code y_Tr_clear b_Tr_clear 1 none : Cond) ∈ rg_tbl := rg_in (List.mem_append_right _ (List.mem_of_getElem? (i := 167) (by decide +kernel))) (by decide +kernel)
theorem m_168 : (.methodLink R_Tr 25 y_Ar_fill : Cond) ∈ rg_tbl := rg_in (List.mem_append_right _ (List.mem_of_getElem? (i := 168) (by decide +kernel))) (by decide +kernel)
theorem m_169 : (.static y_Ar_fill : Cond) ∈ rg_tbl := rg_in (List.mem_append_right _ (List.mem_of_getElem? (i := 169) (by decide +kernel))) (by decide +kernel)
theorem m_170 : (.code y_Ar_fill b_Ar_fill 4 none : Cond) ∈ rg_tbl := rg_in (List.mem_append_right _ (List.mem_of_getElem? (i := 170) (by decide +kernel))) (by decide +kernel)
theorem m_171 : (.methodLink R_De 44 y_De_add : Cond) ∈ rg_tbl := rg_in (List.mem_append_right _ (List.mem_of_getElem? (i := 171) (by decide +kernel))) (by decide +kernel)
theorem m_173 : (.instanceMethod y_De_add : Cond) ∈ rg_tbl := rg_in (List.mem_append_right _ (List.mem_of_getElem? (i := 173) (by decide +kernel))) (by decide +kernel)
theorem m_174 : (.code y_De_add b_De_add 2 none : Cond) ∈ rg_tbl := rg_in (List.mem_append_right _ (List.mem_of_getElem? (i := 174) (by decide +kernel))) (by decide +kernel)
theorem m_175 : (.methodLink R_De 95 y_Tr_has : Cond) ∈ rg_tbl := rg_in (List.mem_append_right _ (List.mem_of_getElem? (i := 175) (by decide +kernel))) (by decide +kernel)
theorem m_176 : (.instanceMethod y_Tr_has : Cond) ∈ rg_tbl := rg_in (List.mem_append_right _ (List.mem_of_getElem? (i := 176) (by decide +kernel))) (by decide +kernel)
theorem m_177 : (.selects R_Tr y_Tr_has y_Tr_has : Cond) ∈ rg_tbl := rg_in (List.mem_append_right _ (List.mem_of_getElem? (i := 177) (by decide +kernel))) (by decide +kernel)
theorem m_178 : (.code y_Tr_has b_Tr_has 2 (some .boolean) : Cond) ∈ rg_tbl := rg_in (List.mem_append_right _ (List.mem_of_getElem? (i := 178) (by decide +kernel))) (by decide +kernel)
theorem m_179 : (.constant R_Tr 31 32768 : Cond) ∈ rg_tbl := rg_in (List.mem_append_right _ (List.mem_of_getElem? (i := 179) (by decide +kernel))) (by decide +kernel)
theorem m_180 : (.methodLink R_De 48 y_Tr_put : Cond) ∈ rg_tbl := rg_in (List.mem_append_right _ (List.mem_of_getElem? (i := 180) (by decide +kernel))) (by decide +kernel)
theorem m_181 : (.instanceMethod y_Tr_put : Cond) ∈ rg_tbl := rg_in (List.mem_append_right _ (List.mem_of_getElem? (i := 181) (by decide +kernel))) (by decide +kernel)
theorem m_182 : (.selects R_Tr y_Tr_put y_Tr_put : Cond) ∈ rg_tbl := rg_in (List.mem_append_right _ (List.mem_of_getElem? (i := 182) (by decide +kernel))) (by decide +kernel)
theorem m_183 : (.code y_Tr_put b_Tr_put 4 none : Cond) ∈ rg_tbl := rg_in (List.mem_append_right _ (List.mem_of_getElem? (i := 183) (by decide +kernel))) (by decide +kernel)
theorem m_184 : (.methodLink R_De 51 y_De_rulesInReach : Cond) ∈ rg_tbl := rg_in (List.mem_append_right _ (List.mem_of_getElem? (i := 184) (by decide +kernel))) (by decide +kernel)
theorem m_186 : (.instanceMethod y_De_rulesInReach : Cond) ∈ rg_tbl := rg_in (List.mem_append_right _ (List.mem_of_getElem? (i := 186) (by decide +kernel))) (by decide +kernel)
theorem m_187 : (.code y_De_rulesInReach b_De_rulesInReach 4 (some .int) : Cond) ∈ rg_tbl := rg_in (List.mem_append_right _ (List.mem_of_getElem? (i := 187) (by decide +kernel))) (by decide +kernel)
theorem m_188 : (.fieldLink R_De 59 "RlRounds$Table" "PREMISES" "[I" : Cond) ∈ rg_tbl := rg_in (List.mem_append_right _ (List.mem_of_getElem? (i := 188) (by decide +kernel))) (by decide +kernel)
theorem m_190 : (.methodLink R_De 64 y_Tb_premiseAt : Cond) ∈ rg_tbl := rg_in (List.mem_append_right _ (List.mem_of_getElem? (i := 190) (by decide +kernel))) (by decide +kernel)
theorem m_191 : (.static y_Tb_premiseAt : Cond) ∈ rg_tbl := rg_in (List.mem_append_right _ (List.mem_of_getElem? (i := 191) (by decide +kernel))) (by decide +kernel)
theorem m_192 : (.code y_Tb_premiseAt b_Tb_premiseAt 2 (some .int) : Cond) ∈ rg_tbl := rg_in (List.mem_append_right _ (List.mem_of_getElem? (i := 192) (by decide +kernel))) (by decide +kernel)
theorem m_193 : (.methodLink R_De 68 y_Tr_subjectsFor : Cond) ∈ rg_tbl := rg_in (List.mem_append_right _ (List.mem_of_getElem? (i := 193) (by decide +kernel))) (by decide +kernel)
theorem m_194 : (.instanceMethod y_Tr_subjectsFor : Cond) ∈ rg_tbl := rg_in (List.mem_append_right _ (List.mem_of_getElem? (i := 194) (by decide +kernel))) (by decide +kernel)
theorem m_195 : (.selects R_Tr y_Tr_subjectsFor y_Tr_subjectsFor : Cond) ∈ rg_tbl := rg_in (List.mem_append_right _ (List.mem_of_getElem? (i := 195) (by decide +kernel))) (by decide +kernel)
theorem m_196 : (.code y_Tr_subjectsFor b_Tr_subjectsFor 3 (some .int) : Cond) ∈ rg_tbl := rg_in (List.mem_append_right _ (List.mem_of_getElem? (i := 196) (by decide +kernel))) (by decide +kernel)
theorem m_198 : (.methodLink R_De 55 y_De_applyRules : Cond) ∈ rg_tbl := rg_in (List.mem_append_right _ (List.mem_of_getElem? (i := 198) (by decide +kernel))) (by decide +kernel)
theorem m_200 : (.instanceMethod y_De_applyRules : Cond) ∈ rg_tbl := rg_in (List.mem_append_right _ (List.mem_of_getElem? (i := 200) (by decide +kernel))) (by decide +kernel)
theorem m_201 : (.code y_De_applyRules b_De_applyRules 9 none : Cond) ∈ rg_tbl := rg_in (List.mem_append_right _ (List.mem_of_getElem? (i := 201) (by decide +kernel))) (by decide +kernel)
theorem m_203 : (.methodLink R_De 75 y_Tb_premiseCount : Cond) ∈ rg_tbl := rg_in (List.mem_append_right _ (List.mem_of_getElem? (i := 203) (by decide +kernel))) (by decide +kernel)
theorem m_204 : (.static y_Tb_premiseCount : Cond) ∈ rg_tbl := rg_in (List.mem_append_right _ (List.mem_of_getElem? (i := 204) (by decide +kernel))) (by decide +kernel)
theorem m_205 : (.code y_Tb_premiseCount b_Tb_premiseCount 1 (some .int) : Cond) ∈ rg_tbl := rg_in (List.mem_append_right _ (List.mem_of_getElem? (i := 205) (by decide +kernel))) (by decide +kernel)
theorem m_206 : (.fieldLink R_Tb 11 "RlRounds$Table" "COUNTS" "[I" : Cond) ∈ rg_tbl := rg_in (List.mem_append_right _ (List.mem_of_getElem? (i := 206) (by decide +kernel))) (by decide +kernel)
theorem m_208 : (.methodLink R_De 81 y_Le_fit : Cond) ∈ rg_tbl := rg_in (List.mem_append_right _ (List.mem_of_getElem? (i := 208) (by decide +kernel))) (by decide +kernel)
theorem m_209 : (.static y_Le_fit : Cond) ∈ rg_tbl := rg_in (List.mem_append_right _ (List.mem_of_getElem? (i := 209) (by decide +kernel))) (by decide +kernel)
theorem m_210 : (.code y_Le_fit b_Le_fit 7 (some .long) : Cond) ∈ rg_tbl := rg_in (List.mem_append_right _ (List.mem_of_getElem? (i := 210) (by decide +kernel))) (by decide +kernel)
theorem m_211 : (.constantLong R_Le 17 (-1) : Cond) ∈ rg_tbl := rg_in (List.mem_append_right _ (List.mem_of_getElem? (i := 211) (by decide +kernel))) (by decide +kernel)
theorem m_212 : (.methodLink R_Le 19 y_Le_bind : Cond) ∈ rg_tbl := rg_in (List.mem_append_right _ (List.mem_of_getElem? (i := 212) (by decide +kernel))) (by decide +kernel)
theorem m_213 : (.static y_Le_bind : Cond) ∈ rg_tbl := rg_in (List.mem_append_right _ (List.mem_of_getElem? (i := 213) (by decide +kernel))) (by decide +kernel)
theorem m_214 : (.code y_Le_bind b_Le_bind 5 (some .long) : Cond) ∈ rg_tbl := rg_in (List.mem_append_right _ (List.mem_of_getElem? (i := 214) (by decide +kernel))) (by decide +kernel)
theorem m_215 : (.methodLink R_Le 13 y_Le_termOf : Cond) ∈ rg_tbl := rg_in (List.mem_append_right _ (List.mem_of_getElem? (i := 215) (by decide +kernel))) (by decide +kernel)
theorem m_216 : (.static y_Le_termOf : Cond) ∈ rg_tbl := rg_in (List.mem_append_right _ (List.mem_of_getElem? (i := 216) (by decide +kernel))) (by decide +kernel)
theorem m_217 : (.code y_Le_termOf b_Le_termOf 3 (some .int) : Cond) ∈ rg_tbl := rg_in (List.mem_append_right _ (List.mem_of_getElem? (i := 217) (by decide +kernel))) (by decide +kernel)
theorem m_218 : (.constantLong R_Le 11 63 : Cond) ∈ rg_tbl := rg_in (List.mem_append_right _ (List.mem_of_getElem? (i := 218) (by decide +kernel))) (by decide +kernel)
theorem m_219 : (.constantLong R_De 85 (-1) : Cond) ∈ rg_tbl := rg_in (List.mem_append_right _ (List.mem_of_getElem? (i := 219) (by decide +kernel))) (by decide +kernel)
theorem m_221 : (.static y_Ma_join : Cond) ∈ rg_tbl := rg_in (List.mem_append_right _ (List.mem_of_getElem? (i := 221) (by decide +kernel))) (by decide +kernel)
theorem m_222 : (.code y_Ma_join b_Ma_join 21 (some .boolean) : Cond) ∈ rg_tbl := rg_in (List.mem_append_right _ (List.mem_of_getElem? (i := 222) (by decide +kernel))) (by decide +kernel)
theorem m_223 : (.methodLink R_Ma 19 y_Tb_premiseCount : Cond) ∈ rg_tbl := rg_in (List.mem_append_right _ (List.mem_of_getElem? (i := 223) (by decide +kernel))) (by decide +kernel)
theorem m_224 : (.methodLink R_Ma 25 y_Ma_meet : Cond) ∈ rg_tbl := rg_in (List.mem_append_right _ (List.mem_of_getElem? (i := 224) (by decide +kernel))) (by decide +kernel)
theorem m_226 : (.sameMethod R_Ma "RlRounds$Matcher" "meet" "(IJ)Z" : Cond) ∈ rg_tbl := rg_in (List.mem_append_right _ (List.mem_of_getElem? (i := 226) (by decide +kernel))) (by decide +kernel)
theorem m_227 : (.selects R_De y_Ma_meet y_De_meet : Cond) ∈ rg_tbl := rg_in (List.mem_append_right _ (List.mem_of_getElem? (i := 227) (by decide +kernel))) (by decide +kernel)
theorem m_228 : (.instanceMethod y_De_meet : Cond) ∈ rg_tbl := rg_in (List.mem_append_right _ (List.mem_of_getElem? (i := 228) (by decide +kernel))) (by decide +kernel)
theorem m_229 : (.code y_De_meet b_De_meet 4 (some .boolean) : Cond) ∈ rg_tbl := rg_in (List.mem_append_right _ (List.mem_of_getElem? (i := 229) (by decide +kernel))) (by decide +kernel)
theorem m_230 : (.methodLink R_De 91 y_Tb_givenCode : Cond) ∈ rg_tbl := rg_in (List.mem_append_right _ (List.mem_of_getElem? (i := 230) (by decide +kernel))) (by decide +kernel)
theorem m_231 : (.static y_Tb_givenCode : Cond) ∈ rg_tbl := rg_in (List.mem_append_right _ (List.mem_of_getElem? (i := 231) (by decide +kernel))) (by decide +kernel)
theorem m_232 : (.code y_Tb_givenCode b_Tb_givenCode 4 (some .int) : Cond) ∈ rg_tbl := rg_in (List.mem_append_right _ (List.mem_of_getElem? (i := 232) (by decide +kernel))) (by decide +kernel)
theorem m_233 : (.methodLink R_Tb 15 y_Tb_givenAt : Cond) ∈ rg_tbl := rg_in (List.mem_append_right _ (List.mem_of_getElem? (i := 233) (by decide +kernel))) (by decide +kernel)
theorem m_234 : (.static y_Tb_givenAt : Cond) ∈ rg_tbl := rg_in (List.mem_append_right _ (List.mem_of_getElem? (i := 234) (by decide +kernel))) (by decide +kernel)
theorem m_235 : (.code y_Tb_givenAt b_Tb_givenAt 1 (some .int) : Cond) ∈ rg_tbl := rg_in (List.mem_append_right _ (List.mem_of_getElem? (i := 235) (by decide +kernel))) (by decide +kernel)
theorem m_236 : (.fieldLink R_Tb 19 "RlRounds$Table" "GIVEN" "[I" : Cond) ∈ rg_tbl := rg_in (List.mem_append_right _ (List.mem_of_getElem? (i := 236) (by decide +kernel))) (by decide +kernel)
theorem m_238 : (.methodLink R_Tb 22 y_Le_termOf : Cond) ∈ rg_tbl := rg_in (List.mem_append_right _ (List.mem_of_getElem? (i := 238) (by decide +kernel))) (by decide +kernel)
theorem m_240 : (.selects R_Se y_Ma_meet y_Se_meet : Cond) ∈ rg_tbl := rg_in (List.mem_append_right _ (List.mem_of_getElem? (i := 240) (by decide +kernel))) (by decide +kernel)
theorem m_241 : (.instanceMethod y_Se_meet : Cond) ∈ rg_tbl := rg_in (List.mem_append_right _ (List.mem_of_getElem? (i := 241) (by decide +kernel))) (by decide +kernel)
theorem m_242 : (.code y_Se_meet b_Se_meet 5 (some .boolean) : Cond) ∈ rg_tbl := rg_in (List.mem_append_right _ (List.mem_of_getElem? (i := 242) (by decide +kernel))) (by decide +kernel)
theorem m_243 : (.methodLink R_Ma 29 y_Ma_join : Cond) ∈ rg_tbl := rg_in (List.mem_append_right _ (List.mem_of_getElem? (i := 243) (by decide +kernel))) (by decide +kernel)
theorem m_244 : (.methodLink R_Ma 33 y_Tb_premiseAt : Cond) ∈ rg_tbl := rg_in (List.mem_append_right _ (List.mem_of_getElem? (i := 244) (by decide +kernel))) (by decide +kernel)
theorem m_245 : (.fieldLink R_Ma 37 "RlRounds$Table" "PREMISES" "[I" : Cond) ∈ rg_tbl := rg_in (List.mem_append_right _ (List.mem_of_getElem? (i := 245) (by decide +kernel))) (by decide +kernel)
theorem m_246 : (.methodLink R_Ma 40 y_Le_termOf : Cond) ∈ rg_tbl := rg_in (List.mem_append_right _ (List.mem_of_getElem? (i := 246) (by decide +kernel))) (by decide +kernel)
theorem m_247 : (.methodLink R_Ma 46 y_Tr_subjectsFor : Cond) ∈ rg_tbl := rg_in (List.mem_append_right _ (List.mem_of_getElem? (i := 247) (by decide +kernel))) (by decide +kernel)
theorem m_248 : (.methodLink R_Ma 51 y_Ig_bitCount : Cond) ∈ rg_tbl := rg_in (List.mem_append_right _ (List.mem_of_getElem? (i := 248) (by decide +kernel))) (by decide +kernel)
theorem m_249 : (.static y_Ig_bitCount : Cond) ∈ rg_tbl := rg_in (List.mem_append_right _ (List.mem_of_getElem? (i := 249) (by decide +kernel))) (by decide +kernel)
theorem m_250 : (.code y_Ig_bitCount b_Ig_bitCount 1 (some .int) : Cond) ∈ rg_tbl := rg_in (List.mem_append_right _ (List.mem_of_getElem? (i := 250) (by decide +kernel))) (by decide +kernel)
theorem m_251 : (.constant R_Ig 265 1431655765 : Cond) ∈ rg_tbl := rg_in (List.mem_append_right _ (List.mem_of_getElem? (i := 251) (by decide +kernel))) (by decide +kernel)
theorem m_252 : (.constant R_Ig 266 858993459 : Cond) ∈ rg_tbl := rg_in (List.mem_append_right _ (List.mem_of_getElem? (i := 252) (by decide +kernel))) (by decide +kernel)
theorem m_253 : (.constant R_Ig 267 252645135 : Cond) ∈ rg_tbl := rg_in (List.mem_append_right _ (List.mem_of_getElem? (i := 253) (by decide +kernel))) (by decide +kernel)
theorem m_255 : (.static y_Rl_leastOf : Cond) ∈ rg_tbl := rg_in (List.mem_append_right _ (List.mem_of_getElem? (i := 255) (by decide +kernel))) (by decide +kernel)
theorem m_256 : (.code y_Rl_leastOf b_Rl_leastOf 1 (some .int) : Cond) ∈ rg_tbl := rg_in (List.mem_append_right _ (List.mem_of_getElem? (i := 256) (by decide +kernel))) (by decide +kernel)
theorem m_257 : (.methodLink R_Rl 124 y_Ig_bitCount : Cond) ∈ rg_tbl := rg_in (List.mem_append_right _ (List.mem_of_getElem? (i := 257) (by decide +kernel))) (by decide +kernel)
theorem m_259 : (.static y_Rl_withoutLeast : Cond) ∈ rg_tbl := rg_in (List.mem_append_right _ (List.mem_of_getElem? (i := 259) (by decide +kernel))) (by decide +kernel)
theorem m_260 : (.code y_Rl_withoutLeast b_Rl_withoutLeast 1 (some .int) : Cond) ∈ rg_tbl := rg_in (List.mem_append_right _ (List.mem_of_getElem? (i := 260) (by decide +kernel))) (by decide +kernel)
theorem m_261 : (.methodLink R_Ma 62 y_Tr_predicatesFor : Cond) ∈ rg_tbl := rg_in (List.mem_append_right _ (List.mem_of_getElem? (i := 261) (by decide +kernel))) (by decide +kernel)
theorem m_262 : (.instanceMethod y_Tr_predicatesFor : Cond) ∈ rg_tbl := rg_in (List.mem_append_right _ (List.mem_of_getElem? (i := 262) (by decide +kernel))) (by decide +kernel)
theorem m_263 : (.selects R_Tr y_Tr_predicatesFor y_Tr_predicatesFor : Cond) ∈ rg_tbl := rg_in (List.mem_append_right _ (List.mem_of_getElem? (i := 263) (by decide +kernel))) (by decide +kernel)
theorem m_264 : (.code y_Tr_predicatesFor b_Tr_predicatesFor 3 (some .int) : Cond) ∈ rg_tbl := rg_in (List.mem_append_right _ (List.mem_of_getElem? (i := 264) (by decide +kernel))) (by decide +kernel)
theorem m_265 : (.methodLink R_Ma 65 y_Tr_objectsFor : Cond) ∈ rg_tbl := rg_in (List.mem_append_right _ (List.mem_of_getElem? (i := 265) (by decide +kernel))) (by decide +kernel)
theorem m_266 : (.instanceMethod y_Tr_objectsFor : Cond) ∈ rg_tbl := rg_in (List.mem_append_right _ (List.mem_of_getElem? (i := 266) (by decide +kernel))) (by decide +kernel)
theorem m_267 : (.selects R_Tr y_Tr_objectsFor y_Tr_objectsFor : Cond) ∈ rg_tbl := rg_in (List.mem_append_right _ (List.mem_of_getElem? (i := 267) (by decide +kernel))) (by decide +kernel)
theorem m_268 : (.code y_Tr_objectsFor b_Tr_objectsFor 5 (some .int) : Cond) ∈ rg_tbl := rg_in (List.mem_append_right _ (List.mem_of_getElem? (i := 268) (by decide +kernel))) (by decide +kernel)
theorem m_270 : (.methodLink R_Ma 72 y_Le_fit : Cond) ∈ rg_tbl := rg_in (List.mem_append_right _ (List.mem_of_getElem? (i := 270) (by decide +kernel))) (by decide +kernel)
theorem m_271 : (.constantLong R_Ma 76 (-1) : Cond) ∈ rg_tbl := rg_in (List.mem_append_right _ (List.mem_of_getElem? (i := 271) (by decide +kernel))) (by decide +kernel)
theorem m_272 : (.methodLink R_Rl 68 y_De_lastRound : Cond) ∈ rg_tbl := rg_in (List.mem_append_right _ (List.mem_of_getElem? (i := 272) (by decide +kernel))) (by decide +kernel)
theorem m_273 : (.instanceMethod y_De_lastRound : Cond) ∈ rg_tbl := rg_in (List.mem_append_right _ (List.mem_of_getElem? (i := 273) (by decide +kernel))) (by decide +kernel)
theorem m_274 : (.selects R_De y_De_lastRound y_De_lastRound : Cond) ∈ rg_tbl := rg_in (List.mem_append_right _ (List.mem_of_getElem? (i := 274) (by decide +kernel))) (by decide +kernel)
theorem m_275 : (.code y_De_lastRound b_De_lastRound 1 (some .int) : Cond) ∈ rg_tbl := rg_in (List.mem_append_right _ (List.mem_of_getElem? (i := 275) (by decide +kernel))) (by decide +kernel)
theorem m_276 : (.methodLink R_Lw 32 y_Rl_size : Cond) ∈ rg_tbl := rg_in (List.mem_append_right _ (List.mem_of_getElem? (i := 276) (by decide +kernel))) (by decide +kernel)
theorem m_277 : (.instanceMethod y_Rl_size : Cond) ∈ rg_tbl := rg_in (List.mem_append_right _ (List.mem_of_getElem? (i := 277) (by decide +kernel))) (by decide +kernel)
theorem m_278 : (.selects R_Rl y_Rl_size y_Rl_size : Cond) ∈ rg_tbl := rg_in (List.mem_append_right _ (List.mem_of_getElem? (i := 278) (by decide +kernel))) (by decide +kernel)
theorem m_279 : (.code y_Rl_size b_Rl_size 1 (some .int) : Cond) ∈ rg_tbl := rg_in (List.mem_append_right _ (List.mem_of_getElem? (i := 279) (by decide +kernel))) (by decide +kernel)
theorem m_280 : (.methodLink R_Lw 36 y_Rl_triple : Cond) ∈ rg_tbl := rg_in (List.mem_append_right _ (List.mem_of_getElem? (i := 280) (by decide +kernel))) (by decide +kernel)
theorem m_281 : (.instanceMethod y_Rl_triple : Cond) ∈ rg_tbl := rg_in (List.mem_append_right _ (List.mem_of_getElem? (i := 281) (by decide +kernel))) (by decide +kernel)
theorem m_282 : (.selects R_Rl y_Rl_triple y_Rl_triple : Cond) ∈ rg_tbl := rg_in (List.mem_append_right _ (List.mem_of_getElem? (i := 282) (by decide +kernel))) (by decide +kernel)
theorem m_283 : (.code y_Rl_triple b_Rl_triple 2 (some .int) : Cond) ∈ rg_tbl := rg_in (List.mem_append_right _ (List.mem_of_getElem? (i := 283) (by decide +kernel))) (by decide +kernel)
theorem m_284 : (.methodLink R_Rl 75 y_Tr_codeAt : Cond) ∈ rg_tbl := rg_in (List.mem_append_right _ (List.mem_of_getElem? (i := 284) (by decide +kernel))) (by decide +kernel)
theorem m_285 : (.instanceMethod y_Tr_codeAt : Cond) ∈ rg_tbl := rg_in (List.mem_append_right _ (List.mem_of_getElem? (i := 285) (by decide +kernel))) (by decide +kernel)
theorem m_286 : (.selects R_Tr y_Tr_codeAt y_Tr_codeAt : Cond) ∈ rg_tbl := rg_in (List.mem_append_right _ (List.mem_of_getElem? (i := 286) (by decide +kernel))) (by decide +kernel)
theorem m_287 : (.code y_Tr_codeAt b_Tr_codeAt 5 (some .int) : Cond) ∈ rg_tbl := rg_in (List.mem_append_right _ (List.mem_of_getElem? (i := 287) (by decide +kernel))) (by decide +kernel)
theorem m_288 : (.methodLink R_Tr 36 y_Ig_bitCount : Cond) ∈ rg_tbl := rg_in (List.mem_append_right _ (List.mem_of_getElem? (i := 288) (by decide +kernel))) (by decide +kernel)
theorem m_289 : (.methodLink R_Tr 42 y_Tr_elementAt : Cond) ∈ rg_tbl := rg_in (List.mem_append_right _ (List.mem_of_getElem? (i := 289) (by decide +kernel))) (by decide +kernel)
theorem m_290 : (.static y_Tr_elementAt : Cond) ∈ rg_tbl := rg_in (List.mem_append_right _ (List.mem_of_getElem? (i := 290) (by decide +kernel))) (by decide +kernel)
theorem m_291 : (.code y_Tr_elementAt b_Tr_elementAt 4 (some .int) : Cond) ∈ rg_tbl := rg_in (List.mem_append_right _ (List.mem_of_getElem? (i := 291) (by decide +kernel))) (by decide +kernel)
theorem m_294 : (.methodLink R_Lw 41 y_Rl_round : Cond) ∈ rg_tbl := rg_in (List.mem_append_right _ (List.mem_of_getElem? (i := 294) (by decide +kernel))) (by decide +kernel)
theorem m_295 : (.instanceMethod y_Rl_round : Cond) ∈ rg_tbl := rg_in (List.mem_append_right _ (List.mem_of_getElem? (i := 295) (by decide +kernel))) (by decide +kernel)
theorem m_296 : (.selects R_Rl y_Rl_round y_Rl_round : Cond) ∈ rg_tbl := rg_in (List.mem_append_right _ (List.mem_of_getElem? (i := 296) (by decide +kernel))) (by decide +kernel)
theorem m_297 : (.code y_Rl_round b_Rl_round 4 (some .int) : Cond) ∈ rg_tbl := rg_in (List.mem_append_right _ (List.mem_of_getElem? (i := 297) (by decide +kernel))) (by decide +kernel)
theorem m_298 : (.methodLink R_Rl 78 y_De_roundOf : Cond) ∈ rg_tbl := rg_in (List.mem_append_right _ (List.mem_of_getElem? (i := 298) (by decide +kernel))) (by decide +kernel)
theorem m_299 : (.instanceMethod y_De_roundOf : Cond) ∈ rg_tbl := rg_in (List.mem_append_right _ (List.mem_of_getElem? (i := 299) (by decide +kernel))) (by decide +kernel)
theorem m_300 : (.selects R_De y_De_roundOf y_De_roundOf : Cond) ∈ rg_tbl := rg_in (List.mem_append_right _ (List.mem_of_getElem? (i := 300) (by decide +kernel))) (by decide +kernel)
theorem m_301 : (.code y_De_roundOf b_De_roundOf 3 (some .int) : Cond) ∈ rg_tbl := rg_in (List.mem_append_right _ (List.mem_of_getElem? (i := 301) (by decide +kernel))) (by decide +kernel)
theorem m_302 : (.methodLink R_Lw 45 y_Rl_ways : Cond) ∈ rg_tbl := rg_in (List.mem_append_right _ (List.mem_of_getElem? (i := 302) (by decide +kernel))) (by decide +kernel)
theorem m_303 : (.instanceMethod y_Rl_ways : Cond) ∈ rg_tbl := rg_in (List.mem_append_right _ (List.mem_of_getElem? (i := 303) (by decide +kernel))) (by decide +kernel)
theorem m_304 : (.selects R_Rl y_Rl_ways y_Rl_ways : Cond) ∈ rg_tbl := rg_in (List.mem_append_right _ (List.mem_of_getElem? (i := 304) (by decide +kernel))) (by decide +kernel)
theorem m_305 : (.code y_Rl_ways b_Rl_ways 4 (some .int) : Cond) ∈ rg_tbl := rg_in (List.mem_append_right _ (List.mem_of_getElem? (i := 305) (by decide +kernel))) (by decide +kernel)
theorem m_306 : (.methodLink R_Rl 81 y_Se_countWays : Cond) ∈ rg_tbl := rg_in (List.mem_append_right _ (List.mem_of_getElem? (i := 306) (by decide +kernel))) (by decide +kernel)
theorem m_307 : (.instanceMethod y_Se_countWays : Cond) ∈ rg_tbl := rg_in (List.mem_append_right _ (List.mem_of_getElem? (i := 307) (by decide +kernel))) (by decide +kernel)
theorem m_308 : (.selects R_Se y_Se_countWays y_Se_countWays : Cond) ∈ rg_tbl := rg_in (List.mem_append_right _ (List.mem_of_getElem? (i := 308) (by decide +kernel))) (by decide +kernel)
theorem m_309 : (.code y_Se_countWays b_Se_countWays 3 (some .int) : Cond) ∈ rg_tbl := rg_in (List.mem_append_right _ (List.mem_of_getElem? (i := 309) (by decide +kernel))) (by decide +kernel)
theorem m_310 : (.methodLink R_Se 21 y_Se_seekWay : Cond) ∈ rg_tbl := rg_in (List.mem_append_right _ (List.mem_of_getElem? (i := 310) (by decide +kernel))) (by decide +kernel)
theorem m_311 : (.instanceMethod y_Se_seekWay : Cond) ∈ rg_tbl := rg_in (List.mem_append_right _ (List.mem_of_getElem? (i := 311) (by decide +kernel))) (by decide +kernel)
theorem m_312 : (.selects R_Se y_Se_seekWay y_Se_seekWay : Cond) ∈ rg_tbl := rg_in (List.mem_append_right _ (List.mem_of_getElem? (i := 312) (by decide +kernel))) (by decide +kernel)
theorem m_313 : (.code y_Se_seekWay b_Se_seekWay 7 (some .boolean) : Cond) ∈ rg_tbl := rg_in (List.mem_append_right _ (List.mem_of_getElem? (i := 313) (by decide +kernel))) (by decide +kernel)
theorem m_315 : (.fieldLink R_Se 29 "RlRounds$Table" "GIVEN" "[I" : Cond) ∈ rg_tbl := rg_in (List.mem_append_right _ (List.mem_of_getElem? (i := 315) (by decide +kernel))) (by decide +kernel)
theorem m_316 : (.methodLink R_Se 35 y_Tb_givenAt : Cond) ∈ rg_tbl := rg_in (List.mem_append_right _ (List.mem_of_getElem? (i := 316) (by decide +kernel))) (by decide +kernel)
theorem m_317 : (.methodLink R_Se 41 y_Le_fit : Cond) ∈ rg_tbl := rg_in (List.mem_append_right _ (List.mem_of_getElem? (i := 317) (by decide +kernel))) (by decide +kernel)
theorem m_318 : (.constantLong R_Se 45 (-1) : Cond) ∈ rg_tbl := rg_in (List.mem_append_right _ (List.mem_of_getElem? (i := 318) (by decide +kernel))) (by decide +kernel)
theorem m_320 : (.methodLink R_Lw 49 y_Rl_way : Cond) ∈ rg_tbl := rg_in (List.mem_append_right _ (List.mem_of_getElem? (i := 320) (by decide +kernel))) (by decide +kernel)
theorem m_321 : (.instanceMethod y_Rl_way : Cond) ∈ rg_tbl := rg_in (List.mem_append_right _ (List.mem_of_getElem? (i := 321) (by decide +kernel))) (by decide +kernel)
theorem m_322 : (.selects R_Rl y_Rl_way y_Rl_way : Cond) ∈ rg_tbl := rg_in (List.mem_append_right _ (List.mem_of_getElem? (i := 322) (by decide +kernel))) (by decide +kernel)
theorem m_323 : (.code y_Rl_way b_Rl_way 6 (some .int) : Cond) ∈ rg_tbl := rg_in (List.mem_append_right _ (List.mem_of_getElem? (i := 323) (by decide +kernel))) (by decide +kernel)
theorem m_324 : (.methodLink R_Rl 85 y_Se_seekWay : Cond) ∈ rg_tbl := rg_in (List.mem_append_right _ (List.mem_of_getElem? (i := 324) (by decide +kernel))) (by decide +kernel)
theorem m_325 : (.methodLink R_Rl 91 y_Se_foundPremise : Cond) ∈ rg_tbl := rg_in (List.mem_append_right _ (List.mem_of_getElem? (i := 325) (by decide +kernel))) (by decide +kernel)
theorem m_326 : (.instanceMethod y_Se_foundPremise : Cond) ∈ rg_tbl := rg_in (List.mem_append_right _ (List.mem_of_getElem? (i := 326) (by decide +kernel))) (by decide +kernel)
theorem m_327 : (.selects R_Se y_Se_foundPremise y_Se_foundPremise : Cond) ∈ rg_tbl := rg_in (List.mem_append_right _ (List.mem_of_getElem? (i := 327) (by decide +kernel))) (by decide +kernel)
theorem m_328 : (.code y_Se_foundPremise b_Se_foundPremise 2 (some .int) : Cond) ∈ rg_tbl := rg_in (List.mem_append_right _ (List.mem_of_getElem? (i := 328) (by decide +kernel))) (by decide +kernel)
theorem m_329 : (.methodLink R_Se 55 y_Tb_premiseCount : Cond) ∈ rg_tbl := rg_in (List.mem_append_right _ (List.mem_of_getElem? (i := 329) (by decide +kernel))) (by decide +kernel)
theorem m_330 : (.methodLink R_Lw 54 y_Rl_clashes : Cond) ∈ rg_tbl := rg_in (List.mem_append_right _ (List.mem_of_getElem? (i := 330) (by decide +kernel))) (by decide +kernel)
theorem m_331 : (.instanceMethod y_Rl_clashes : Cond) ∈ rg_tbl := rg_in (List.mem_append_right _ (List.mem_of_getElem? (i := 331) (by decide +kernel))) (by decide +kernel)
theorem m_332 : (.selects R_Rl y_Rl_clashes y_Rl_clashes : Cond) ∈ rg_tbl := rg_in (List.mem_append_right _ (List.mem_of_getElem? (i := 332) (by decide +kernel))) (by decide +kernel)
theorem m_333 : (.code y_Rl_clashes b_Rl_clashes 1 (some .int) : Cond) ∈ rg_tbl := rg_in (List.mem_append_right _ (List.mem_of_getElem? (i := 333) (by decide +kernel))) (by decide +kernel)
theorem m_334 : (.methodLink R_Rl 94 y_Se_countClashes : Cond) ∈ rg_tbl := rg_in (List.mem_append_right _ (List.mem_of_getElem? (i := 334) (by decide +kernel))) (by decide +kernel)
theorem m_335 : (.instanceMethod y_Se_countClashes : Cond) ∈ rg_tbl := rg_in (List.mem_append_right _ (List.mem_of_getElem? (i := 335) (by decide +kernel))) (by decide +kernel)
theorem m_336 : (.selects R_Se y_Se_countClashes y_Se_countClashes : Cond) ∈ rg_tbl := rg_in (List.mem_append_right _ (List.mem_of_getElem? (i := 336) (by decide +kernel))) (by decide +kernel)
theorem m_337 : (.code y_Se_countClashes b_Se_countClashes 1 (some .int) : Cond) ∈ rg_tbl := rg_in (List.mem_append_right _ (List.mem_of_getElem? (i := 337) (by decide +kernel))) (by decide +kernel)
theorem m_338 : (.methodLink R_Se 51 y_Se_seekClash : Cond) ∈ rg_tbl := rg_in (List.mem_append_right _ (List.mem_of_getElem? (i := 338) (by decide +kernel))) (by decide +kernel)
theorem m_339 : (.instanceMethod y_Se_seekClash : Cond) ∈ rg_tbl := rg_in (List.mem_append_right _ (List.mem_of_getElem? (i := 339) (by decide +kernel))) (by decide +kernel)
theorem m_340 : (.selects R_Se y_Se_seekClash y_Se_seekClash : Cond) ∈ rg_tbl := rg_in (List.mem_append_right _ (List.mem_of_getElem? (i := 340) (by decide +kernel))) (by decide +kernel)
theorem m_341 : (.code y_Se_seekClash b_Se_seekClash 3 (some .boolean) : Cond) ∈ rg_tbl := rg_in (List.mem_append_right _ (List.mem_of_getElem? (i := 341) (by decide +kernel))) (by decide +kernel)
theorem m_342 : (.methodLink R_Lw 58 y_Rl_clash : Cond) ∈ rg_tbl := rg_in (List.mem_append_right _ (List.mem_of_getElem? (i := 342) (by decide +kernel))) (by decide +kernel)
theorem m_343 : (.instanceMethod y_Rl_clash : Cond) ∈ rg_tbl := rg_in (List.mem_append_right _ (List.mem_of_getElem? (i := 343) (by decide +kernel))) (by decide +kernel)
theorem m_344 : (.selects R_Rl y_Rl_clash y_Rl_clash : Cond) ∈ rg_tbl := rg_in (List.mem_append_right _ (List.mem_of_getElem? (i := 344) (by decide +kernel))) (by decide +kernel)
theorem m_345 : (.code y_Rl_clash b_Rl_clash 3 (some .int) : Cond) ∈ rg_tbl := rg_in (List.mem_append_right _ (List.mem_of_getElem? (i := 345) (by decide +kernel))) (by decide +kernel)
theorem m_346 : (.methodLink R_Rl 97 y_Se_seekClash : Cond) ∈ rg_tbl := rg_in (List.mem_append_right _ (List.mem_of_getElem? (i := 346) (by decide +kernel))) (by decide +kernel)
theorem m_347 : (.methodLink R_Lw 63 y_Rl_group : Cond) ∈ rg_tbl := rg_in (List.mem_append_right _ (List.mem_of_getElem? (i := 347) (by decide +kernel))) (by decide +kernel)
theorem m_348 : (.instanceMethod y_Rl_group : Cond) ∈ rg_tbl := rg_in (List.mem_append_right _ (List.mem_of_getElem? (i := 348) (by decide +kernel))) (by decide +kernel)
theorem m_349 : (.selects R_Rl y_Rl_group y_Rl_group : Cond) ∈ rg_tbl := rg_in (List.mem_append_right _ (List.mem_of_getElem? (i := 349) (by decide +kernel))) (by decide +kernel)
theorem m_350 : (.code y_Rl_group b_Rl_group 3 (some .int) : Cond) ∈ rg_tbl := rg_in (List.mem_append_right _ (List.mem_of_getElem? (i := 350) (by decide +kernel))) (by decide +kernel)
theorem m_351 : (.methodLink R_Rl 106 y_Tr_objectsFor : Cond) ∈ rg_tbl := rg_in (List.mem_append_right _ (List.mem_of_getElem? (i := 351) (by decide +kernel))) (by decide +kernel)
theorem m_352 : (.methodLink R_Rl 109 y_Rl_leastOf : Cond) ∈ rg_tbl := rg_in (List.mem_append_right _ (List.mem_of_getElem? (i := 352) (by decide +kernel))) (by decide +kernel)
theorem m_353 : (.methodLink R_Rl 112 y_Mt_min : Cond) ∈ rg_tbl := rg_in (List.mem_append_right _ (List.mem_of_getElem? (i := 353) (by decide +kernel))) (by decide +kernel)
theorem m_354 : (.static y_Mt_min : Cond) ∈ rg_tbl := rg_in (List.mem_append_right _ (List.mem_of_getElem? (i := 354) (by decide +kernel))) (by decide +kernel)
theorem m_355 : (.code y_Mt_min b_Mt_min 2 (some .int) : Cond) ∈ rg_tbl := rg_in (List.mem_append_right _ (List.mem_of_getElem? (i := 355) (by decide +kernel))) (by decide +kernel)
theorem m_356 : (.methodLink R_Lw 67 y_Rl_said : Cond) ∈ rg_tbl := rg_in (List.mem_append_right _ (List.mem_of_getElem? (i := 356) (by decide +kernel))) (by decide +kernel)
theorem m_357 : (.instanceMethod y_Rl_said : Cond) ∈ rg_tbl := rg_in (List.mem_append_right _ (List.mem_of_getElem? (i := 357) (by decide +kernel))) (by decide +kernel)
theorem m_358 : (.selects R_Rl y_Rl_said y_Rl_said : Cond) ∈ rg_tbl := rg_in (List.mem_append_right _ (List.mem_of_getElem? (i := 358) (by decide +kernel))) (by decide +kernel)
theorem m_359 : (.code y_Rl_said b_Rl_said 1 (some .int) : Cond) ∈ rg_tbl := rg_in (List.mem_append_right _ (List.mem_of_getElem? (i := 359) (by decide +kernel))) (by decide +kernel)
theorem m_360 : (.classLink R_Lw 10 "RlRoundsModel" : Cond) ∈ rg_tbl := rg_in (List.mem_append_right _ (List.mem_of_getElem? (i := 360) (by decide +kernel))) (by decide +kernel)
theorem m_361 : (.instantiable R_Mo 15 : Cond) ∈ rg_tbl := rg_in (List.mem_append_right _ (List.mem_of_getElem? (i := 361) (by decide +kernel))) (by decide +kernel)
theorem m_362 : (.methodLink R_Lw 12 y_Mo_init : Cond) ∈ rg_tbl := rg_in (List.mem_append_right _ (List.mem_of_getElem? (i := 362) (by decide +kernel))) (by decide +kernel)
theorem m_363 : (.instanceMethod y_Mo_init : Cond) ∈ rg_tbl := rg_in (List.mem_append_right _ (List.mem_of_getElem? (i := 363) (by decide +kernel))) (by decide +kernel)
theorem m_364 : (.code y_Mo_init b_Mo_init 1 none : Cond) ∈ rg_tbl := rg_in (List.mem_append_right _ (List.mem_of_getElem? (i := 364) (by decide +kernel))) (by decide +kernel)
theorem m_365 : (.methodLink R_Mo 1 objectInit : Cond) ∈ rg_tbl := rg_in (List.mem_append_right _ (List.mem_of_getElem? (i := 365) (by decide +kernel))) (by decide +kernel)
theorem m_366 : (.constant R_Mo 7 32768 : Cond) ∈ rg_tbl := rg_in (List.mem_append_right _ (List.mem_of_getElem? (i := 366) (by decide +kernel))) (by decide +kernel)
theorem m_367 : (.fieldLink R_Mo 8 "RlRoundsModel" "said" "[Z" : Cond) ∈ rg_tbl := rg_in (List.mem_append_right _ (List.mem_of_getElem? (i := 367) (by decide +kernel))) (by decide +kernel)
theorem m_368 : (.fieldLink R_Mo 148 "RlRoundsModel" "saidCount" "I" : Cond) ∈ rg_tbl := rg_in (List.mem_append_right _ (List.mem_of_getElem? (i := 368) (by decide +kernel))) (by decide +kernel)
theorem m_369 : (.fieldLink R_Mo 14 "RlRoundsModel" "off" "[Z" : Cond) ∈ rg_tbl := rg_in (List.mem_append_right _ (List.mem_of_getElem? (i := 369) (by decide +kernel))) (by decide +kernel)
theorem m_370 : (.fieldLink R_Mo 36 "RlRoundsModel" "known" "Z" : Cond) ∈ rg_tbl := rg_in (List.mem_append_right _ (List.mem_of_getElem? (i := 370) (by decide +kernel))) (by decide +kernel)
theorem m_371 : (.fieldLink R_Mo 124 "RlRoundsModel" "large" "Z" : Cond) ∈ rg_tbl := rg_in (List.mem_append_right _ (List.mem_of_getElem? (i := 371) (by decide +kernel))) (by decide +kernel)
theorem m_372 : (.fieldLink R_Mo 127 "RlRoundsModel" "greatest" "I" : Cond) ∈ rg_tbl := rg_in (List.mem_append_right _ (List.mem_of_getElem? (i := 372) (by decide +kernel))) (by decide +kernel)
theorem m_373 : (.fieldLink R_Mo 17 "RlRoundsModel" "rounds" "[I" : Cond) ∈ rg_tbl := rg_in (List.mem_append_right _ (List.mem_of_getElem? (i := 373) (by decide +kernel))) (by decide +kernel)
theorem m_374 : (.fieldLink R_Mo 21 "RlRoundsModel" "comes" "[Z" : Cond) ∈ rg_tbl := rg_in (List.mem_append_right _ (List.mem_of_getElem? (i := 374) (by decide +kernel))) (by decide +kernel)
theorem m_375 : (.fieldLink R_Mo 24 "RlRoundsModel" "held" "[I" : Cond) ∈ rg_tbl := rg_in (List.mem_append_right _ (List.mem_of_getElem? (i := 375) (by decide +kernel))) (by decide +kernel)
theorem m_376 : (.fieldLink R_Mo 111 "RlRoundsModel" "many" "I" : Cond) ∈ rg_tbl := rg_in (List.mem_append_right _ (List.mem_of_getElem? (i := 376) (by decide +kernel))) (by decide +kernel)
theorem m_377 : (.fieldLink R_Mo 27 "RlRoundsModel" "at" "[I" : Cond) ∈ rg_tbl := rg_in (List.mem_append_right _ (List.mem_of_getElem? (i := 377) (by decide +kernel))) (by decide +kernel)
theorem m_378 : (.fieldLink R_Mo 30 "RlRoundsModel" "letters" "[I" : Cond) ∈ rg_tbl := rg_in (List.mem_append_right _ (List.mem_of_getElem? (i := 378) (by decide +kernel))) (by decide +kernel)
theorem m_379 : (.fieldLink R_Mo 33 "RlRoundsModel" "bound" "[I" : Cond) ∈ rg_tbl := rg_in (List.mem_append_right _ (List.mem_of_getElem? (i := 379) (by decide +kernel))) (by decide +kernel)
theorem m_380 : (.fieldLink R_Mo 98 "RlRoundsModel" "level" "I" : Cond) ∈ rg_tbl := rg_in (List.mem_append_right _ (List.mem_of_getElem? (i := 380) (by decide +kernel))) (by decide +kernel)
theorem m_381 : (.fieldLink R_Mo 94 "RlRoundsModel" "rule" "I" : Cond) ∈ rg_tbl := rg_in (List.mem_append_right _ (List.mem_of_getElem? (i := 381) (by decide +kernel))) (by decide +kernel)
theorem m_413 : (.arrayClass .boolean : Cond) ∈ rg_tbl := rg_in (List.mem_append_right _ (List.mem_of_getElem? (i := 413) (by decide +kernel))) (by decide +kernel)
theorem m_414 : (.methodLink R_Lw 17 y_Mo_say : Cond) ∈ rg_tbl := rg_in (List.mem_append_right _ (List.mem_of_getElem? (i := 414) (by decide +kernel))) (by decide +kernel)
theorem m_415 : (.instanceMethod y_Mo_say : Cond) ∈ rg_tbl := rg_in (List.mem_append_right _ (List.mem_of_getElem? (i := 415) (by decide +kernel))) (by decide +kernel)
theorem m_416 : (.selects R_Mo y_Mo_say y_Mo_say : Cond) ∈ rg_tbl := rg_in (List.mem_append_right _ (List.mem_of_getElem? (i := 416) (by decide +kernel))) (by decide +kernel)
theorem m_417 : (.code y_Mo_say b_Mo_say 5 (some .int) : Cond) ∈ rg_tbl := rg_in (List.mem_append_right _ (List.mem_of_getElem? (i := 417) (by decide +kernel))) (by decide +kernel)
theorem m_418 : (.methodLink R_Mo 145 y_Mo_isTriple : Cond) ∈ rg_tbl := rg_in (List.mem_append_right _ (List.mem_of_getElem? (i := 418) (by decide +kernel))) (by decide +kernel)
theorem m_419 : (.static y_Mo_isTriple : Cond) ∈ rg_tbl := rg_in (List.mem_append_right _ (List.mem_of_getElem? (i := 419) (by decide +kernel))) (by decide +kernel)
theorem m_420 : (.code y_Mo_isTriple b_Mo_isTriple 3 (some .boolean) : Cond) ∈ rg_tbl := rg_in (List.mem_append_right _ (List.mem_of_getElem? (i := 420) (by decide +kernel))) (by decide +kernel)
theorem m_421 : (.methodLink R_Mo 40 y_Mo_isTerm : Cond) ∈ rg_tbl := rg_in (List.mem_append_right _ (List.mem_of_getElem? (i := 421) (by decide +kernel))) (by decide +kernel)
theorem m_422 : (.static y_Mo_isTerm : Cond) ∈ rg_tbl := rg_in (List.mem_append_right _ (List.mem_of_getElem? (i := 422) (by decide +kernel))) (by decide +kernel)
theorem m_423 : (.code y_Mo_isTerm b_Mo_isTerm 1 (some .boolean) : Cond) ∈ rg_tbl := rg_in (List.mem_append_right _ (List.mem_of_getElem? (i := 423) (by decide +kernel))) (by decide +kernel)
theorem m_424 : (.methodLink R_Mo 120 y_Mo_codeOf : Cond) ∈ rg_tbl := rg_in (List.mem_append_right _ (List.mem_of_getElem? (i := 424) (by decide +kernel))) (by decide +kernel)
theorem m_425 : (.static y_Mo_codeOf : Cond) ∈ rg_tbl := rg_in (List.mem_append_right _ (List.mem_of_getElem? (i := 425) (by decide +kernel))) (by decide +kernel)
theorem m_426 : (.code y_Mo_codeOf b_Mo_codeOf 3 (some .int) : Cond) ∈ rg_tbl := rg_in (List.mem_append_right _ (List.mem_of_getElem? (i := 426) (by decide +kernel))) (by decide +kernel)
theorem m_427 : (.methodLink R_Lw 21 y_Mo_unsay : Cond) ∈ rg_tbl := rg_in (List.mem_append_right _ (List.mem_of_getElem? (i := 427) (by decide +kernel))) (by decide +kernel)
theorem m_428 : (.instanceMethod y_Mo_unsay : Cond) ∈ rg_tbl := rg_in (List.mem_append_right _ (List.mem_of_getElem? (i := 428) (by decide +kernel))) (by decide +kernel)
theorem m_429 : (.selects R_Mo y_Mo_unsay y_Mo_unsay : Cond) ∈ rg_tbl := rg_in (List.mem_append_right _ (List.mem_of_getElem? (i := 429) (by decide +kernel))) (by decide +kernel)
theorem m_430 : (.code y_Mo_unsay b_Mo_unsay 5 (some .int) : Cond) ∈ rg_tbl := rg_in (List.mem_append_right _ (List.mem_of_getElem? (i := 430) (by decide +kernel))) (by decide +kernel)
theorem m_431 : (.methodLink R_Lw 26 y_Mo_rule : Cond) ∈ rg_tbl := rg_in (List.mem_append_right _ (List.mem_of_getElem? (i := 431) (by decide +kernel))) (by decide +kernel)
theorem m_432 : (.instanceMethod y_Mo_rule : Cond) ∈ rg_tbl := rg_in (List.mem_append_right _ (List.mem_of_getElem? (i := 432) (by decide +kernel))) (by decide +kernel)
theorem m_433 : (.selects R_Mo y_Mo_rule y_Mo_rule : Cond) ∈ rg_tbl := rg_in (List.mem_append_right _ (List.mem_of_getElem? (i := 433) (by decide +kernel))) (by decide +kernel)
theorem m_434 : (.code y_Mo_rule b_Mo_rule 3 (some .int) : Cond) ∈ rg_tbl := rg_in (List.mem_append_right _ (List.mem_of_getElem? (i := 434) (by decide +kernel))) (by decide +kernel)
theorem m_435 : (.methodLink R_Lw 31 y_Mo_run : Cond) ∈ rg_tbl := rg_in (List.mem_append_right _ (List.mem_of_getElem? (i := 435) (by decide +kernel))) (by decide +kernel)
theorem m_436 : (.instanceMethod y_Mo_run : Cond) ∈ rg_tbl := rg_in (List.mem_append_right _ (List.mem_of_getElem? (i := 436) (by decide +kernel))) (by decide +kernel)
theorem m_437 : (.selects R_Mo y_Mo_run y_Mo_run : Cond) ∈ rg_tbl := rg_in (List.mem_append_right _ (List.mem_of_getElem? (i := 437) (by decide +kernel))) (by decide +kernel)
theorem m_438 : (.code y_Mo_run b_Mo_run 1 (some .int) : Cond) ∈ rg_tbl := rg_in (List.mem_append_right _ (List.mem_of_getElem? (i := 438) (by decide +kernel))) (by decide +kernel)
theorem m_439 : (.methodLink R_Mo 151 y_Mo_make : Cond) ∈ rg_tbl := rg_in (List.mem_append_right _ (List.mem_of_getElem? (i := 439) (by decide +kernel))) (by decide +kernel)
theorem m_441 : (.instanceMethod y_Mo_make : Cond) ∈ rg_tbl := rg_in (List.mem_append_right _ (List.mem_of_getElem? (i := 441) (by decide +kernel))) (by decide +kernel)
theorem m_442 : (.code y_Mo_make b_Mo_make 5 none : Cond) ∈ rg_tbl := rg_in (List.mem_append_right _ (List.mem_of_getElem? (i := 442) (by decide +kernel))) (by decide +kernel)
theorem m_443 : (.methodLink R_Mo 130 y_Mo_collect : Cond) ∈ rg_tbl := rg_in (List.mem_append_right _ (List.mem_of_getElem? (i := 443) (by decide +kernel))) (by decide +kernel)
theorem m_445 : (.instanceMethod y_Mo_collect : Cond) ∈ rg_tbl := rg_in (List.mem_append_right _ (List.mem_of_getElem? (i := 445) (by decide +kernel))) (by decide +kernel)
theorem m_446 : (.code y_Mo_collect b_Mo_collect 2 none : Cond) ∈ rg_tbl := rg_in (List.mem_append_right _ (List.mem_of_getElem? (i := 446) (by decide +kernel))) (by decide +kernel)
theorem m_447 : (.methodLink R_Mo 133 y_Mo_begin : Cond) ∈ rg_tbl := rg_in (List.mem_append_right _ (List.mem_of_getElem? (i := 447) (by decide +kernel))) (by decide +kernel)
theorem m_449 : (.instanceMethod y_Mo_begin : Cond) ∈ rg_tbl := rg_in (List.mem_append_right _ (List.mem_of_getElem? (i := 449) (by decide +kernel))) (by decide +kernel)
theorem m_450 : (.code y_Mo_begin b_Mo_begin 3 none : Cond) ∈ rg_tbl := rg_in (List.mem_append_right _ (List.mem_of_getElem? (i := 450) (by decide +kernel))) (by decide +kernel)
theorem m_451 : (.methodLink R_Mo 137 y_Mo_next : Cond) ∈ rg_tbl := rg_in (List.mem_append_right _ (List.mem_of_getElem? (i := 451) (by decide +kernel))) (by decide +kernel)
theorem m_453 : (.instanceMethod y_Mo_next : Cond) ∈ rg_tbl := rg_in (List.mem_append_right _ (List.mem_of_getElem? (i := 453) (by decide +kernel))) (by decide +kernel)
theorem m_454 : (.code y_Mo_next b_Mo_next 2 (some .boolean) : Cond) ∈ rg_tbl := rg_in (List.mem_append_right _ (List.mem_of_getElem? (i := 454) (by decide +kernel))) (by decide +kernel)
theorem m_455 : (.methodLink R_Mo 105 y_Mo_premises : Cond) ∈ rg_tbl := rg_in (List.mem_append_right _ (List.mem_of_getElem? (i := 455) (by decide +kernel))) (by decide +kernel)
theorem m_456 : (.static y_Mo_premises : Cond) ∈ rg_tbl := rg_in (List.mem_append_right _ (List.mem_of_getElem? (i := 456) (by decide +kernel))) (by decide +kernel)
theorem m_457 : (.code y_Mo_premises b_Mo_premises 3 (some .int) : Cond) ∈ rg_tbl := rg_in (List.mem_append_right _ (List.mem_of_getElem? (i := 457) (by decide +kernel))) (by decide +kernel)
theorem m_458 : (.methodLink R_Mo 91 y_Mo_pattern : Cond) ∈ rg_tbl := rg_in (List.mem_append_right _ (List.mem_of_getElem? (i := 458) (by decide +kernel))) (by decide +kernel)
theorem m_459 : (.static y_Mo_pattern : Cond) ∈ rg_tbl := rg_in (List.mem_append_right _ (List.mem_of_getElem? (i := 459) (by decide +kernel))) (by decide +kernel)
theorem m_460 : (.code y_Mo_pattern b_Mo_pattern 1 (some .int) : Cond) ∈ rg_tbl := rg_in (List.mem_append_right _ (List.mem_of_getElem? (i := 460) (by decide +kernel))) (by decide +kernel)
theorem m_461 : (.methodLink R_Mo 44 y_Mo_early : Cond) ∈ rg_tbl := rg_in (List.mem_append_right _ (List.mem_of_getElem? (i := 461) (by decide +kernel))) (by decide +kernel)
theorem m_462 : (.static y_Mo_early : Cond) ∈ rg_tbl := rg_in (List.mem_append_right _ (List.mem_of_getElem? (i := 462) (by decide +kernel))) (by decide +kernel)
theorem m_463 : (.code y_Mo_early b_Mo_early 1 (some .int) : Cond) ∈ rg_tbl := rg_in (List.mem_append_right _ (List.mem_of_getElem? (i := 463) (by decide +kernel))) (by decide +kernel)
theorem m_464 : (.constant R_Mo 51 131489 : Cond) ∈ rg_tbl := rg_in (List.mem_append_right _ (List.mem_of_getElem? (i := 464) (by decide +kernel))) (by decide +kernel)
theorem m_465 : (.constant R_Mo 52 135584 : Cond) ∈ rg_tbl := rg_in (List.mem_append_right _ (List.mem_of_getElem? (i := 465) (by decide +kernel))) (by decide +kernel)
theorem m_466 : (.constant R_Mo 53 135586 : Cond) ∈ rg_tbl := rg_in (List.mem_append_right _ (List.mem_of_getElem? (i := 466) (by decide +kernel))) (by decide +kernel)
theorem m_467 : (.constant R_Mo 54 131490 : Cond) ∈ rg_tbl := rg_in (List.mem_append_right _ (List.mem_of_getElem? (i := 467) (by decide +kernel))) (by decide +kernel)
theorem m_468 : (.constant R_Mo 55 133410 : Cond) ∈ rg_tbl := rg_in (List.mem_append_right _ (List.mem_of_getElem? (i := 468) (by decide +kernel))) (by decide +kernel)
theorem m_469 : (.constant R_Mo 56 137506 : Cond) ∈ rg_tbl := rg_in (List.mem_append_right _ (List.mem_of_getElem? (i := 469) (by decide +kernel))) (by decide +kernel)
theorem m_470 : (.constant R_Mo 57 141600 : Cond) ∈ rg_tbl := rg_in (List.mem_append_right _ (List.mem_of_getElem? (i := 470) (by decide +kernel))) (by decide +kernel)
theorem m_471 : (.constant R_Mo 58 141601 : Cond) ∈ rg_tbl := rg_in (List.mem_append_right _ (List.mem_of_getElem? (i := 471) (by decide +kernel))) (by decide +kernel)
theorem m_472 : (.constant R_Mo 59 147687 : Cond) ∈ rg_tbl := rg_in (List.mem_append_right _ (List.mem_of_getElem? (i := 472) (by decide +kernel))) (by decide +kernel)
theorem m_473 : (.constant R_Mo 60 133409 : Cond) ∈ rg_tbl := rg_in (List.mem_append_right _ (List.mem_of_getElem? (i := 473) (by decide +kernel))) (by decide +kernel)
theorem m_474 : (.constant R_Mo 61 131111 : Cond) ∈ rg_tbl := rg_in (List.mem_append_right _ (List.mem_of_getElem? (i := 474) (by decide +kernel))) (by decide +kernel)
theorem m_475 : (.constant R_Mo 62 147751 : Cond) ∈ rg_tbl := rg_in (List.mem_append_right _ (List.mem_of_getElem? (i := 475) (by decide +kernel))) (by decide +kernel)
theorem m_476 : (.constant R_Mo 63 135207 : Cond) ∈ rg_tbl := rg_in (List.mem_append_right _ (List.mem_of_getElem? (i := 476) (by decide +kernel))) (by decide +kernel)
theorem m_477 : (.constant R_Mo 64 147472 : Cond) ∈ rg_tbl := rg_in (List.mem_append_right _ (List.mem_of_getElem? (i := 477) (by decide +kernel))) (by decide +kernel)
theorem m_478 : (.constant R_Mo 65 137504 : Cond) ∈ rg_tbl := rg_in (List.mem_append_right _ (List.mem_of_getElem? (i := 478) (by decide +kernel))) (by decide +kernel)
theorem m_479 : (.constant R_Mo 66 147471 : Cond) ∈ rg_tbl := rg_in (List.mem_append_right _ (List.mem_of_getElem? (i := 479) (by decide +kernel))) (by decide +kernel)
theorem m_480 : (.constant R_Mo 67 147813 : Cond) ∈ rg_tbl := rg_in (List.mem_append_right _ (List.mem_of_getElem? (i := 480) (by decide +kernel))) (by decide +kernel)
theorem m_481 : (.constant R_Mo 68 137568 : Cond) ∈ rg_tbl := rg_in (List.mem_append_right _ (List.mem_of_getElem? (i := 481) (by decide +kernel))) (by decide +kernel)
theorem m_482 : (.constant R_Mo 69 133473 : Cond) ∈ rg_tbl := rg_in (List.mem_append_right _ (List.mem_of_getElem? (i := 482) (by decide +kernel))) (by decide +kernel)
theorem m_483 : (.constant R_Mo 70 147621 : Cond) ∈ rg_tbl := rg_in (List.mem_append_right _ (List.mem_of_getElem? (i := 483) (by decide +kernel))) (by decide +kernel)
theorem m_484 : (.constant R_Mo 71 151718 : Cond) ∈ rg_tbl := rg_in (List.mem_append_right _ (List.mem_of_getElem? (i := 484) (by decide +kernel))) (by decide +kernel)
theorem m_485 : (.constant R_Mo 72 147622 : Cond) ∈ rg_tbl := rg_in (List.mem_append_right _ (List.mem_of_getElem? (i := 485) (by decide +kernel))) (by decide +kernel)
theorem m_486 : (.methodLink R_Mo 48 y_Mo_later : Cond) ∈ rg_tbl := rg_in (List.mem_append_right _ (List.mem_of_getElem? (i := 486) (by decide +kernel))) (by decide +kernel)
theorem m_487 : (.static y_Mo_later : Cond) ∈ rg_tbl := rg_in (List.mem_append_right _ (List.mem_of_getElem? (i := 487) (by decide +kernel))) (by decide +kernel)
theorem m_488 : (.code y_Mo_later b_Mo_later 1 (some .int) : Cond) ∈ rg_tbl := rg_in (List.mem_append_right _ (List.mem_of_getElem? (i := 488) (by decide +kernel))) (by decide +kernel)
theorem m_489 : (.constant R_Mo 73 159848 : Cond) ∈ rg_tbl := rg_in (List.mem_append_right _ (List.mem_of_getElem? (i := 489) (by decide +kernel))) (by decide +kernel)
theorem m_490 : (.constant R_Mo 74 131112 : Cond) ∈ rg_tbl := rg_in (List.mem_append_right _ (List.mem_of_getElem? (i := 490) (by decide +kernel))) (by decide +kernel)
theorem m_491 : (.constant R_Mo 75 163945 : Cond) ∈ rg_tbl := rg_in (List.mem_append_right _ (List.mem_of_getElem? (i := 491) (by decide +kernel))) (by decide +kernel)
theorem m_492 : (.constant R_Mo 76 159849 : Cond) ∈ rg_tbl := rg_in (List.mem_append_right _ (List.mem_of_getElem? (i := 492) (by decide +kernel))) (by decide +kernel)
theorem m_493 : (.constant R_Mo 77 147473 : Cond) ∈ rg_tbl := rg_in (List.mem_append_right _ (List.mem_of_getElem? (i := 493) (by decide +kernel))) (by decide +kernel)
theorem m_494 : (.constant R_Mo 78 147474 : Cond) ∈ rg_tbl := rg_in (List.mem_append_right _ (List.mem_of_getElem? (i := 494) (by decide +kernel))) (by decide +kernel)
theorem m_495 : (.constant R_Mo 79 160424 : Cond) ∈ rg_tbl := rg_in (List.mem_append_right _ (List.mem_of_getElem? (i := 495) (by decide +kernel))) (by decide +kernel)
theorem m_496 : (.constant R_Mo 80 160356 : Cond) ∈ rg_tbl := rg_in (List.mem_append_right _ (List.mem_of_getElem? (i := 496) (by decide +kernel))) (by decide +kernel)
theorem m_497 : (.constant R_Mo 81 135208 : Cond) ∈ rg_tbl := rg_in (List.mem_append_right _ (List.mem_of_getElem? (i := 497) (by decide +kernel))) (by decide +kernel)
theorem m_498 : (.constant R_Mo 82 160488 : Cond) ∈ rg_tbl := rg_in (List.mem_append_right _ (List.mem_of_getElem? (i := 498) (by decide +kernel))) (by decide +kernel)
theorem m_499 : (.constant R_Mo 83 160547 : Cond) ∈ rg_tbl := rg_in (List.mem_append_right _ (List.mem_of_getElem? (i := 499) (by decide +kernel))) (by decide +kernel)
theorem m_500 : (.constant R_Mo 84 133411 : Cond) ∈ rg_tbl := rg_in (List.mem_append_right _ (List.mem_of_getElem? (i := 500) (by decide +kernel))) (by decide +kernel)
theorem m_501 : (.constant R_Mo 85 148325 : Cond) ∈ rg_tbl := rg_in (List.mem_append_right _ (List.mem_of_getElem? (i := 501) (by decide +kernel))) (by decide +kernel)
theorem m_502 : (.constant R_Mo 86 148390 : Cond) ∈ rg_tbl := rg_in (List.mem_append_right _ (List.mem_of_getElem? (i := 502) (by decide +kernel))) (by decide +kernel)
theorem m_503 : (.constant R_Mo 87 137634 : Cond) ∈ rg_tbl := rg_in (List.mem_append_right _ (List.mem_of_getElem? (i := 503) (by decide +kernel))) (by decide +kernel)
theorem m_504 : (.constant R_Mo 88 131553 : Cond) ∈ rg_tbl := rg_in (List.mem_append_right _ (List.mem_of_getElem? (i := 504) (by decide +kernel))) (by decide +kernel)
theorem m_505 : (.constant R_Mo 89 160296 : Cond) ∈ rg_tbl := rg_in (List.mem_append_right _ (List.mem_of_getElem? (i := 505) (by decide +kernel))) (by decide +kernel)
theorem m_506 : (.constant R_Mo 90 148709 : Cond) ∈ rg_tbl := rg_in (List.mem_append_right _ (List.mem_of_getElem? (i := 506) (by decide +kernel))) (by decide +kernel)
theorem m_507 : (.methodLink R_Mo 108 y_Mo_release : Cond) ∈ rg_tbl := rg_in (List.mem_append_right _ (List.mem_of_getElem? (i := 507) (by decide +kernel))) (by decide +kernel)
theorem m_509 : (.instanceMethod y_Mo_release : Cond) ∈ rg_tbl := rg_in (List.mem_append_right _ (List.mem_of_getElem? (i := 509) (by decide +kernel))) (by decide +kernel)
theorem m_510 : (.code y_Mo_release b_Mo_release 2 none : Cond) ∈ rg_tbl := rg_in (List.mem_append_right _ (List.mem_of_getElem? (i := 510) (by decide +kernel))) (by decide +kernel)
theorem m_511 : (.methodLink R_Mo 114 y_Mo_fits : Cond) ∈ rg_tbl := rg_in (List.mem_append_right _ (List.mem_of_getElem? (i := 511) (by decide +kernel))) (by decide +kernel)
theorem m_513 : (.instanceMethod y_Mo_fits : Cond) ∈ rg_tbl := rg_in (List.mem_append_right _ (List.mem_of_getElem? (i := 513) (by decide +kernel))) (by decide +kernel)
theorem m_514 : (.code y_Mo_fits b_Mo_fits 3 (some .boolean) : Cond) ∈ rg_tbl := rg_in (List.mem_append_right _ (List.mem_of_getElem? (i := 514) (by decide +kernel))) (by decide +kernel)
theorem m_515 : (.methodLink R_Mo 101 y_Mo_fitsItem : Cond) ∈ rg_tbl := rg_in (List.mem_append_right _ (List.mem_of_getElem? (i := 515) (by decide +kernel))) (by decide +kernel)
theorem m_517 : (.instanceMethod y_Mo_fitsItem : Cond) ∈ rg_tbl := rg_in (List.mem_append_right _ (List.mem_of_getElem? (i := 517) (by decide +kernel))) (by decide +kernel)
theorem m_518 : (.code y_Mo_fitsItem b_Mo_fitsItem 4 (some .boolean) : Cond) ∈ rg_tbl := rg_in (List.mem_append_right _ (List.mem_of_getElem? (i := 518) (by decide +kernel))) (by decide +kernel)
theorem m_519 : (.methodLink R_Mo 141 y_Mo_given : Cond) ∈ rg_tbl := rg_in (List.mem_append_right _ (List.mem_of_getElem? (i := 519) (by decide +kernel))) (by decide +kernel)
theorem m_521 : (.instanceMethod y_Mo_given : Cond) ∈ rg_tbl := rg_in (List.mem_append_right _ (List.mem_of_getElem? (i := 521) (by decide +kernel))) (by decide +kernel)
theorem m_522 : (.code y_Mo_given b_Mo_given 2 (some .int) : Cond) ∈ rg_tbl := rg_in (List.mem_append_right _ (List.mem_of_getElem? (i := 522) (by decide +kernel))) (by decide +kernel)
theorem m_523 : (.methodLink R_Mo 117 y_Mo_termOf : Cond) ∈ rg_tbl := rg_in (List.mem_append_right _ (List.mem_of_getElem? (i := 523) (by decide +kernel))) (by decide +kernel)
theorem m_525 : (.instanceMethod y_Mo_termOf : Cond) ∈ rg_tbl := rg_in (List.mem_append_right _ (List.mem_of_getElem? (i := 525) (by decide +kernel))) (by decide +kernel)
theorem m_526 : (.code y_Mo_termOf b_Mo_termOf 2 (some .int) : Cond) ∈ rg_tbl := rg_in (List.mem_append_right _ (List.mem_of_getElem? (i := 526) (by decide +kernel))) (by decide +kernel)
theorem m_527 : (.methodLink R_Lw 35 y_Mo_size : Cond) ∈ rg_tbl := rg_in (List.mem_append_right _ (List.mem_of_getElem? (i := 527) (by decide +kernel))) (by decide +kernel)
theorem m_528 : (.instanceMethod y_Mo_size : Cond) ∈ rg_tbl := rg_in (List.mem_append_right _ (List.mem_of_getElem? (i := 528) (by decide +kernel))) (by decide +kernel)
theorem m_529 : (.selects R_Mo y_Mo_size y_Mo_size : Cond) ∈ rg_tbl := rg_in (List.mem_append_right _ (List.mem_of_getElem? (i := 529) (by decide +kernel))) (by decide +kernel)
theorem m_530 : (.code y_Mo_size b_Mo_size 1 (some .int) : Cond) ∈ rg_tbl := rg_in (List.mem_append_right _ (List.mem_of_getElem? (i := 530) (by decide +kernel))) (by decide +kernel)
theorem m_531 : (.methodLink R_Lw 40 y_Mo_triple : Cond) ∈ rg_tbl := rg_in (List.mem_append_right _ (List.mem_of_getElem? (i := 531) (by decide +kernel))) (by decide +kernel)
theorem m_532 : (.instanceMethod y_Mo_triple : Cond) ∈ rg_tbl := rg_in (List.mem_append_right _ (List.mem_of_getElem? (i := 532) (by decide +kernel))) (by decide +kernel)
theorem m_533 : (.selects R_Mo y_Mo_triple y_Mo_triple : Cond) ∈ rg_tbl := rg_in (List.mem_append_right _ (List.mem_of_getElem? (i := 533) (by decide +kernel))) (by decide +kernel)
theorem m_534 : (.code y_Mo_triple b_Mo_triple 2 (some .int) : Cond) ∈ rg_tbl := rg_in (List.mem_append_right _ (List.mem_of_getElem? (i := 534) (by decide +kernel))) (by decide +kernel)
theorem m_535 : (.methodLink R_Lw 44 y_Mo_round : Cond) ∈ rg_tbl := rg_in (List.mem_append_right _ (List.mem_of_getElem? (i := 535) (by decide +kernel))) (by decide +kernel)
theorem m_536 : (.instanceMethod y_Mo_round : Cond) ∈ rg_tbl := rg_in (List.mem_append_right _ (List.mem_of_getElem? (i := 536) (by decide +kernel))) (by decide +kernel)
theorem m_537 : (.selects R_Mo y_Mo_round y_Mo_round : Cond) ∈ rg_tbl := rg_in (List.mem_append_right _ (List.mem_of_getElem? (i := 537) (by decide +kernel))) (by decide +kernel)
theorem m_538 : (.code y_Mo_round b_Mo_round 5 (some .int) : Cond) ∈ rg_tbl := rg_in (List.mem_append_right _ (List.mem_of_getElem? (i := 538) (by decide +kernel))) (by decide +kernel)
theorem m_539 : (.methodLink R_Lw 48 y_Mo_ways : Cond) ∈ rg_tbl := rg_in (List.mem_append_right _ (List.mem_of_getElem? (i := 539) (by decide +kernel))) (by decide +kernel)
theorem m_540 : (.instanceMethod y_Mo_ways : Cond) ∈ rg_tbl := rg_in (List.mem_append_right _ (List.mem_of_getElem? (i := 540) (by decide +kernel))) (by decide +kernel)
theorem m_541 : (.selects R_Mo y_Mo_ways y_Mo_ways : Cond) ∈ rg_tbl := rg_in (List.mem_append_right _ (List.mem_of_getElem? (i := 541) (by decide +kernel))) (by decide +kernel)
theorem m_542 : (.code y_Mo_ways b_Mo_ways 7 (some .int) : Cond) ∈ rg_tbl := rg_in (List.mem_append_right _ (List.mem_of_getElem? (i := 542) (by decide +kernel))) (by decide +kernel)
theorem m_543 : (.methodLink R_Lw 53 y_Mo_way : Cond) ∈ rg_tbl := rg_in (List.mem_append_right _ (List.mem_of_getElem? (i := 543) (by decide +kernel))) (by decide +kernel)
theorem m_544 : (.instanceMethod y_Mo_way : Cond) ∈ rg_tbl := rg_in (List.mem_append_right _ (List.mem_of_getElem? (i := 544) (by decide +kernel))) (by decide +kernel)
theorem m_545 : (.selects R_Mo y_Mo_way y_Mo_way : Cond) ∈ rg_tbl := rg_in (List.mem_append_right _ (List.mem_of_getElem? (i := 545) (by decide +kernel))) (by decide +kernel)
theorem m_546 : (.code y_Mo_way b_Mo_way 9 (some .int) : Cond) ∈ rg_tbl := rg_in (List.mem_append_right _ (List.mem_of_getElem? (i := 546) (by decide +kernel))) (by decide +kernel)
theorem m_547 : (.methodLink R_Mo 154 y_Mo_premise : Cond) ∈ rg_tbl := rg_in (List.mem_append_right _ (List.mem_of_getElem? (i := 547) (by decide +kernel))) (by decide +kernel)
theorem m_549 : (.instanceMethod y_Mo_premise : Cond) ∈ rg_tbl := rg_in (List.mem_append_right _ (List.mem_of_getElem? (i := 549) (by decide +kernel))) (by decide +kernel)
theorem m_550 : (.code y_Mo_premise b_Mo_premise 2 (some .int) : Cond) ∈ rg_tbl := rg_in (List.mem_append_right _ (List.mem_of_getElem? (i := 550) (by decide +kernel))) (by decide +kernel)
theorem m_551 : (.methodLink R_Lw 57 y_Mo_clashes : Cond) ∈ rg_tbl := rg_in (List.mem_append_right _ (List.mem_of_getElem? (i := 551) (by decide +kernel))) (by decide +kernel)
theorem m_552 : (.instanceMethod y_Mo_clashes : Cond) ∈ rg_tbl := rg_in (List.mem_append_right _ (List.mem_of_getElem? (i := 552) (by decide +kernel))) (by decide +kernel)
theorem m_553 : (.selects R_Mo y_Mo_clashes y_Mo_clashes : Cond) ∈ rg_tbl := rg_in (List.mem_append_right _ (List.mem_of_getElem? (i := 553) (by decide +kernel))) (by decide +kernel)
theorem m_554 : (.code y_Mo_clashes b_Mo_clashes 3 (some .int) : Cond) ∈ rg_tbl := rg_in (List.mem_append_right _ (List.mem_of_getElem? (i := 554) (by decide +kernel))) (by decide +kernel)
theorem m_555 : (.methodLink R_Lw 62 y_Mo_clash : Cond) ∈ rg_tbl := rg_in (List.mem_append_right _ (List.mem_of_getElem? (i := 555) (by decide +kernel))) (by decide +kernel)
theorem m_556 : (.instanceMethod y_Mo_clash : Cond) ∈ rg_tbl := rg_in (List.mem_append_right _ (List.mem_of_getElem? (i := 556) (by decide +kernel))) (by decide +kernel)
theorem m_557 : (.selects R_Mo y_Mo_clash y_Mo_clash : Cond) ∈ rg_tbl := rg_in (List.mem_append_right _ (List.mem_of_getElem? (i := 557) (by decide +kernel))) (by decide +kernel)
theorem m_558 : (.code y_Mo_clash b_Mo_clash 5 (some .int) : Cond) ∈ rg_tbl := rg_in (List.mem_append_right _ (List.mem_of_getElem? (i := 558) (by decide +kernel))) (by decide +kernel)
theorem m_559 : (.methodLink R_Lw 66 y_Mo_group : Cond) ∈ rg_tbl := rg_in (List.mem_append_right _ (List.mem_of_getElem? (i := 559) (by decide +kernel))) (by decide +kernel)
theorem m_560 : (.instanceMethod y_Mo_group : Cond) ∈ rg_tbl := rg_in (List.mem_append_right _ (List.mem_of_getElem? (i := 560) (by decide +kernel))) (by decide +kernel)
theorem m_561 : (.selects R_Mo y_Mo_group y_Mo_group : Cond) ∈ rg_tbl := rg_in (List.mem_append_right _ (List.mem_of_getElem? (i := 561) (by decide +kernel))) (by decide +kernel)
theorem m_562 : (.code y_Mo_group b_Mo_group 4 (some .int) : Cond) ∈ rg_tbl := rg_in (List.mem_append_right _ (List.mem_of_getElem? (i := 562) (by decide +kernel))) (by decide +kernel)
theorem m_563 : (.methodLink R_Lw 70 y_Mo_said : Cond) ∈ rg_tbl := rg_in (List.mem_append_right _ (List.mem_of_getElem? (i := 563) (by decide +kernel))) (by decide +kernel)
theorem m_564 : (.instanceMethod y_Mo_said : Cond) ∈ rg_tbl := rg_in (List.mem_append_right _ (List.mem_of_getElem? (i := 564) (by decide +kernel))) (by decide +kernel)
theorem m_565 : (.selects R_Mo y_Mo_said y_Mo_said : Cond) ∈ rg_tbl := rg_in (List.mem_append_right _ (List.mem_of_getElem? (i := 565) (by decide +kernel))) (by decide +kernel)
theorem m_566 : (.code y_Mo_said b_Mo_said 1 (some .int) : Cond) ∈ rg_tbl := rg_in (List.mem_append_right _ (List.mem_of_getElem? (i := 566) (by decide +kernel))) (by decide +kernel)
theorem s_0 : (.selects R_Rl y_Rl_placeOfSaid y_Rl_placeOfSaid : Cond) ∈ rg_tbl := rg_in (List.mem_append_left _ (List.mem_of_getElem? (i := 0) (by decide +kernel))) (by decide +kernel)
theorem s_1 : (.selects R_Rl y_Rl_isTooLarge y_Rl_isTooLarge : Cond) ∈ rg_tbl := rg_in (List.mem_append_left _ (List.mem_of_getElem? (i := 1) (by decide +kernel))) (by decide +kernel)
theorem s_2 : (.selects R_De y_De_add y_De_add : Cond) ∈ rg_tbl := rg_in (List.mem_append_left _ (List.mem_of_getElem? (i := 2) (by decide +kernel))) (by decide +kernel)
theorem s_3 : (.selects R_De y_De_rulesInReach y_De_rulesInReach : Cond) ∈ rg_tbl := rg_in (List.mem_append_left _ (List.mem_of_getElem? (i := 3) (by decide +kernel))) (by decide +kernel)
theorem s_4 : (.selects R_De y_De_applyRules y_De_applyRules : Cond) ∈ rg_tbl := rg_in (List.mem_append_left _ (List.mem_of_getElem? (i := 4) (by decide +kernel))) (by decide +kernel)
theorem s_5 : (.selects R_Mo y_Mo_make y_Mo_make : Cond) ∈ rg_tbl := rg_in (List.mem_append_left _ (List.mem_of_getElem? (i := 5) (by decide +kernel))) (by decide +kernel)
theorem s_6 : (.selects R_Mo y_Mo_collect y_Mo_collect : Cond) ∈ rg_tbl := rg_in (List.mem_append_left _ (List.mem_of_getElem? (i := 6) (by decide +kernel))) (by decide +kernel)
theorem s_7 : (.selects R_Mo y_Mo_begin y_Mo_begin : Cond) ∈ rg_tbl := rg_in (List.mem_append_left _ (List.mem_of_getElem? (i := 7) (by decide +kernel))) (by decide +kernel)
theorem s_8 : (.selects R_Mo y_Mo_next y_Mo_next : Cond) ∈ rg_tbl := rg_in (List.mem_append_left _ (List.mem_of_getElem? (i := 8) (by decide +kernel))) (by decide +kernel)
theorem s_9 : (.selects R_Mo y_Mo_release y_Mo_release : Cond) ∈ rg_tbl := rg_in (List.mem_append_left _ (List.mem_of_getElem? (i := 9) (by decide +kernel))) (by decide +kernel)
theorem s_10 : (.selects R_Mo y_Mo_fits y_Mo_fits : Cond) ∈ rg_tbl := rg_in (List.mem_append_left _ (List.mem_of_getElem? (i := 10) (by decide +kernel))) (by decide +kernel)
theorem s_11 : (.selects R_Mo y_Mo_fitsItem y_Mo_fitsItem : Cond) ∈ rg_tbl := rg_in (List.mem_append_left _ (List.mem_of_getElem? (i := 11) (by decide +kernel))) (by decide +kernel)
theorem s_12 : (.selects R_Mo y_Mo_given y_Mo_given : Cond) ∈ rg_tbl := rg_in (List.mem_append_left _ (List.mem_of_getElem? (i := 12) (by decide +kernel))) (by decide +kernel)
theorem s_13 : (.selects R_Mo y_Mo_termOf y_Mo_termOf : Cond) ∈ rg_tbl := rg_in (List.mem_append_left _ (List.mem_of_getElem? (i := 13) (by decide +kernel))) (by decide +kernel)
theorem s_14 : (.selects R_Mo y_Mo_premise y_Mo_premise : Cond) ∈ rg_tbl := rg_in (List.mem_append_left _ (List.mem_of_getElem? (i := 14) (by decide +kernel))) (by decide +kernel)
def rn_all : List Cond := [.fieldLinkNest R_Rl 72 "RlRounds$Deriver" "count" "I" "RlRounds", .fieldLinkNest R_Rl 121 "RlRounds$Deriver" "large" "Z" "RlRounds", .fieldLinkNest R_Rl 88 "RlRounds$Seeker" "foundRow" "I" "RlRounds", .methodLinkNest R_Tr 32 y_Rl_isTerm "RlRounds", .methodLinkNest R_De 71 y_Rl_contains "RlRounds", .methodLinkNest R_De 87 y_Ma_join "RlRounds", .declares y_Ma_meet, .methodLinkNest R_Tb 28 y_Rl_codeOf "RlRounds", .methodLinkNest R_Ma 56 y_Rl_leastOf "RlRounds", .methodLinkNest R_Ma 59 y_Rl_withoutLeast "RlRounds", .methodLinkNest R_Ma 69 y_Rl_codeOf "RlRounds", .methodLinkNest R_Tr 46 y_Rl_withoutLeast "RlRounds", .methodLinkNest R_Tr 49 y_Rl_leastOf "RlRounds", .methodLinkNest R_Se 25 y_Rl_contains "RlRounds", .methodLinkNest R_Se 47 y_Ma_join "RlRounds"]
/-- what the tables say of members across the nest -/
def rn_ (U : State) : Prop := ∀ w ∈ rn_all, va_Nw w U
theorem rn_0 : (.fieldLinkNest R_Rl 72 "RlRounds$Deriver" "count" "I" "RlRounds" : Cond) ∈ rn_all := List.mem_of_getElem? (i := 0) rfl
theorem rn_1 : (.fieldLinkNest R_Rl 121 "RlRounds$Deriver" "large" "Z" "RlRounds" : Cond) ∈ rn_all := List.mem_of_getElem? (i := 1) rfl
theorem rn_2 : (.fieldLinkNest R_Rl 88 "RlRounds$Seeker" "foundRow" "I" "RlRounds" : Cond) ∈ rn_all := List.mem_of_getElem? (i := 2) rfl
theorem rn_3 : (.methodLinkNest R_Tr 32 y_Rl_isTerm "RlRounds" : Cond) ∈ rn_all := List.mem_of_getElem? (i := 3) rfl
theorem rn_4 : (.methodLinkNest R_De 71 y_Rl_contains "RlRounds" : Cond) ∈ rn_all := List.mem_of_getElem? (i := 4) rfl
theorem rn_5 : (.methodLinkNest R_De 87 y_Ma_join "RlRounds" : Cond) ∈ rn_all := List.mem_of_getElem? (i := 5) rfl
theorem rn_6 : (.declares y_Ma_meet : Cond) ∈ rn_all := List.mem_of_getElem? (i := 6) rfl
theorem rn_7 : (.methodLinkNest R_Tb 28 y_Rl_codeOf "RlRounds" : Cond) ∈ rn_all := List.mem_of_getElem? (i := 7) rfl
theorem rn_8 : (.methodLinkNest R_Ma 56 y_Rl_leastOf "RlRounds" : Cond) ∈ rn_all := List.mem_of_getElem? (i := 8) rfl
theorem rn_9 : (.methodLinkNest R_Ma 59 y_Rl_withoutLeast "RlRounds" : Cond) ∈ rn_all := List.mem_of_getElem? (i := 9) rfl
theorem rn_10 : (.methodLinkNest R_Ma 69 y_Rl_codeOf "RlRounds" : Cond) ∈ rn_all := List.mem_of_getElem? (i := 10) rfl
theorem rn_11 : (.methodLinkNest R_Tr 46 y_Rl_withoutLeast "RlRounds" : Cond) ∈ rn_all := List.mem_of_getElem? (i := 11) rfl
theorem rn_12 : (.methodLinkNest R_Tr 49 y_Rl_leastOf "RlRounds" : Cond) ∈ rn_all := List.mem_of_getElem? (i := 12) rfl
theorem rn_13 : (.methodLinkNest R_Se 25 y_Rl_contains "RlRounds" : Cond) ∈ rn_all := List.mem_of_getElem? (i := 13) rfl
theorem rn_14 : (.methodLinkNest R_Se 47 y_Ma_join "RlRounds" : Cond) ∈ rn_all := List.mem_of_getElem? (i := 14) rfl
theorem rn_tbl : ∀ w ∈ rn_all, w.onTables = true := by decide +kernel
theorem rn_same {u U : State} (h : u.vm = U.vm) (hN : rn_ u) : rn_ U := fun w hw => va_Nw.same (rn_tbl w hw) h (hN w hw)
theorem rn_warm {s U : State} (hW : s.WarmedH U.vm) (hN : rn_ s) : rn_ U := by
  unfold rn_ rn_all
  exact List.forall_mem_cons.mpr ⟨va_Nw.warmF hW (hN _ rn_0), List.forall_mem_cons.mpr ⟨va_Nw.warmF hW (hN _ rn_1), List.forall_mem_cons.mpr ⟨va_Nw.warmF hW (hN _ rn_2), List.forall_mem_cons.mpr ⟨va_Nw.warmM hW (hN _ rn_3), List.forall_mem_cons.mpr ⟨va_Nw.warmM hW (hN _ rn_4), List.forall_mem_cons.mpr ⟨va_Nw.warmM hW (hN _ rn_5), List.forall_mem_cons.mpr ⟨va_Nw.warmD hW (hN _ rn_6), List.forall_mem_cons.mpr ⟨va_Nw.warmM hW (hN _ rn_7), List.forall_mem_cons.mpr ⟨va_Nw.warmM hW (hN _ rn_8), List.forall_mem_cons.mpr ⟨va_Nw.warmM hW (hN _ rn_9), List.forall_mem_cons.mpr ⟨va_Nw.warmM hW (hN _ rn_10), List.forall_mem_cons.mpr ⟨va_Nw.warmM hW (hN _ rn_11), List.forall_mem_cons.mpr ⟨va_Nw.warmM hW (hN _ rn_12), List.forall_mem_cons.mpr ⟨va_Nw.warmM hW (hN _ rn_13), List.forall_mem_cons.mpr ⟨va_Nw.warmM hW (hN _ rn_14), List.forall_mem_nil _⟩⟩⟩⟩⟩⟩⟩⟩⟩⟩⟩⟩⟩⟩⟩
theorem rn_in : ∀ w ∈ rn_all, w ∈ lw_tbl := by decide +kernel
theorem k_Rl_init : (.code y_Rl_init b_Rl_init 1 none : Cond) ∈ rg_tbl := m_16
theorem k_Tr_init : (.code y_Tr_init b_Tr_init 1 none : Cond) ∈ rg_tbl := m_25
theorem k_De_init : (.code y_De_init b_De_init 2 none : Cond) ∈ rg_tbl := m_45
theorem k_Ma_init : (.code y_Ma_init b_Ma_init 2 none : Cond) ∈ rg_tbl := m_48
theorem k_Se_init : (.code y_Se_init b_Se_init 2 none : Cond) ∈ rg_tbl := m_87
theorem k_Rl_say : (.code y_Rl_say b_Rl_say 5 (some .int) : Cond) ∈ rg_tbl := m_127
theorem k_Rl_areTerms : (.code y_Rl_areTerms b_Rl_areTerms 3 (some .boolean) : Cond) ∈ rg_tbl := m_130
theorem k_Rl_isTerm : (.code y_Rl_isTerm b_Rl_isTerm 1 (some .boolean) : Cond) ∈ rg_tbl := m_133
theorem k_Rl_codeOf : (.code y_Rl_codeOf b_Rl_codeOf 3 (some .int) : Cond) ∈ rg_tbl := m_136
theorem k_Rl_placeOfSaid : (.code y_Rl_placeOfSaid b_Rl_placeOfSaid 3 (some .int) : Cond) ∈ rg_tbl := m_140
theorem k_Rl_unsay : (.code y_Rl_unsay b_Rl_unsay 5 (some .int) : Cond) ∈ rg_tbl := m_144
theorem k_Rl_rule : (.code y_Rl_rule b_Rl_rule 3 (some .int) : Cond) ∈ rg_tbl := m_148
theorem k_Rl_contains : (.code y_Rl_contains b_Rl_contains 2 (some .boolean) : Cond) ∈ rg_tbl := m_151
theorem k_Rl_run : (.code y_Rl_run b_Rl_run 1 (some .int) : Cond) ∈ rg_tbl := m_155
theorem k_Rl_isTooLarge : (.code y_Rl_isTooLarge b_Rl_isTooLarge 1 (some .boolean) : Cond) ∈ rg_tbl := m_159
theorem k_De_derive : (.code y_De_derive b_De_derive 9 none : Cond) ∈ rg_tbl := m_163
theorem k_Tr_clear : (.code y_Tr_clear b_Tr_clear 1 none : Cond) ∈ rg_tbl := m_167
theorem k_Ar_fill : (.code y_Ar_fill b_Ar_fill 4 none : Cond) ∈ rg_tbl := m_170
theorem k_De_add : (.code y_De_add b_De_add 2 none : Cond) ∈ rg_tbl := m_174
theorem k_Tr_has : (.code y_Tr_has b_Tr_has 2 (some .boolean) : Cond) ∈ rg_tbl := m_178
theorem k_Tr_put : (.code y_Tr_put b_Tr_put 4 none : Cond) ∈ rg_tbl := m_183
theorem k_De_rulesInReach : (.code y_De_rulesInReach b_De_rulesInReach 4 (some .int) : Cond) ∈ rg_tbl := m_187
theorem k_Tb_premiseAt : (.code y_Tb_premiseAt b_Tb_premiseAt 2 (some .int) : Cond) ∈ rg_tbl := m_192
theorem k_Tr_subjectsFor : (.code y_Tr_subjectsFor b_Tr_subjectsFor 3 (some .int) : Cond) ∈ rg_tbl := m_196
theorem k_De_applyRules : (.code y_De_applyRules b_De_applyRules 9 none : Cond) ∈ rg_tbl := m_201
theorem k_Tb_premiseCount : (.code y_Tb_premiseCount b_Tb_premiseCount 1 (some .int) : Cond) ∈ rg_tbl := m_205
theorem k_Le_fit : (.code y_Le_fit b_Le_fit 7 (some .long) : Cond) ∈ rg_tbl := m_210
theorem k_Le_bind : (.code y_Le_bind b_Le_bind 5 (some .long) : Cond) ∈ rg_tbl := m_214
theorem k_Le_termOf : (.code y_Le_termOf b_Le_termOf 3 (some .int) : Cond) ∈ rg_tbl := m_217
theorem k_Ma_join : (.code y_Ma_join b_Ma_join 21 (some .boolean) : Cond) ∈ rg_tbl := m_222
theorem k_De_meet : (.code y_De_meet b_De_meet 4 (some .boolean) : Cond) ∈ rg_tbl := m_229
theorem k_Tb_givenCode : (.code y_Tb_givenCode b_Tb_givenCode 4 (some .int) : Cond) ∈ rg_tbl := m_232
theorem k_Tb_givenAt : (.code y_Tb_givenAt b_Tb_givenAt 1 (some .int) : Cond) ∈ rg_tbl := m_235
theorem k_Se_meet : (.code y_Se_meet b_Se_meet 5 (some .boolean) : Cond) ∈ rg_tbl := m_242
theorem k_Ig_bitCount : (.code y_Ig_bitCount b_Ig_bitCount 1 (some .int) : Cond) ∈ rg_tbl := m_250
theorem k_Rl_leastOf : (.code y_Rl_leastOf b_Rl_leastOf 1 (some .int) : Cond) ∈ rg_tbl := m_256
theorem k_Rl_withoutLeast : (.code y_Rl_withoutLeast b_Rl_withoutLeast 1 (some .int) : Cond) ∈ rg_tbl := m_260
theorem k_Tr_predicatesFor : (.code y_Tr_predicatesFor b_Tr_predicatesFor 3 (some .int) : Cond) ∈ rg_tbl := m_264
theorem k_Tr_objectsFor : (.code y_Tr_objectsFor b_Tr_objectsFor 5 (some .int) : Cond) ∈ rg_tbl := m_268
theorem k_De_lastRound : (.code y_De_lastRound b_De_lastRound 1 (some .int) : Cond) ∈ rg_tbl := m_275
theorem k_Rl_size : (.code y_Rl_size b_Rl_size 1 (some .int) : Cond) ∈ rg_tbl := m_279
theorem k_Rl_triple : (.code y_Rl_triple b_Rl_triple 2 (some .int) : Cond) ∈ rg_tbl := m_283
theorem k_Tr_codeAt : (.code y_Tr_codeAt b_Tr_codeAt 5 (some .int) : Cond) ∈ rg_tbl := m_287
theorem k_Tr_elementAt : (.code y_Tr_elementAt b_Tr_elementAt 4 (some .int) : Cond) ∈ rg_tbl := m_291
theorem k_Rl_round : (.code y_Rl_round b_Rl_round 4 (some .int) : Cond) ∈ rg_tbl := m_297
theorem k_De_roundOf : (.code y_De_roundOf b_De_roundOf 3 (some .int) : Cond) ∈ rg_tbl := m_301
theorem k_Rl_ways : (.code y_Rl_ways b_Rl_ways 4 (some .int) : Cond) ∈ rg_tbl := m_305
theorem k_Se_countWays : (.code y_Se_countWays b_Se_countWays 3 (some .int) : Cond) ∈ rg_tbl := m_309
theorem k_Se_seekWay : (.code y_Se_seekWay b_Se_seekWay 7 (some .boolean) : Cond) ∈ rg_tbl := m_313
theorem k_Rl_way : (.code y_Rl_way b_Rl_way 6 (some .int) : Cond) ∈ rg_tbl := m_323
theorem k_Se_foundPremise : (.code y_Se_foundPremise b_Se_foundPremise 2 (some .int) : Cond) ∈ rg_tbl := m_328
theorem k_Rl_clashes : (.code y_Rl_clashes b_Rl_clashes 1 (some .int) : Cond) ∈ rg_tbl := m_333
theorem k_Se_countClashes : (.code y_Se_countClashes b_Se_countClashes 1 (some .int) : Cond) ∈ rg_tbl := m_337
theorem k_Se_seekClash : (.code y_Se_seekClash b_Se_seekClash 3 (some .boolean) : Cond) ∈ rg_tbl := m_341
theorem k_Rl_clash : (.code y_Rl_clash b_Rl_clash 3 (some .int) : Cond) ∈ rg_tbl := m_345
theorem k_Rl_group : (.code y_Rl_group b_Rl_group 3 (some .int) : Cond) ∈ rg_tbl := m_350
theorem k_Mt_min : (.code y_Mt_min b_Mt_min 2 (some .int) : Cond) ∈ rg_tbl := m_355
theorem k_Rl_said : (.code y_Rl_said b_Rl_said 1 (some .int) : Cond) ∈ rg_tbl := m_359
theorem k_Mo_init : (.code y_Mo_init b_Mo_init 1 none : Cond) ∈ rg_tbl := m_364
theorem k_Mo_say : (.code y_Mo_say b_Mo_say 5 (some .int) : Cond) ∈ rg_tbl := m_417
theorem k_Mo_isTriple : (.code y_Mo_isTriple b_Mo_isTriple 3 (some .boolean) : Cond) ∈ rg_tbl := m_420
theorem k_Mo_isTerm : (.code y_Mo_isTerm b_Mo_isTerm 1 (some .boolean) : Cond) ∈ rg_tbl := m_423
theorem k_Mo_codeOf : (.code y_Mo_codeOf b_Mo_codeOf 3 (some .int) : Cond) ∈ rg_tbl := m_426
theorem k_Mo_unsay : (.code y_Mo_unsay b_Mo_unsay 5 (some .int) : Cond) ∈ rg_tbl := m_430
theorem k_Mo_rule : (.code y_Mo_rule b_Mo_rule 3 (some .int) : Cond) ∈ rg_tbl := m_434
theorem k_Mo_run : (.code y_Mo_run b_Mo_run 1 (some .int) : Cond) ∈ rg_tbl := m_438
theorem k_Mo_make : (.code y_Mo_make b_Mo_make 5 none : Cond) ∈ rg_tbl := m_442
theorem k_Mo_collect : (.code y_Mo_collect b_Mo_collect 2 none : Cond) ∈ rg_tbl := m_446
theorem k_Mo_begin : (.code y_Mo_begin b_Mo_begin 3 none : Cond) ∈ rg_tbl := m_450
theorem k_Mo_next : (.code y_Mo_next b_Mo_next 2 (some .boolean) : Cond) ∈ rg_tbl := m_454
theorem k_Mo_premises : (.code y_Mo_premises b_Mo_premises 3 (some .int) : Cond) ∈ rg_tbl := m_457
theorem k_Mo_pattern : (.code y_Mo_pattern b_Mo_pattern 1 (some .int) : Cond) ∈ rg_tbl := m_460
theorem k_Mo_early : (.code y_Mo_early b_Mo_early 1 (some .int) : Cond) ∈ rg_tbl := m_463
theorem k_Mo_later : (.code y_Mo_later b_Mo_later 1 (some .int) : Cond) ∈ rg_tbl := m_488
theorem k_Mo_release : (.code y_Mo_release b_Mo_release 2 none : Cond) ∈ rg_tbl := m_510
theorem k_Mo_fits : (.code y_Mo_fits b_Mo_fits 3 (some .boolean) : Cond) ∈ rg_tbl := m_514
theorem k_Mo_fitsItem : (.code y_Mo_fitsItem b_Mo_fitsItem 4 (some .boolean) : Cond) ∈ rg_tbl := m_518
theorem k_Mo_given : (.code y_Mo_given b_Mo_given 2 (some .int) : Cond) ∈ rg_tbl := m_522
theorem k_Mo_termOf : (.code y_Mo_termOf b_Mo_termOf 2 (some .int) : Cond) ∈ rg_tbl := m_526
theorem k_Mo_size : (.code y_Mo_size b_Mo_size 1 (some .int) : Cond) ∈ rg_tbl := m_530
theorem k_Mo_triple : (.code y_Mo_triple b_Mo_triple 2 (some .int) : Cond) ∈ rg_tbl := m_534
theorem k_Mo_round : (.code y_Mo_round b_Mo_round 5 (some .int) : Cond) ∈ rg_tbl := m_538
theorem k_Mo_ways : (.code y_Mo_ways b_Mo_ways 7 (some .int) : Cond) ∈ rg_tbl := m_542
theorem k_Mo_way : (.code y_Mo_way b_Mo_way 9 (some .int) : Cond) ∈ rg_tbl := m_546
theorem k_Mo_premise : (.code y_Mo_premise b_Mo_premise 2 (some .int) : Cond) ∈ rg_tbl := m_550
theorem k_Mo_clashes : (.code y_Mo_clashes b_Mo_clashes 3 (some .int) : Cond) ∈ rg_tbl := m_554
theorem k_Mo_clash : (.code y_Mo_clash b_Mo_clash 5 (some .int) : Cond) ∈ rg_tbl := m_558
theorem k_Mo_group : (.code y_Mo_group b_Mo_group 4 (some .int) : Cond) ∈ rg_tbl := m_562
theorem k_Mo_said : (.code y_Mo_said b_Mo_said 1 (some .int) : Cond) ∈ rg_tbl := m_566
end
section
theorem wb_tb (n : Nat) : (lN n).toBitVec = BitVec.ofNat 64 n := rfl
theorem wb_inj {a b : Int64} (h : a.toBitVec = b.toBitVec) : a = b := Int64.toBitVec_inj.mp h
theorem wb_tn {n : Nat} (h : n < 2 ^ 64) : (lN n).toBitVec.toNat = n := by rw [wb_tb, BitVec.toNat_ofNat, Nat.mod_eq_of_lt h]
theorem wb_of (x : Int64) : ∃ n, n < 2 ^ 64 ∧ x = lN n := ⟨x.toBitVec.toNat, x.toBitVec.isLt, wb_inj (by rw [wb_tb]; simp)⟩
theorem wb_of32 (x : Int32) : ∃ n, n < 2 ^ 32 ∧ x = nI n := ⟨x.toBitVec.toNat, x.toBitVec.isLt, Int32.toBitVec_inj.mp (by show _ = BitVec.ofNat 32 _; simp)⟩
theorem wb_c : ∀ k, k < 64 → ((nI k).toInt64 &&& 63) = lN k := by decide +kernel
theorem wb_cu : ∀ k, k < 64 → ((nI k).toInt64.toUInt64 &&& Int64.toUInt64 63) = UInt64.ofNat k := by decide +kernel
theorem wb_sm : ∀ k, k < 64 → (BitVec.ofNat 64 k).smod 64 = BitVec.ofNat 64 k := by decide +kernel
theorem wb_pw {a b : Nat} (h : a ≤ b) : 2 ^ b = 2 ^ a * 2 ^ (b - a) := by rw [← Nat.pow_add]; congr 1; omega
theorem wb_lt2 {a b : Nat} (h : a < b) : 2 ^ a < 2 ^ b := Nat.pow_lt_pow_right (by decide) h
theorem wb_mod (n : Nat) : lN n = lN (n % 2 ^ 64) := wb_inj (by rw [wb_tb, wb_tb]; apply BitVec.eq_of_toNat_eq; rw [BitVec.toNat_ofNat, BitVec.toNat_ofNat, Nat.mod_mod])
theorem wb_shr {n k : Nat} (hn : n < 2 ^ 64) (hk : k < 64) : ((lN n).toUInt64 >>> ((nI k).toInt64.toUInt64 &&& Int64.toUInt64 63)).toInt64 = lN (n / 2 ^ k) := by
  rw [wb_cu k hk]
  apply wb_inj
  apply BitVec.eq_of_toNat_eq
  show ((lN n).toUInt64 >>> UInt64.ofNat k).toNat = (BitVec.ofNat 64 _).toNat
  have h1 : (UInt64.ofNat k).toNat = k := by
    show (BitVec.ofNat 64 k).toNat = k
    rw [BitVec.toNat_ofNat, Nat.mod_eq_of_lt (by omega)]
  have h2 : (lN n).toUInt64.toNat = n := wb_tn hn
  rw [UInt64.toNat_shiftRight, h1, h2, Nat.mod_eq_of_lt hk, Nat.shiftRight_eq_div_pow, BitVec.toNat_ofNat, Nat.mod_eq_of_lt (Nat.lt_of_le_of_lt (Nat.div_le_self _ _) hn)]
theorem wb_shl (n : Nat) {k : Nat} (hk : k < 64) : lN n <<< ((nI k).toInt64 &&& 63) = lN (n * 2 ^ k) := by
  rw [wb_c k hk]
  apply wb_inj
  rw [Int64.toBitVec_shiftLeft, wb_tb, wb_tb, wb_tb, wb_sm k hk]
  apply BitVec.eq_of_toNat_eq
  rw [BitVec.shiftLeft_eq', BitVec.toNat_shiftLeft, BitVec.toNat_ofNat, BitVec.toNat_ofNat, BitVec.toNat_ofNat, Nat.mod_eq_of_lt (show k < 2 ^ 64 by omega), Nat.shiftLeft_eq, Nat.mul_mod, Nat.mod_mod, ← Nat.mul_mod]
theorem wb_and {a b : Nat} (ha : a < 2 ^ 64) (hb : b < 2 ^ 64) : lN a &&& lN b = lN (a &&& b) := by
  apply wb_inj
  rw [Int64.toBitVec_and, wb_tb, wb_tb, wb_tb]
  apply BitVec.eq_of_toNat_eq
  rw [BitVec.toNat_and, BitVec.toNat_ofNat, BitVec.toNat_ofNat, BitVec.toNat_ofNat, Nat.mod_eq_of_lt ha, Nat.mod_eq_of_lt hb, Nat.mod_eq_of_lt (Nat.and_lt_two_pow _ hb)]
theorem wb_or {a b : Nat} (ha : a < 2 ^ 64) (hb : b < 2 ^ 64) : lN a ||| lN b = lN (a ||| b) := by
  apply wb_inj
  rw [Int64.toBitVec_or, wb_tb, wb_tb, wb_tb]
  apply BitVec.eq_of_toNat_eq
  rw [BitVec.toNat_or, BitVec.toNat_ofNat, BitVec.toNat_ofNat, BitVec.toNat_ofNat, Nat.mod_eq_of_lt ha, Nat.mod_eq_of_lt hb, Nat.mod_eq_of_lt (Nat.or_lt_two_pow ha hb)]
theorem wb_mask {n k : Nat} (hn : n < 2 ^ 64) (hk : k < 64) : lN n &&& lN (2 ^ k - 1) = lN (n % 2 ^ k) := by
  rw [wb_and hn (by have := wb_lt2 hk; omega), Nat.and_two_pow_sub_one_eq_mod]
theorem wb_a1 {n : Nat} (hn : n < 2 ^ 64) : lN n &&& 1 = lN (n % 2) := wb_mask (k := 1) hn (by decide)
theorem wb_bit {n k : Nat} (hn : n < 2 ^ 64) (hk : k < 64) : ((lN n).toUInt64 >>> ((nI k).toInt64.toUInt64 &&& Int64.toUInt64 63)).toInt64 &&& 1 = lN (n / 2 ^ k % 2) := by
  rw [wb_shr hn hk, wb_a1 (Nat.lt_of_le_of_lt (Nat.div_le_self _ _) hn)]
end
section
/-! rows of one instruction, over ints that are small naturals; calls that change nothing -/
section RV
variable {p : Program} {l : Launch} {e : Env} {R : Room} {s : State} {m : MethodId} {args : Array Value} {below : List Frame} {meth : Method} {c : Code} {H : Heap} {locs : List Loc} {cells slots : Nat} {Q : State → Prop} {cc : ByteArray} {pc : Nat} {ls : Array Slot} {rest : List Value}
theorem rv_iadd (hx : p.tables.exec = Jvm.exec) (hb : c.code = cc) {x y : Nat} (hdg : decode cc pc = .ok (.iadd, 1)) (k : W p l e R s m args below meth c H locs cells slots Q (F0 m (pc + 1) ls (.int (nI (x + y)) :: rest))) : W p l e R s m args below meth c H locs cells slots Q (F0 m pc ls (.int (nI y) :: .int (nI x) :: rest)) :=
  lv_iadd hx hb hdg (by rw [nI_add]; exact k)
theorem rv_imul (hx : p.tables.exec = Jvm.exec) (hb : c.code = cc) {x y : Nat} (hdg : decode cc pc = .ok (.imul, 1)) (k : W p l e R s m args below meth c H locs cells slots Q (F0 m (pc + 1) ls (.int (nI (x * y)) :: rest))) : W p l e R s m args below meth c H locs cells slots Q (F0 m pc ls (.int (nI y) :: .int (nI x) :: rest)) :=
  lv_imul hx hb hdg (by rw [pk_mul]; exact k)
theorem rv_isub (hx : p.tables.exec = Jvm.exec) (hb : c.code = cc) {x y : Nat} (hdg : decode cc pc = .ok (.isub, 1)) (hle : y ≤ x) (k : W p l e R s m args below meth c H locs cells slots Q (F0 m (pc + 1) ls (.int (nI (x - y)) :: rest))) : W p l e R s m args below meth c H locs cells slots Q (F0 m pc ls (.int (nI y) :: .int (nI x) :: rest)) :=
  lv_isub hx hb hdg (by rw [pk_sub hle]; exact k)
theorem rv_idiv (hx : p.tables.exec = Jvm.exec) (hb : c.code = cc) {x y : Nat} (hdg : decode cc pc = .ok (.idiv, 1)) (h0 : 0 < y) (hx1 : x < 2 ^ 31) (hy : y < 2 ^ 31) (k : W p l e R s m args below meth c H locs cells slots Q (F0 m (pc + 1) ls (.int (nI (x / y)) :: rest))) : W p l e R s m args below meth c H locs cells slots Q (F0 m pc ls (.int (nI y) :: .int (nI x) :: rest)) :=
  lv_idiv hx hb hdg (nI_ne0 h0 hy) (by rw [pk_div hx1 h0 hy]; exact k)
theorem rv_irem (hx : p.tables.exec = Jvm.exec) (hb : c.code = cc) {x y : Nat} (hdg : decode cc pc = .ok (.irem, 1)) (h0 : 0 < y) (hx1 : x < 2 ^ 31) (hy : y < 2 ^ 31) (k : W p l e R s m args below meth c H locs cells slots Q (F0 m (pc + 1) ls (.int (nI (x % y)) :: rest))) : W p l e R s m args below meth c H locs cells slots Q (F0 m pc ls (.int (nI y) :: .int (nI x) :: rest)) :=
  lv_irem hx hb hdg (nI_ne0 h0 hy) (by rw [pk_rem hx1 h0 hy]; exact k)
theorem rv_icmp_lt (hx : p.tables.exec = Jvm.exec) (hb : c.code = cc) {x y : Nat} {off : Int} {tgt : Nat} (hdg : decode cc pc = .ok (.if_icmp .lt off, 3)) (ht : (pc : Int) + off = (tgt : Int)) (hx1 : x < 2 ^ 31) (hy : y < 2 ^ 31) (kt : x < y → W p l e R s m args below meth c H locs cells slots Q (F0 m tgt ls rest)) (kf : y ≤ x → W p l e R s m args below meth c H locs cells slots Q (F0 m (pc + 3) ls rest)) : W p l e R s m args below meth c H locs cells slots Q (F0 m pc ls (.int (nI y) :: .int (nI x) :: rest)) :=
  lv_icmp_lt hx hb hdg ht (fun h => kt ((nI_ltI hx1 hy).mp h)) (fun h => kf (Nat.le_of_not_lt fun z => h ((nI_ltI hx1 hy).mpr z)))
theorem rv_icmp_ge (hx : p.tables.exec = Jvm.exec) (hb : c.code = cc) {x y : Nat} {off : Int} {tgt : Nat} (hdg : decode cc pc = .ok (.if_icmp .ge off, 3)) (ht : (pc : Int) + off = (tgt : Int)) (hx1 : x < 2 ^ 31) (hy : y < 2 ^ 31) (kt : y ≤ x → W p l e R s m args below meth c H locs cells slots Q (F0 m tgt ls rest)) (kf : x < y → W p l e R s m args below meth c H locs cells slots Q (F0 m (pc + 3) ls rest)) : W p l e R s m args below meth c H locs cells slots Q (F0 m pc ls (.int (nI y) :: .int (nI x) :: rest)) :=
  lv_icmp_ge hx hb hdg ht (fun h => kt ((nI_leI hy hx1).mp h)) (fun h => kf (Nat.lt_of_not_le fun z => h ((nI_leI hy hx1).mpr z)))
theorem rv_icmp_gt (hx : p.tables.exec = Jvm.exec) (hb : c.code = cc) {x y : Nat} {off : Int} {tgt : Nat} (hdg : decode cc pc = .ok (.if_icmp .gt off, 3)) (ht : (pc : Int) + off = (tgt : Int)) (hx1 : x < 2 ^ 31) (hy : y < 2 ^ 31) (kt : y < x → W p l e R s m args below meth c H locs cells slots Q (F0 m tgt ls rest)) (kf : x ≤ y → W p l e R s m args below meth c H locs cells slots Q (F0 m (pc + 3) ls rest)) : W p l e R s m args below meth c H locs cells slots Q (F0 m pc ls (.int (nI y) :: .int (nI x) :: rest)) :=
  lv_icmp_gt hx hb hdg ht (fun h => kt ((nI_ltI hy hx1).mp h)) (fun h => kf (Nat.le_of_not_lt fun z => h ((nI_ltI hy hx1).mpr z)))
theorem rv_icmp_le (hx : p.tables.exec = Jvm.exec) (hb : c.code = cc) {x y : Nat} {off : Int} {tgt : Nat} (hdg : decode cc pc = .ok (.if_icmp .le off, 3)) (ht : (pc : Int) + off = (tgt : Int)) (hx1 : x < 2 ^ 31) (hy : y < 2 ^ 31) (kt : x ≤ y → W p l e R s m args below meth c H locs cells slots Q (F0 m tgt ls rest)) (kf : y < x → W p l e R s m args below meth c H locs cells slots Q (F0 m (pc + 3) ls rest)) : W p l e R s m args below meth c H locs cells slots Q (F0 m pc ls (.int (nI y) :: .int (nI x) :: rest)) :=
  lv_icmp_le hx hb hdg ht (fun h => kt ((nI_leI hx1 hy).mp h)) (fun h => kf (Nat.lt_of_not_le fun z => h ((nI_leI hx1 hy).mpr z)))
theorem rv_icmp_eq (hx : p.tables.exec = Jvm.exec) (hb : c.code = cc) {x y : Nat} {off : Int} {tgt : Nat} (hdg : decode cc pc = .ok (.if_icmp .eq off, 3)) (ht : (pc : Int) + off = (tgt : Int)) (hx1 : x < 2 ^ 31) (hy : y < 2 ^ 31) (kt : x = y → W p l e R s m args below meth c H locs cells slots Q (F0 m tgt ls rest)) (kf : ¬ x = y → W p l e R s m args below meth c H locs cells slots Q (F0 m (pc + 3) ls rest)) : W p l e R s m args below meth c H locs cells slots Q (F0 m pc ls (.int (nI y) :: .int (nI x) :: rest)) :=
  lv_icmp_eq hx hb hdg ht (fun h => kt ((nI_eq hx1 hy).mp h)) (fun h => kf (fun z => h ((nI_eq hx1 hy).mpr z)))
theorem rv_icmp_ne (hx : p.tables.exec = Jvm.exec) (hb : c.code = cc) {x y : Nat} {off : Int} {tgt : Nat} (hdg : decode cc pc = .ok (.if_icmp .ne off, 3)) (ht : (pc : Int) + off = (tgt : Int)) (hx1 : x < 2 ^ 31) (hy : y < 2 ^ 31) (kt : ¬ x = y → W p l e R s m args below meth c H locs cells slots Q (F0 m tgt ls rest)) (kf : x = y → W p l e R s m args below meth c H locs cells slots Q (F0 m (pc + 3) ls rest)) : W p l e R s m args below meth c H locs cells slots Q (F0 m pc ls (.int (nI y) :: .int (nI x) :: rest)) :=
  lv_icmp_ne hx hb hdg ht (fun h => kt (fun z => h ((nI_eq hx1 hy).mpr z))) (fun h => kf ((nI_eq hx1 hy).mp h))
theorem rv_if_lt (hx : p.tables.exec = Jvm.exec) (hb : c.code = cc) {x : Nat} {off : Int} (hdg : decode cc pc = .ok (.ifCond .lt off, 3)) {tgt : Nat} (ht : (pc : Int) + off = (tgt : Int)) (hx1 : x < 2 ^ 31) (kf : W p l e R s m args below meth c H locs cells slots Q (F0 m (pc + 3) ls rest)) : W p l e R s m args below meth c H locs cells slots Q (F0 m pc ls (.int (nI x) :: rest)) :=
  lv_if_lt hx hb hdg ht (fun h => absurd h (nI_pos hx1)) (fun _ => kf)
theorem rv_if_le (hx : p.tables.exec = Jvm.exec) (hb : c.code = cc) {x : Nat} {off : Int} {tgt : Nat} (hdg : decode cc pc = .ok (.ifCond .le off, 3)) (ht : (pc : Int) + off = (tgt : Int)) (hx1 : x < 2 ^ 31) (kt : x = 0 → W p l e R s m args below meth c H locs cells slots Q (F0 m tgt ls rest)) (kf : 0 < x → W p l e R s m args below meth c H locs cells slots Q (F0 m (pc + 3) ls rest)) : W p l e R s m args below meth c H locs cells slots Q (F0 m pc ls (.int (nI x) :: rest)) :=
  lv_if_le hx hb hdg ht (fun h => kt (by rcases Nat.eq_zero_or_pos x with z | z; exact z; exact absurd h (nI_nle z hx1))) (fun h => kf (by rcases Nat.eq_zero_or_pos x with z | z; exact absurd (by rw [z, nI_0]; exact Int32.le_refl 0) h; exact z))
theorem rv_if_eq (hx : p.tables.exec = Jvm.exec) (hb : c.code = cc) {x : Nat} {off : Int} {tgt : Nat} (hdg : decode cc pc = .ok (.ifCond .eq off, 3)) (ht : (pc : Int) + off = (tgt : Int)) (hx1 : x < 2 ^ 31) (kt : x = 0 → W p l e R s m args below meth c H locs cells slots Q (F0 m tgt ls rest)) (kf : 0 < x → W p l e R s m args below meth c H locs cells slots Q (F0 m (pc + 3) ls rest)) : W p l e R s m args below meth c H locs cells slots Q (F0 m pc ls (.int (nI x) :: rest)) :=
  lv_if_eq hx hb hdg ht (fun h => kt (by rcases Nat.eq_zero_or_pos x with z | z; exact z; exact absurd h (nI_ne0 z hx1))) (fun h => kf (by rcases Nat.eq_zero_or_pos x with z | z; exact absurd (by rw [z, nI_0]) h; exact z))
theorem rv_if_ne (hx : p.tables.exec = Jvm.exec) (hb : c.code = cc) {x : Nat} {off : Int} {tgt : Nat} (hdg : decode cc pc = .ok (.ifCond .ne off, 3)) (ht : (pc : Int) + off = (tgt : Int)) (hx1 : x < 2 ^ 31) (kt : 0 < x → W p l e R s m args below meth c H locs cells slots Q (F0 m tgt ls rest)) (kf : x = 0 → W p l e R s m args below meth c H locs cells slots Q (F0 m (pc + 3) ls rest)) : W p l e R s m args below meth c H locs cells slots Q (F0 m pc ls (.int (nI x) :: rest)) :=
  lv_if_ne hx hb hdg ht (fun h => kt (by rcases Nat.eq_zero_or_pos x with z | z; exact absurd (by rw [z, nI_0]) h; exact z)) (fun h => kf (by rcases Nat.eq_zero_or_pos x with z | z; exact z; exact absurd h (nI_ne0 z hx1)))
/-- one more -/
theorem rv_inc (hx : p.tables.exec = Jvm.exec) (hb : c.code = cc) {i nL k x : Nat} {lv lv' : List (Nat × Value)} (hdg : decode cc pc = .ok (.iinc i 1, 3)) (h : lv_has ls nL lv) (hk : lv[k]? = some (i, .int (nI x))) (hn : i < nL) (hl : (i, Value.int (nI (x + 1))) :: lv.filter (fun q => !(q.1 == i) && !(q.1 + 1 == i && q.2.category == 2)) = lv') (kk : ∀ ls' : Array Slot, lv_has ls' nL lv' → W p l e R s m args below meth c H locs cells slots Q (F0 m (pc + 3) ls' rest)) : W p l e R s m args below meth c H locs cells slots Q (F0 m pc ls rest) :=
  lv_iinc (v := nI (x + 1)) hx hb hdg h hk (nI_1 x) hn hl kk
/-- one less -/
theorem rv_dec (hx : p.tables.exec = Jvm.exec) (hb : c.code = cc) {i nL k x : Nat} {lv lv' : List (Nat × Value)} (hdg : decode cc pc = .ok (.iinc i (-1), 3)) (h : lv_has ls nL lv) (hk : lv[k]? = some (i, .int (nI (x + 1)))) (hn : i < nL) (hl : (i, Value.int (nI x)) :: lv.filter (fun q => !(q.1 == i) && !(q.1 + 1 == i && q.2.category == 2)) = lv') (kk : ∀ ls' : Array Slot, lv_has ls' nL lv' → W p l e R s m args below meth c H locs cells slots Q (F0 m (pc + 3) ls' rest)) : W p l e R s m args below meth c H locs cells slots Q (F0 m pc ls rest) :=
  lv_iinc (v := nI x) hx hb hdg h hk (pk_m1 x) hn hl kk
/-- a number on top, said otherwise -/
theorem rv_eq {x y : Int32} (h : x = y) (k : W p l e R s m args below meth c H locs cells slots Q (F0 m pc ls (.int y :: rest))) : W p l e R s m args below meth c H locs cells slots Q (F0 m pc ls (.int x :: rest)) := by rw [h]; exact k
theorem rv_eql {x y : Int64} (h : x = y) (k : W p l e R s m args below meth c H locs cells slots Q (F0 m pc ls (.long y :: rest))) : W p l e R s m args below meth c H locs cells slots Q (F0 m pc ls (.long x :: rest)) := by rw [h]; exact k
variable {D : va_G} {cl : List vw_C} {tys : List (ClassId × FieldType)} {ws : va_W} {A : Nat → Prop} {H0 : Heap} {a : Nat}
theorem rv_ald (hx : p.tables.exec = Jvm.exec) (hb : c.code = cc) (hK : va_K D cl tys s) (hP : va_P D cl ws H) (q0 t0 : Nat) {cA : ClassId} {n k : Nat} {f : Nat → Int32} (ha : ws[q0]? = some (a, .inl (cA, n, .inl f))) (ht : tys[t0]? = some (cA, .int)) (hk : k < n) (hn : n < 2 ^ 31) (hdg : decode cc pc = .ok (.iaload, 1)) (kk : W p l e R s m args below meth c H locs cells slots Q (F0 m (pc + 1) ls (.int (f k) :: rest))) : W p l e R s m args below meth c H locs cells slots Q (F0 m pc ls (.int (nI k) :: .ref a :: rest)) :=
  va_iald hx hb hK hP q0 t0 ha ht (vp_in_nI hk hn) hdg (by rw [nI_clamp (by omega)]; exact kk)
theorem rv_ast (hx : p.tables.exec = Jvm.exec) (hb : c.code = cc) (hK : va_K D cl tys s) (hP : va_P D cl ws H) (hD : va_D A ws) (hS : va_S A H0 H locs) (q0 t0 : Nat) {cA : ClassId} {n k : Nat} {f : Nat → Int32} (ha : ws[q0]? = some (a, .inl (cA, n, .inl f))) (ht : tys[t0]? = some (cA, .int)) {x : Int32} (hk : k < n) (hn : n < 2 ^ 31) (hdg : decode cc pc = .ok (.iastore, 1)) (kk : ∀ (H1 : Heap) (locs1 : List Loc), va_P D cl (ws.set q0 (a, .inl (cA, n, .inl (upd f k x)))) H1 → va_D A (ws.set q0 (a, .inl (cA, n, .inl (upd f k x)))) → va_S A H0 H1 locs1 → W p l e R s m args below meth c H1 locs1 cells slots Q (F0 m (pc + 1) ls rest)) : W p l e R s m args below meth c H locs cells slots Q (F0 m pc ls (.int x :: .int (nI k) :: .ref a :: rest)) :=
  va_iast hx hb hK hP hD hS q0 t0 ha ht (vp_in_nI hk hn) hdg (by rw [nI_clamp (show k < 2 ^ 31 by omega)]; exact kk)
theorem rv_ti (hx : p.tables.exec = Jvm.exec) (hb : c.code = cc) {t N k : Nat} {f : Nat → Value} (hT : va_T .int t N f A s s.heap) (hS : va_S A s.heap H locs) (hk : k < N) (hn : N < 2 ^ 31) {v : Value} (hv : f k = v) (hdg : decode cc pc = .ok (.iaload, 1)) (kk : W p l e R s m args below meth c H locs cells slots Q (F0 m (pc + 1) ls (v :: rest))) : W p l e R s m args below meth c H locs cells slots Q (F0 m pc ls (.int (nI k) :: .ref t :: rest)) :=
  va_ti hx hb hT hS (vp_in_nI hk hn) (by rw [nI_clamp (by omega)]; exact hv) hdg kk
/-- a call that changes no cell: what held of the old cells holds -/
theorem rv_calli {r : Int32} {mc ms : Nat} {free : Addr → Prop} {st0 : List Value} {av : Array Value} (hr : va_Run p l e R s m args below meth c H locs cells slots mc ms (F0 m pc ls st0) rest (va_Qi (fun (r' : Int32) (_ : Unit) => r' = r) (fun _ _ => True) (fun _ => False) av) free) (hS : va_S A H0 H locs) (hf : ∀ q, free q → A q)
    (kk : ∀ (H1 : Heap) (locs1 : List Loc), (∀ q : Nat, q < H.size → H1[q]? = H[q]?) → va_S A H0 H1 locs1 → W p l e R s m args below meth c H1 locs1 (cells + mc) (slots + ms) Q (F0 m (pc + 3) ls (.int r :: rest))) : W p l e R s m args below meth c H locs cells slots Q (F0 m pc ls st0) :=
  va_calli hr hS (fun _ _ h => h.elim) hf (fun r' _ _ H1 locs1 _ _ hp _ _ hk hS1 => by rw [hp]; exact kk H1 locs1 (fun q hq => hk q hq id) hS1)
theorem rv_calll {r : Int64} {mc ms : Nat} {free : Addr → Prop} {st0 : List Value} {av : Array Value} (hr : va_Run p l e R s m args below meth c H locs cells slots mc ms (F0 m pc ls st0) rest (va_Ql (fun (r' : Int64) (_ : Unit) => r' = r) (fun _ _ => True) (fun _ => False) av) free) (hS : va_S A H0 H locs) (hf : ∀ q, free q → A q)
    (kk : ∀ (H1 : Heap) (locs1 : List Loc), (∀ q : Nat, q < H.size → H1[q]? = H[q]?) → va_S A H0 H1 locs1 → W p l e R s m args below meth c H1 locs1 (cells + mc) (slots + ms) Q (F0 m (pc + 3) ls (.long r :: rest))) : W p l e R s m args below meth c H locs cells slots Q (F0 m pc ls st0) :=
  va_calll hr hS (fun _ _ h => h.elim) hf (fun r' _ _ H1 locs1 _ _ hp _ _ hk hS1 => by rw [hp]; exact kk H1 locs1 (fun q hq => hk q hq id) hS1)
end RV
theorem rv_kept {D : va_G} {cl : List vw_C} {ws : va_W} {H H1 : Heap} (hP : va_P D cl ws H) (hk : ∀ q : Nat, q < H.size → H1[q]? = H[q]?) : va_P D cl ws H1 := hP.kept (fun k q h => hk q.1 (hP k q h).lt)
/-- the depth's room -/
abbrev rm_ (d : Nat) : Room := { frames := d, cells := 0, slots := 0, locals := 64 * d }
end
section
/-! bits of an Int32 as a set of numbers below 32; the count by folding (the code of Integer.bitCount), the least one, the set without its least -/
def rb_pc : Nat → Nat → Nat
  | 0, _ => 0
  | k + 1, n => n % 2 + rb_pc k (n / 2)
theorem rb_pc_add (j k n : Nat) : rb_pc (j + k) n = rb_pc j n + rb_pc k (n / 2 ^ j) := by
  induction j generalizing n with
  | zero => simp [rb_pc]
  | succ j ih =>
    rw [Nat.succ_add]
    show n % 2 + rb_pc (j + k) (n / 2) = n % 2 + rb_pc j (n / 2) + rb_pc k (n / 2 ^ (j + 1))
    rw [ih, Nat.div_div_eq_div_mul, Nat.pow_succ, Nat.mul_comm 2 (2 ^ j), Nat.add_assoc]
theorem rb_pc8 (a b : Nat) : rb_pc 8 (256 * b + a) = rb_pc 8 a := by
  simp only [rb_pc]
  omega
theorem rb_pc_dig {a b k : Nat} (ha : a < 256) : rb_pc (8 + k) (256 * b + a) = rb_pc 8 a + rb_pc k b := by
  rw [rb_pc_add, rb_pc8, show (256 * b + a) / 2 ^ 8 = b by omega]
/-- a mask works digit by digit -/
theorem rb_dig {a b ma mb : Nat} (ha : a < 256) (hm : ma < 256) : (256 * b + a) &&& (256 * mb + ma) = 256 * (b &&& mb) + (a &&& ma) := by
  apply Nat.eq_of_testBit_eq
  intro i
  have h8 : a &&& ma < 2 ^ 8 := Nat.and_lt_two_pow _ (by omega)
  have e1 := Nat.testBit_two_pow_mul_add b (show a < 2 ^ 8 by omega) i
  have e2 := Nat.testBit_two_pow_mul_add mb (show ma < 2 ^ 8 by omega) i
  have e3 := Nat.testBit_two_pow_mul_add (b &&& mb) h8 i
  rw [show (2 : Nat) ^ 8 = 256 from rfl] at e1 e2 e3
  rw [Nat.testBit_and, e1, e2, e3]
  split <;> simp [Nat.testBit_and]
theorem rb_t1 : ∀ a, a < 256 → ∀ c, c < 2 → (128 * c + a / 2) &&& 85 = (a / 2) &&& 85 ∧ (a / 2) &&& 85 ≤ a := by decide +kernel
theorem rb_t2 : ∀ a, a < 256 → ∀ c, c < 4 → (64 * c + a / 4) &&& 51 = (a / 4) &&& 51 := by decide +kernel
def rb_g1 (a : Nat) : Nat := a - ((a / 2) &&& 85)
def rb_g2 (a : Nat) : Nat := (a &&& 51) + ((a / 4) &&& 51)
theorem rb_g : ∀ a, a < 256 → rb_g1 a < 256 ∧ rb_g2 (rb_g1 a) ≤ 68 ∧ rb_g2 (rb_g1 a) / 16 ≤ 4 ∧ (rb_g2 (rb_g1 a) + rb_g2 (rb_g1 a) / 16) % 16 = rb_pc 8 a ∧ rb_pc 8 a ≤ 8 := by decide +kernel
theorem rb_t3 : ∀ x, x < 256 → x &&& 15 = x % 16 := by decide +kernel
/-- one byte more: the first step -/
theorem rb_s1 {a b m : Nat} (ha : a < 256) (hb : (b / 2) &&& m ≤ b) : (256 * b + a) - (((256 * b + a) / 2) &&& (256 * m + 85)) = 256 * (b - ((b / 2) &&& m)) + rb_g1 a ∧ ((256 * b + a) / 2) &&& (256 * m + 85) ≤ 256 * b + a := by
  have hc : b % 2 < 2 := Nat.mod_lt _ (by omega)
  obtain ⟨h1, h2⟩ := rb_t1 a ha (b % 2) hc
  have e : (256 * b + a) / 2 = 256 * (b / 2) + (128 * (b % 2) + a / 2) := by omega
  rw [e, rb_dig (by omega) (by omega), h1]
  unfold rb_g1
  generalize (b / 2) &&& m = z at hb ⊢
  generalize (a / 2) &&& 85 = w at h2 ⊢
  omega
/-- one byte more: the second step -/
theorem rb_s2 {a b m : Nat} (ha : a < 256) : ((256 * b + a) &&& (256 * m + 51)) + (((256 * b + a) / 4) &&& (256 * m + 51)) = 256 * ((b &&& m) + ((b / 4) &&& m)) + rb_g2 a := by
  have hc : b % 4 < 4 := Nat.mod_lt _ (by omega)
  have h1 := rb_t2 a ha (b % 4) hc
  have e : (256 * b + a) / 4 = 256 * (b / 4) + (64 * (b % 4) + a / 4) := by omega
  rw [e, rb_dig ha (by omega), rb_dig (show 64 * (b % 4) + a / 4 < 256 by omega) (by omega), h1]
  unfold rb_g2
  generalize b &&& m = z
  generalize (b / 4) &&& m = w
  omega
/-- one byte more: the third step -/
theorem rb_s3 {a b m : Nat} (ha : a ≤ 68) (h16 : a / 16 ≤ 4) (hb : b % 16 ≤ 4) : ((256 * b + a) + (256 * b + a) / 16) &&& (256 * m + 15) = 256 * ((b + b / 16) &&& m) + (a + a / 16) % 16 := by
  have e : (256 * b + a) + (256 * b + a) / 16 = 256 * (b + b / 16) + (16 * (b % 16) + a + a / 16) := by omega
  rw [e, rb_dig (by omega) (by omega), rb_t3 _ (by omega)]
  omega
def rb_n1 (n : Nat) : Nat := n - ((n / 2) &&& 1431655765)
def rb_n2 (n : Nat) : Nat := (n &&& 858993459) + ((n / 4) &&& 858993459)
def rb_n3 (n : Nat) : Nat := (n + n / 16) &&& 252645135
theorem rb_m16 {x y : Nat} (h : y % 16 ≤ 4) : (256 * x + y) % 16 ≤ 4 := by omega
theorem rb_gm : ∀ a, a < 256 → rb_g2 (rb_g1 a) % 16 ≤ 4 := by decide +kernel
theorem rb_swar {n : Nat} (hn : n < 4294967296) : rb_n1 n < 4294967296 ∧ (n / 2) &&& 1431655765 ≤ n ∧ rb_n2 (rb_n1 n) ≤ 1145324612 ∧ ∃ p0 p1 p2 p3 : Nat, p0 ≤ 8 ∧ p1 ≤ 8 ∧ p2 ≤ 8 ∧ p3 ≤ 8 ∧ rb_n3 (rb_n2 (rb_n1 n)) = 256 * (256 * (256 * p3 + p2) + p1) + p0 ∧ p0 + p1 + p2 + p3 = rb_pc 32 n := by
  obtain ⟨a0, a1, a2, a3, h0, h1, h2, h3, rfl⟩ : ∃ a0 a1 a2 a3 : Nat, a0 < 256 ∧ a1 < 256 ∧ a2 < 256 ∧ a3 < 256 ∧ n = 256 * (256 * (256 * a3 + a2) + a1) + a0 := ⟨n % 256, n / 256 % 256, n / 65536 % 256, n / 16777216, by omega, by omega, by omega, by omega, by omega⟩
  obtain ⟨q00, q01, q02, q03, q04⟩ := rb_g a0 h0
  obtain ⟨q10, q11, q12, q13, q14⟩ := rb_g a1 h1
  obtain ⟨q20, q21, q22, q23, q24⟩ := rb_g a2 h2
  obtain ⟨q30, q31, q32, q33, q34⟩ := rb_g a3 h3
  have z3 : (a3 / 2) &&& 85 ≤ a3 := (rb_t1 a3 h3 0 (by omega)).2
  obtain ⟨x2, y2⟩ := rb_s1 (a := a2) (b := a3) (m := 85) h2 z3
  obtain ⟨x1, y1⟩ := rb_s1 (a := a1) (b := 256 * a3 + a2) (m := 256 * 85 + 85) h1 y2
  obtain ⟨x0, y0⟩ := rb_s1 (a := a0) (b := 256 * (256 * a3 + a2) + a1) (m := 256 * (256 * 85 + 85) + 85) h0 y1
  have e1 : rb_n1 (256 * (256 * (256 * a3 + a2) + a1) + a0) = 256 * (256 * (256 * rb_g1 a3 + rb_g1 a2) + rb_g1 a1) + rb_g1 a0 := by
    unfold rb_n1
    rw [show (1431655765 : Nat) = 256 * (256 * (256 * 85 + 85) + 85) + 85 from rfl, x0, x1, x2]
    rfl
  have w2 := rb_s2 (a := rb_g1 a2) (b := rb_g1 a3) (m := 51) q20
  have w1 := rb_s2 (a := rb_g1 a1) (b := 256 * rb_g1 a3 + rb_g1 a2) (m := 256 * 51 + 51) q10
  have w0 := rb_s2 (a := rb_g1 a0) (b := 256 * (256 * rb_g1 a3 + rb_g1 a2) + rb_g1 a1) (m := 256 * (256 * 51 + 51) + 51) q00
  have e2 : rb_n2 (256 * (256 * (256 * rb_g1 a3 + rb_g1 a2) + rb_g1 a1) + rb_g1 a0) = 256 * (256 * (256 * rb_g2 (rb_g1 a3) + rb_g2 (rb_g1 a2)) + rb_g2 (rb_g1 a1)) + rb_g2 (rb_g1 a0) := by
    unfold rb_n2
    rw [show (858993459 : Nat) = 256 * (256 * (256 * 51 + 51) + 51) + 51 from rfl, w0, w1, w2]
    rfl
  have m3 := rb_gm a3 h3
  have m2 := rb_gm a2 h2
  have m1 := rb_gm a1 h1
  have f3 : (rb_g2 (rb_g1 a3) + rb_g2 (rb_g1 a3) / 16) &&& 15 = (rb_g2 (rb_g1 a3) + rb_g2 (rb_g1 a3) / 16) % 16 := rb_t3 _ (by omega)
  have v2 := rb_s3 (a := rb_g2 (rb_g1 a2)) (b := rb_g2 (rb_g1 a3)) (m := 15) q21 q22 m3
  have v1 := rb_s3 (a := rb_g2 (rb_g1 a1)) (b := 256 * rb_g2 (rb_g1 a3) + rb_g2 (rb_g1 a2)) (m := 256 * 15 + 15) q11 q12 (rb_m16 m2)
  have v0 := rb_s3 (a := rb_g2 (rb_g1 a0)) (b := 256 * (256 * rb_g2 (rb_g1 a3) + rb_g2 (rb_g1 a2)) + rb_g2 (rb_g1 a1)) (m := 256 * (256 * 15 + 15) + 15) q01 q02 (rb_m16 m1)
  have e3 : rb_n3 (256 * (256 * (256 * rb_g2 (rb_g1 a3) + rb_g2 (rb_g1 a2)) + rb_g2 (rb_g1 a1)) + rb_g2 (rb_g1 a0)) = 256 * (256 * (256 * rb_pc 8 a3 + rb_pc 8 a2) + rb_pc 8 a1) + rb_pc 8 a0 := by
    unfold rb_n3
    rw [show (252645135 : Nat) = 256 * (256 * (256 * 15 + 15) + 15) + 15 from rfl, v0, v1, v2, f3, q03, q13, q23, q33]
  refine ⟨?_, ?_, ?_, rb_pc 8 a0, rb_pc 8 a1, rb_pc 8 a2, rb_pc 8 a3, q04, q14, q24, q34, ?_, ?_⟩
  · rw [e1]; omega
  · exact y0
  · rw [e1, e2]; omega
  · rw [e1, e2, e3]
  · have p0 := rb_pc_dig (a := a0) (b := 256 * (256 * a3 + a2) + a1) (k := 24) h0
    have p1 := rb_pc_dig (a := a1) (b := 256 * a3 + a2) (k := 16) h1
    have p2 := rb_pc_dig (a := a2) (b := a3) (k := 8) h2
    rw [show 8 + 24 = 32 from rfl] at p0
    rw [show 8 + 16 = 24 from rfl] at p1
    rw [show 8 + 8 = 16 from rfl] at p2
    rw [p0, p1, p2]
    omega
theorem rb_pc32 {n : Nat} : rb_pc 32 n ≤ 32 := by
  have h : ∀ k n, rb_pc k n ≤ k := by
    intro k
    induction k with
    | zero => intro n; exact Nat.le_refl 0
    | succ k ih => intro n; show n % 2 + rb_pc k (n / 2) ≤ k + 1; have := ih (n / 2); omega
  exact h 32 n
/-- the whole chain, as naturals -/
theorem rb_chain {n : Nat} (hn : n < 4294967296) {y z : Nat} (hy : y = rb_n3 (rb_n2 (rb_n1 n))) (hz : z = y + y / 256) : y < 4294967296 ∧ z < 4294967296 ∧ z + z / 65536 < 4294967296 ∧ (z + z / 65536) % 64 = rb_pc 32 n := by
  obtain ⟨-, -, -, p0, p1, p2, p3, h0, h1, h2, h3, e, hs⟩ := rb_swar hn
  rw [← hs]
  rw [e] at hy
  have e1 : y / 256 = 256 * (256 * p3 + p2) + p1 := by omega
  have e2 : z = 65536 * (256 * p3 + p2 + p3) + (256 * (p1 + p2) + p0 + p1) := by omega
  have e3 : z / 65536 = 256 * p3 + p2 + p3 := by omega
  refine ⟨by omega, by omega, by omega, ?_⟩
  rw [e3, e2]
  omega
theorem rb_pc_len (k n : Nat) : rb_pc k n = ((List.range k).filter (fun i => n.testBit i)).length := by
  induction k generalizing n with
  | zero => rfl
  | succ k ih =>
    have hc : (fun i => n.testBit i) ∘ Nat.succ = fun i => (n / 2).testBit i := funext fun i => Nat.testBit_succ n i
    rw [List.range_succ_eq_map, List.filter_cons, List.filter_map, hc]
    show n % 2 + rb_pc k (n / 2) = _
    rw [ih]
    rcases Nat.mod_two_eq_zero_or_one n with h | h
    · simp [Nat.testBit_zero, h]
    · simp [Nat.testBit_zero, h]
      omega
/-- the bit i of x -/
def rb_b (x : Int32) (i : Nat) : Bool := x.toBitVec.toNat.testBit i
/-- the numbers below 32 whose bits x has, going up -/
def rb_els (x : Int32) : List Nat := (List.range 32).filter (fun i => rb_b x i)
def rb_cnt (x : Int32) : Nat := (rb_els x).length
theorem rb_mem {x : Int32} {i : Nat} : i ∈ rb_els x ↔ i < 32 ∧ rb_b x i = true := by
  unfold rb_els
  rw [List.mem_filter, List.mem_range]
theorem rb_of (x : Int32) : x = nI x.toBitVec.toNat := by
  apply Int32.toBitVec_inj.1
  show x.toBitVec = BitVec.ofNat 32 x.toBitVec.toNat
  simp
theorem rb_lt (x : Int32) : x.toBitVec.toNat < 4294967296 := x.toBitVec.isLt
theorem rb_tn {n : Nat} (h : n < 4294967296) : (nI n).toBitVec.toNat = n := pk_tn h
theorem rb_bN {n i : Nat} (h : n < 4294967296) : rb_b (nI n) i = n.testBit i := by
  unfold rb_b
  rw [rb_tn h]
theorem rb_cnt_pc (x : Int32) : rb_cnt x = rb_pc 32 x.toBitVec.toNat := (rb_pc_len 32 _).symm
theorem rb_cnt_le (x : Int32) : rb_cnt x ≤ 32 := by
  rw [rb_cnt_pc]
  exact rb_pc32
theorem rb_and (a b : Nat) : nI a &&& nI b = nI (a &&& b) := by
  apply Int32.toBitVec_inj.1
  show BitVec.ofNat 32 a &&& BitVec.ofNat 32 b = BitVec.ofNat 32 (a &&& b)
  apply BitVec.eq_of_getLsbD_eq
  intro i hi
  simp [hi]
theorem rb_ext {x y : Int32} (h : ∀ i, i < 32 → rb_b x i = rb_b y i) : x = y := Int32.toBitVec_inj.mp (BitVec.eq_of_getLsbD_eq (fun i hi => h i hi))
/-- a number by its least bit -/
theorem rb_low {n i : Nat} (h1 : n.testBit i = true) (h0 : ∀ j, j < i → n.testBit j = false) : ∃ k, n = 2 ^ (i + 1) * k + 2 ^ i := by
  have hm : n % 2 ^ i = 0 := by
    apply Nat.eq_of_testBit_eq
    intro j
    rw [Nat.testBit_mod_two_pow, Nat.zero_testBit]
    by_cases h : j < i
    · rw [h0 j h]; simp
    · simp [h]
  have ho : n / 2 ^ i % 2 = 1 := by
    rw [Nat.testBit_eq_decide_div_mod_eq] at h1
    exact of_decide_eq_true h1
  have hd := Nat.div_add_mod n (2 ^ i)
  rw [hm] at hd
  refine ⟨n / 2 ^ i / 2, ?_⟩
  have hq : n / 2 ^ i = 2 * (n / 2 ^ i / 2) + 1 := by omega
  generalize n / 2 ^ i / 2 = k at hq ⊢
  rw [hq] at hd
  rw [← hd, Nat.pow_succ, Nat.mul_add, Nat.mul_one, Nat.add_zero, Nat.mul_assoc]
theorem rb_bit_n {i k j : Nat} : (2 ^ (i + 1) * k + 2 ^ i).testBit j = if j < i + 1 then decide (i = j) else k.testBit (j - (i + 1)) := by
  rw [Nat.testBit_two_pow_mul_add k (show 2 ^ i < 2 ^ (i + 1) from Nat.pow_lt_pow_right (by omega) (by omega)), Nat.testBit_two_pow]
theorem rb_bit_p {i k j : Nat} : (2 ^ (i + 1) * k + 2 ^ i - 1).testBit j = if j < i + 1 then decide (j < i) else k.testBit (j - (i + 1)) := by
  have h2 : 0 < 2 ^ i := Nat.two_pow_pos i
  have h3 : 2 ^ i < 2 ^ (i + 1) := Nat.pow_lt_pow_right (by omega) (by omega)
  rw [show 2 ^ (i + 1) * k + 2 ^ i - 1 = 2 ^ (i + 1) * k + (2 ^ i - 1) by omega, Nat.testBit_two_pow_mul_add k (show 2 ^ i - 1 < 2 ^ (i + 1) by omega), Nat.testBit_two_pow_sub_one]
/-- without its least bit -/
theorem rb_wl {n i : Nat} (h1 : n.testBit i = true) (h0 : ∀ j, j < i → n.testBit j = false) (j : Nat) : (n &&& (n - 1)).testBit j = (n.testBit j && decide (j ≠ i)) := by
  obtain ⟨k, rfl⟩ := rb_low h1 h0
  rw [Nat.testBit_and, rb_bit_n, rb_bit_p]
  by_cases h : j < i + 1
  · rw [if_pos h, if_pos h]
    by_cases e : i = j
    · subst e; simp
    · simp [e]
  · rw [if_neg h, if_neg h]
    have : j ≠ i := by omega
    simp [this]
/-- the least bit alone -/
theorem rb_iso {n i : Nat} (hn : n < 4294967296) (h1 : n.testBit i = true) (h0 : ∀ j, j < i → n.testBit j = false) (hi : i < 32) : n &&& (4294967296 - n) = 2 ^ i := by
  obtain ⟨k, rfl⟩ := rb_low h1 h0
  have hp : 2 ^ (i + 1) * 2 ^ (31 - i) = 4294967296 := by rw [← Nat.pow_add, show i + 1 + (31 - i) = 32 by omega]
  have hpi : 2 ^ (i + 1) = 2 ^ i + 2 ^ i := by rw [Nat.pow_succ]; omega
  have hk : k < 2 ^ (31 - i) := by
    rcases Nat.lt_or_ge k (2 ^ (31 - i)) with z | z
    · exact z
    · exfalso
      have h9 := Nat.mul_le_mul_left (2 ^ (i + 1)) z
      have h8 := Nat.two_pow_pos i
      rw [hp] at h9
      omega
  have e : 4294967296 - (2 ^ (i + 1) * k + 2 ^ i) = 2 ^ (i + 1) * (2 ^ (31 - i) - (k + 1)) + 2 ^ i := by
    rw [Nat.mul_sub, hp, Nat.mul_add, Nat.mul_one]
    have : 2 ^ (i + 1) * (k + 1) ≤ 2 ^ (i + 1) * 2 ^ (31 - i) := Nat.mul_le_mul_left _ hk
    rw [hp, Nat.mul_add, Nat.mul_one] at this
    omega
  rw [e]
  apply Nat.eq_of_testBit_eq
  intro j
  rw [Nat.testBit_and, rb_bit_n, rb_bit_n, Nat.testBit_two_pow]
  by_cases h : j < i + 1
  · rw [if_pos h, if_pos h]; simp
  · rw [if_neg h, if_neg h, Nat.testBit_two_pow_sub_succ hk]
    have : ¬ i = j := by omega
    rw [decide_eq_false this]
    cases k.testBit (j - (i + 1)) <;> simp
theorem rb_ones : ∀ i, i < 33 → rb_pc 32 (2 ^ i - 1) = i := by decide +kernel
theorem rb_nil {x : Int32} (h : rb_els x = []) : x = 0 := by
  apply rb_ext
  intro i hi
  have h0 : rb_b 0 i = false := by
    show (0 : Int32).toBitVec.toNat.testBit i = false
    rw [show (0 : Int32).toBitVec.toNat = 0 from rfl, Nat.zero_testBit]
  rw [h0]
  cases hb : rb_b x i
  · rfl
  · have : i ∈ rb_els x := rb_mem.mpr ⟨hi, hb⟩
    rw [h] at this
    cases this
theorem rb_head {x : Int32} {i : Nat} {r : List Nat} (h : rb_els x = i :: r) : i < 32 ∧ rb_b x i = true ∧ (∀ j, j < i → rb_b x j = false) ∧ i ∉ r := by
  have hm : i ∈ rb_els x := by rw [h]; exact List.mem_cons_self
  have hp : (rb_els x).Pairwise (· < ·) := List.Pairwise.filter _ (List.pairwise_lt_range)
  rw [h, List.pairwise_cons] at hp
  obtain ⟨h1, h2⟩ := rb_mem.mp hm
  refine ⟨h1, h2, fun j hj => ?_, fun hr => Nat.lt_irrefl i (hp.1 i hr)⟩
  cases hb : rb_b x j
  · rfl
  · have hj2 : j ∈ rb_els x := rb_mem.mpr ⟨by omega, hb⟩
    rw [h] at hj2
    rcases List.mem_cons.mp hj2 with rfl | hr
    · omega
    · have := hp.1 j hr
      omega
theorem rb_sub1 {n : Nat} (h : 0 < n) : nI n - 1 = nI (n - 1) := pk_sub (show 1 ≤ n from h)
/-- x & (x - 1) -/
theorem rb_rest {x : Int32} {i : Nat} {r : List Nat} (h : rb_els x = i :: r) : rb_els (x &&& (x - 1)) = r := by
  obtain ⟨h1, h2, h3, h4⟩ := rb_head h
  have hlt := rb_lt x
  have hpos : 0 < x.toBitVec.toNat := by
    rcases Nat.eq_zero_or_pos x.toBitVec.toNat with z | z
    · unfold rb_b at h2
      rw [z, Nat.zero_testBit] at h2
      cases h2
    · exact z
  have e : x &&& (x - 1) = nI (x.toBitVec.toNat &&& (x.toBitVec.toNat - 1)) := by
    conv => lhs; rw [rb_of x]
    rw [rb_sub1 hpos, rb_and]
  have hl2 : x.toBitVec.toNat &&& (x.toBitVec.toNat - 1) < 4294967296 := Nat.lt_of_le_of_lt Nat.and_le_left hlt
  have hb : ∀ j, rb_b (x &&& (x - 1)) j = (rb_b x j && decide (j ≠ i)) := fun j => by
    rw [e, rb_bN hl2, rb_wl h2 h3 j]
    rfl
  unfold rb_els
  rw [show (fun j => rb_b (x &&& (x - 1)) j) = fun j => decide (j ≠ i) && rb_b x j from funext fun j => by rw [hb j, Bool.and_comm], ← List.filter_filter]
  show (rb_els x).filter _ = r
  rw [h, List.filter_cons_of_neg (by simp), List.filter_eq_self]
  intro a ha
  have : a ≠ i := fun z => h4 (z ▸ ha)
  simp [this]
def rb_least (x : Int32) : Nat := match rb_els x with
  | [] => 32
  | i :: _ => i
theorem rb_neg {n : Nat} (h : 0 < n) (h2 : n < 4294967296) : -nI n = nI (4294967296 - n) := by
  apply Int32.toBitVec_inj.1
  apply BitVec.eq_of_toNat_eq
  rw [Int32.toBitVec_neg, BitVec.toNat_neg, rb_tn h2, rb_tn (by omega)]
  omega
/-- the count of (x & -x) - 1 -/
theorem rb_leastE (x : Int32) : rb_cnt ((x &&& -x) - 1) = rb_least x := by
  unfold rb_least
  cases h : rb_els x with
  | nil =>
    rw [rb_nil h]
    decide +kernel
  | cons i r =>
    obtain ⟨h1, h2, h3, h4⟩ := rb_head h
    have hlt := rb_lt x
    have hpos : 0 < x.toBitVec.toNat := by
      rcases Nat.eq_zero_or_pos x.toBitVec.toNat with z | z
      · unfold rb_b at h2
        rw [z, Nat.zero_testBit] at h2
        cases h2
      · exact z
    have e : x &&& -x = nI (2 ^ i) := by
      conv => lhs; rw [rb_of x]
      rw [rb_neg hpos hlt, rb_and, rb_iso hlt h2 h3 h1]
    have h2i : 2 ^ i < 4294967296 := by
      have : 2 ^ i < 2 ^ 32 := Nat.pow_lt_pow_right (by omega) h1
      omega
    have hp : 0 < 2 ^ i := Nat.two_pow_pos i
    rw [e, rb_sub1 hp, rb_cnt_pc, rb_tn (by omega)]
    exact rb_ones i (by omega)
/-- the whole of Integer.bitCount, as its code has it -/
theorem rb_bc {x i1 i2 i3 i4 i5 u1 u2 u3 u4 u5 : Int32}
    (hu1 : (x.toUInt32 >>> ((1 : Int32).toUInt32 &&& Int32.toUInt32 31)).toInt32 = u1) (h1 : i1 = x - (u1 &&& 1431655765))
    (hu2 : (i1.toUInt32 >>> ((2 : Int32).toUInt32 &&& Int32.toUInt32 31)).toInt32 = u2) (h2 : i2 = (i1 &&& 858993459) + (u2 &&& 858993459))
    (hu3 : (i2.toUInt32 >>> ((4 : Int32).toUInt32 &&& Int32.toUInt32 31)).toInt32 = u3) (h3 : i3 = (i2 + u3) &&& 252645135)
    (hu4 : (i3.toUInt32 >>> ((8 : Int32).toUInt32 &&& Int32.toUInt32 31)).toInt32 = u4) (h4 : i4 = i3 + u4)
    (hu5 : (i4.toUInt32 >>> ((16 : Int32).toUInt32 &&& Int32.toUInt32 31)).toInt32 = u5) (h5 : i5 = i4 + u5) : i5 &&& 63 = nI (rb_cnt x) := by
  have hn := rb_lt x
  rw [rb_cnt_pc]
  obtain ⟨s1, s2, s3, -⟩ := rb_swar hn
  obtain ⟨c1, c2, c3, c4⟩ := rb_chain hn rfl rfl
  generalize hN : x.toBitVec.toNat = n at hn s1 s2 s3 c1 c2 c3 c4 ⊢
  have ex : x = nI n := by rw [← hN]; exact rb_of x
  have e1 : i1 = nI (rb_n1 n) := by
    rw [h1, ← hu1, ex, pk_ushrN hn 1 1 (by decide), show (1431655765 : Int32) = nI 1431655765 from rfl, rb_and]
    exact pk_sub s2
  have e2 : i2 = nI (rb_n2 (rb_n1 n)) := by
    rw [h2, ← hu2, e1, pk_ushrN s1 2 2 (by decide), show (858993459 : Int32) = nI 858993459 from rfl, rb_and, rb_and, nI_add]
    rfl
  have e3 : i3 = nI (rb_n3 (rb_n2 (rb_n1 n))) := by
    rw [h3, ← hu3, e2, pk_ushrN (by omega) 4 4 (by decide), nI_add, show (252645135 : Int32) = nI 252645135 from rfl, rb_and]
    rfl
  have e4 : i4 = nI (rb_n3 (rb_n2 (rb_n1 n)) + rb_n3 (rb_n2 (rb_n1 n)) / 256) := by
    rw [h4, ← hu4, e3, pk_ushrN c1 8 8 (by decide), nI_add]
  rw [h5, ← hu5, e4, pk_ushrN c2 16 16 (by decide), nI_add, show (63 : Int32) = nI 63 from rfl, rb_and, show (63 : Nat) = 2 ^ 6 - 1 from rfl, Nat.and_two_pow_sub_one_eq_mod]
  rw [show (2 : Nat) ^ 6 = 64 from rfl]
  exact congrArg nI c4
end
section
/-! letters: ten digits to the base 64, the lowest first; 0 is free, a term and one more when it is bound -/
def rt_pk : List Nat → Nat
  | [] => 0
  | x :: xs => x + 64 * rt_pk xs
def rt_ok (ds : List Nat) : Prop := ds.length = 10 ∧ ∀ x ∈ ds, x ≤ 32
def rt_i : Option Nat → Int32
  | none => -1
  | some t => nI t
def rt_l : Option (List Nat) → Int64
  | none => -1
  | some ds => lN (rt_pk ds)
def rt_term (k : Nat) (ds : List Nat) : Option Nat := if k < 32 then some k else match ds.getD (k - 32) 0 with
  | 0 => none
  | t + 1 => some t
def rt_bind (k t : Nat) (ds : List Nat) : Option (List Nat) := match rt_term k ds with
  | none => some (ds.set (k - 32) (t + 1))
  | some u => if u = t then some ds else none
def rt_fit (k1 k2 k3 c : Nat) (ds : List Nat) : Option (List Nat) := (rt_bind k2 (c / 32 % 32) ds).bind fun ds => (rt_bind k1 (c / 32 / 32) ds).bind fun ds => rt_bind k3 (c % 32) ds
def rt_free : List Nat := List.replicate 10 0
theorem rt_free_ok : rt_ok rt_free := ⟨rfl, fun x h => by rw [List.eq_of_mem_replicate h]; exact Nat.zero_le _⟩
theorem rt_free_pk : rt_pk rt_free = 0 := rfl
theorem rt_pk_lt : ∀ (ds : List Nat), (∀ x ∈ ds, x ≤ 32) → rt_pk ds < 64 ^ ds.length
  | [], _ => by decide
  | x :: xs, h => by
    have h1 := rt_pk_lt xs (fun y hy => h y (List.mem_cons_of_mem _ hy))
    have h2 := h x List.mem_cons_self
    show x + 64 * rt_pk xs < 64 ^ (xs.length + 1)
    rw [Nat.pow_succ]
    omega
theorem rt_ok_lt {ds : List Nat} (h : rt_ok ds) : rt_pk ds < 1152921504606846976 := by
  have := rt_pk_lt ds h.2
  rw [h.1] at this
  exact this
theorem rt_pk_dig : ∀ (j : Nat) (ds : List Nat), (∀ x ∈ ds, x ≤ 32) → rt_pk ds / 64 ^ j % 64 = ds.getD j 0
  | _, [], _ => by simp [rt_pk]
  | 0, x :: xs, h => by
    have h2 := h x List.mem_cons_self
    show (x + 64 * rt_pk xs) / 64 ^ 0 % 64 = x
    rw [Nat.pow_zero, Nat.div_one]
    omega
  | j + 1, x :: xs, h => by
    have h1 := rt_pk_dig j xs (fun y hy => h y (List.mem_cons_of_mem _ hy))
    have h2 := h x List.mem_cons_self
    show (x + 64 * rt_pk xs) / 64 ^ (j + 1) % 64 = xs.getD j 0
    rw [← h1, Nat.pow_succ, Nat.mul_comm (64 ^ j) 64, ← Nat.div_div_eq_div_mul, show (x + 64 * rt_pk xs) / 64 = rt_pk xs by omega]
theorem rt_or64 (x y a b : Nat) (hx : x < 64) (hy : y < 64) : (x + 64 * a) ||| (y + 64 * b) = (x ||| y) + 64 * (a ||| b) := by
  have h8 : x ||| y < 2 ^ 6 := Nat.or_lt_two_pow hx hy
  apply Nat.eq_of_testBit_eq
  intro i
  have e1 := Nat.testBit_two_pow_mul_add a (show x < 2 ^ 6 from hx) i
  have e2 := Nat.testBit_two_pow_mul_add b (show y < 2 ^ 6 from hy) i
  have e3 := Nat.testBit_two_pow_mul_add (a ||| b) h8 i
  rw [show (2 : Nat) ^ 6 = 64 from rfl] at e1 e2 e3
  rw [Nat.add_comm x, Nat.add_comm y, Nat.add_comm (x ||| y), Nat.testBit_or, e1, e2, e3]
  split <;> simp [Nat.testBit_or]
theorem rt_pk_or : ∀ (j v : Nat) (ds : List Nat), (∀ x ∈ ds, x ≤ 32) → v < 64 → j < ds.length → ds.getD j 0 = 0 → rt_pk ds ||| v * 64 ^ j = rt_pk (ds.set j v)
  | _, _, [], _, _, hl, _ => absurd hl (Nat.not_lt_zero _)
  | 0, v, x :: xs, h, hv, _, h0 => by
    have hx : x = 0 := h0
    subst hx
    show (0 + 64 * rt_pk xs) ||| v * 64 ^ 0 = v + 64 * rt_pk xs
    have e := rt_or64 0 v (rt_pk xs) 0 (by omega) hv
    rw [Nat.pow_zero, Nat.mul_one]
    simpa using e
  | j + 1, v, x :: xs, h, hv, hl, h0 => by
    have hx := h x List.mem_cons_self
    have ih := rt_pk_or j v xs (fun y hy => h y (List.mem_cons_of_mem _ hy)) hv (Nat.lt_of_succ_lt_succ hl) h0
    show (x + 64 * rt_pk xs) ||| v * 64 ^ (j + 1) = x + 64 * rt_pk (xs.set j v)
    have e := rt_or64 x 0 (rt_pk xs) (v * 64 ^ j) (by omega) (by omega)
    rw [Nat.pow_succ, ← Nat.mul_assoc, Nat.mul_comm (v * 64 ^ j) 64, ← ih]
    simpa using e
theorem rt_set_ok {ds : List Nat} (h : rt_ok ds) {j v : Nat} (hv : v ≤ 32) : rt_ok (ds.set j v) := by
  refine ⟨by rw [List.length_set]; exact h.1, fun x hx => ?_⟩
  rcases List.mem_or_eq_of_mem_set hx with z | z
  · exact h.2 x z
  · rw [z]; exact hv
theorem rt_bind_ok {k t : Nat} {ds ds' : List Nat} (h : rt_ok ds) (ht : t < 32) (hb : rt_bind k t ds = some ds') : rt_ok ds' := by
  unfold rt_bind at hb
  split at hb
  · cases hb
    exact rt_set_ok h (by omega)
  · split at hb
    · cases hb; exact h
    · cases hb
theorem rt_fit_ok {k1 k2 k3 c : Nat} {ds ds' : List Nat} (h : rt_ok ds) (hc : c < 32768) (hb : rt_fit k1 k2 k3 c ds = some ds') : rt_ok ds' := by
  unfold rt_fit at hb
  obtain ⟨d1, h1, hb⟩ := Option.bind_eq_some_iff.mp hb
  obtain ⟨d2, h2, hb⟩ := Option.bind_eq_some_iff.mp hb
  exact rt_bind_ok (rt_bind_ok (rt_bind_ok h (by omega) h1) (by omega) h2) (by omega) hb
theorem rt_l_ne {ds : List Nat} (h : rt_ok ds) : ¬ lN (rt_pk ds) = -1 := by
  intro e
  have h1 := rt_ok_lt h
  have h2 := pk_lT (n := rt_pk ds) (by omega)
  rw [e] at h2
  have h3 : (-1 : Int64).toInt = -1 := by decide
  rw [h3] at h2
  omega
/-- the digit behind a letter, as termOf has it -/
theorem rt_termE {k : Nat} {ds : List Nat} (h : rt_ok ds) (hk : 32 ≤ k) : nI (rt_pk ds / 64 ^ (k - 32) % 64) - 1 = rt_i (rt_term k ds) := by
  rw [rt_pk_dig _ _ h.2]
  unfold rt_term
  rw [if_neg (by omega)]
  cases ds.getD (k - 32) 0 with
  | zero => decide
  | succ t => exact nI_pred t
theorem rt_p64 (j : Nat) : 2 ^ (6 * j) = 64 ^ j := by rw [Nat.pow_mul]
theorem rt_shr {ds : List Nat} (h : rt_ok ds) {j : Nat} (hj : j < 10) : ((lN (rt_pk ds)).toUInt64 >>> ((nI (6 * j)).toInt64.toUInt64 &&& Int64.toUInt64 63)).toInt64 = lN (rt_pk ds / 64 ^ j) := by
  have := rt_ok_lt h
  rw [wb_shr (by omega) (by omega), rt_p64]
theorem rt_mask {n : Nat} (h : n < 2 ^ 64) : lN n &&& lN 63 = lN (n % 64) := wb_mask (k := 6) h (by decide)
theorem rt_mask2 {ds : List Nat} (h : rt_ok ds) (j : Nat) : lN (rt_pk ds / 64 ^ j) &&& lN 63 = lN (rt_pk ds / 64 ^ j % 64) := by
  have h1 := rt_ok_lt h
  have h2 : rt_pk ds / 64 ^ j ≤ rt_pk ds := Nat.div_le_self _ _
  exact rt_mask (by omega)
theorem rt_shl {t j : Nat} (hj : j < 10) : lN (t + 1) <<< ((nI (6 * j)).toInt64 &&& 63) = lN ((t + 1) * 64 ^ j) := by
  rw [wb_shl _ (by omega), rt_p64]
theorem rt_lor {ds : List Nat} (h : rt_ok ds) {j t : Nat} (hj : j < 10) (ht : t < 32) (h0 : ds.getD j 0 = 0) : lN (rt_pk ds) ||| lN ((t + 1) * 64 ^ j) = lN (rt_pk (ds.set j (t + 1))) := by
  have h1 := rt_ok_lt h
  have h2 : 64 ^ j ≤ 64 ^ 9 := Nat.pow_le_pow_right (by omega) (by omega)
  have h3 : (t + 1) * 64 ^ j ≤ 32 * 64 ^ 9 := Nat.mul_le_mul (by omega) h2
  have h4 : (32 : Nat) * 64 ^ 9 < 2 ^ 64 := by decide
  rw [wb_or (by omega) (by omega), rt_pk_or j (t + 1) ds h.2 (by omega) (by rw [h.1]; exact hj) h0]
theorem rt_none {k : Nat} {ds : List Nat} (h : rt_term k ds = none) : 32 ≤ k ∧ ds.getD (k - 32) 0 = 0 := by
  unfold rt_term at h
  split at h
  · cases h
  · rename_i hk
    split at h
    · rename_i hd
      exact ⟨by omega, hd⟩
    · cases h
theorem rt_term_lt {k u : Nat} {ds : List Nat} (hd : rt_ok ds) (h : rt_term k ds = some u) : u < 32 := by
  unfold rt_term at h
  split at h
  · cases h; assumption
  · split at h
    · cases h
    · rename_i hu
      cases h
      by_cases hl : k - 32 < ds.length
      · have : ds.getD (k - 32) 0 ∈ ds := by
          rw [List.getD_eq_getElem?_getD, List.getElem?_eq_getElem hl]
          exact List.getElem_mem hl
        have := hd.2 _ this
        omega
      · rw [List.getD_eq_getElem?_getD, List.getElem?_eq_none (by omega)] at hu
        cases hu
theorem rt_nm1 {u : Nat} (h : u < 2 ^ 31) : ¬ nI u = -1 := by
  intro e
  have h1 := nI_toInt h
  rw [e] at h1
  have h2 : (-1 : Int32).toInt = -1 := by decide
  rw [h2] at h1
  omega
theorem rt_cmp0 (x : Int64) : lg_cmp x x = nI 0 := by simp [lg_cmp, nI_0]
theorem rt_cmp_ne {ds : List Nat} (h : rt_ok ds) : ¬ lg_cmp (lN (rt_pk ds)) (-1) = 0 := by
  intro e
  have hne := rt_l_ne h
  unfold lg_cmp at e
  split at e
  · exact absurd e (by decide)
  · exact absurd e (by decide)
end
section
/-! triples as sets of bits: what each row of ints holds of a set X of codes; going through by codes -/
theorem ry_filter {α β : Type} (P : α → Bool) (G : α → List β) : ∀ (l : List α), (∀ a ∈ l, P a = false → G a = []) → (l.filter P).flatMap G = l.flatMap G
  | [], _ => rfl
  | a :: l, h => by
    have ih := ry_filter P G l (fun b hb => h b (List.mem_cons_of_mem _ hb))
    rw [List.filter_cons]
    cases hp : P a with
    | true => rw [if_pos rfl, List.flatMap_cons, List.flatMap_cons, ih]
    | false =>
      rw [if_neg (by simp), List.flatMap_cons, ih, h a List.mem_cons_self hp]
      rfl
theorem ry_congr {α β : Type} {F G : α → List β} : ∀ {l : List α}, (∀ a ∈ l, F a = G a) → l.flatMap F = l.flatMap G
  | [], _ => rfl
  | a :: l, h => by rw [List.flatMap_cons, List.flatMap_cons, h a List.mem_cons_self, ry_congr (fun b hb => h b (List.mem_cons_of_mem _ hb))]
theorem ry_range (b : Nat) : ∀ a : Nat, List.range (a * b) = (List.range a).flatMap (fun i => (List.range b).map (fun j => i * b + j))
  | 0 => by simp
  | a + 1 => by
    rw [List.range_succ, List.flatMap_append, ← ry_range b a, Nat.succ_mul, List.range_add]
    simp
theorem ry_one {i : Nat} (hi : i < 32) : ∀ j, j < 32 → rb_b ((1 : Int32) <<< (nI i &&& 31)) j = decide (j = i) := by
  have h : ∀ i, i < 32 → ∀ j, j < 32 → rb_b ((1 : Int32) <<< (nI i &&& 31)) j = decide (j = i) := by decide +kernel
  exact h i hi
theorem ry_big {x : Int32} {j : Nat} (h : 32 ≤ j) : rb_b x j = false := by
  unfold rb_b
  exact Nat.testBit_lt_two_pow (Nat.lt_of_lt_of_le x.toBitVec.isLt (Nat.pow_le_pow_right (by omega) h))
theorem ry_or (x y : Int32) (j : Nat) : rb_b (x ||| y) j = (rb_b x j || rb_b y j) := by
  unfold rb_b
  rw [Int32.toBitVec_or, BitVec.toNat_or, Nat.testBit_or]
theorem ry_and (x y : Int32) (j : Nat) : rb_b (x &&& y) j = (rb_b x j && rb_b y j) := by
  unfold rb_b
  rw [Int32.toBitVec_and, BitVec.toNat_and, Nat.testBit_and]
theorem ry_xor (x y : Int32) (j : Nat) : rb_b (x ^^^ y) j = (rb_b x j ^^ rb_b y j) := by
  unfold rb_b
  rw [Int32.toBitVec_xor, BitVec.toNat_xor, Nat.testBit_xor]
theorem ry_set (x : Int32) {i : Nat} (hi : i < 32) {j : Nat} (hj : j < 32) : rb_b (x ||| ((1 : Int32) <<< (nI i &&& 31))) j = (rb_b x j || decide (j = i)) := by
  rw [ry_or, ry_one hi j hj]
theorem ry_test (x : Int32) {i : Nat} (hi : i < 32) : (x &&& ((1 : Int32) <<< (nI i &&& 31))) = 0 ↔ rb_b x i = false := by
  constructor
  · intro h
    have h1 := ry_and x ((1 : Int32) <<< (nI i &&& 31)) i
    rw [h, ry_one hi i hi] at h1
    have h0 : rb_b 0 i = false := by
      show (0 : Int32).toBitVec.toNat.testBit i = false
      rw [show (0 : Int32).toBitVec.toNat = 0 from rfl, Nat.zero_testBit]
    rw [h0] at h1
    simpa using h1.symm
  · intro h
    apply rb_ext
    intro j hj
    have h0 : rb_b 0 j = false := by
      show (0 : Int32).toBitVec.toNat.testBit j = false
      rw [show (0 : Int32).toBitVec.toNat = 0 from rfl, Nat.zero_testBit]
    rw [ry_and, ry_one hi j hj, h0]
    by_cases e : j = i
    · rw [e, h]; rfl
    · simp [e]
/-- the code of three terms -/
def rx_code (s p o : Nat) : Nat := (s * 32 + p) * 32 + o
theorem rx_code_s {s p o : Nat} (hp : p < 32) (ho : o < 32) : rx_code s p o / 32 / 32 = s := by unfold rx_code; omega
theorem rx_code_p {s p o : Nat} (hp : p < 32) (ho : o < 32) : rx_code s p o / 32 % 32 = p := by unfold rx_code; omega
theorem rx_code_o {s p o : Nat} (ho : o < 32) : rx_code s p o % 32 = o := by unfold rx_code; omega
theorem rx_code_lt {s p o : Nat} (hs : s < 32) (hp : p < 32) (ho : o < 32) : rx_code s p o < 32768 := by unfold rx_code; omega
theorem rx_code_of (c : Nat) : rx_code (c / 32 / 32) (c / 32 % 32) (c % 32) = c := by unfold rx_code; omega
/-- what the rows hold of a set -/
def rx_TR (X : Nat → Bool) (f g h : Nat → Int32) (al : Int32) : Prop :=
  (∀ s p o, s < 32 → p < 32 → o < 32 → rb_b (f (s * 32 + p)) o = X (rx_code s p o)) ∧
  (∀ p s, p < 32 → s < 32 → (rb_b (g p) s = true ↔ ∃ o, o < 32 ∧ X (rx_code s p o) = true)) ∧
  (∀ s p, s < 32 → p < 32 → (rb_b (h s) p = true ↔ ∃ o, o < 32 ∧ X (rx_code s p o) = true)) ∧
  (∀ s, s < 32 → (rb_b al s = true ↔ ∃ p o, p < 32 ∧ o < 32 ∧ X (rx_code s p o) = true))
/-- the codes of a set, going up -/
def rx_codes (X : Nat → Bool) : List Nat := (List.range 32768).filter X
theorem rx_codes_mem {X : Nat → Bool} {c : Nat} : c ∈ rx_codes X ↔ c < 32768 ∧ X c = true := by
  unfold rx_codes
  rw [List.mem_filter, List.mem_range]
theorem rx_split : List.range 32768 = (List.range 32).flatMap (fun s => (List.range 32).flatMap (fun p => (List.range 32).map (fun o => rx_code s p o))) := by
  have h1 := ry_range 32 1024
  have h2 := ry_range 32 32
  rw [show 1024 * 32 = 32768 from rfl] at h1
  rw [show 32 * 32 = 1024 from rfl] at h2
  rw [h1, h2, List.flatMap_assoc]
  apply ry_congr
  intro s _
  rw [List.flatMap_map]
  rfl
def rx_ss (g : Nat → Int32) (al : Int32) (ks kp : Option Nat) : Int32 := match ks with
  | some s => (1 : Int32) <<< (nI s &&& 31)
  | none => match kp with
    | some p => g p
    | none => al
def rx_ps (h : Nat → Int32) (s : Nat) (kp : Option Nat) : Int32 := match kp with
  | some p => (1 : Int32) <<< (nI p &&& 31)
  | none => h s
def rx_os (f : Nat → Int32) (s p : Nat) (ko : Option Nat) : Int32 := match ko with
  | some o => f (s * 32 + p) &&& ((1 : Int32) <<< (nI o &&& 31))
  | none => f (s * 32 + p)
/-- the codes that three loops go through -/
def rx_trav (f g h : Nat → Int32) (al : Int32) (ks kp ko : Option Nat) : List Nat := (rb_els (rx_ss g al ks kp)).flatMap (fun s => (rb_els (rx_ps h s kp)).flatMap (fun p => (rb_els (rx_os f s p ko)).map (fun o => rx_code s p o)))
theorem rx_trav_all {β : Type} {X : Nat → Bool} {f g h : Nat → Int32} {al : Int32} (hT : rx_TR X f g h al) {ks kp ko : Option Nat} (hs : ∀ s, ks = some s → s < 32) (hp : ∀ p, kp = some p → p < 32) (ho : ∀ o, ko = some o → o < 32) (F : Nat → List β)
    (hF : ∀ s p o, s < 32 → p < 32 → o < 32 → (∃ z, ks = some z ∧ z ≠ s) ∨ (∃ z, kp = some z ∧ z ≠ p) ∨ (∃ z, ko = some z ∧ z ≠ o) → F (rx_code s p o) = []) :
    (rx_trav f g h al ks kp ko).flatMap F = (rx_codes X).flatMap F := by
  obtain ⟨h1, h2, h3, h4⟩ := hT
  have hR : (rx_codes X).flatMap F = (List.range 32).flatMap (fun s => (List.range 32).flatMap (fun p => (List.range 32).flatMap (fun o => if X (rx_code s p o) then F (rx_code s p o) else []))) := by
    unfold rx_codes
    rw [show ((List.range 32768).filter X).flatMap F = ((List.range 32768).filter X).flatMap (fun c => if X c then F c else []) from ry_congr (fun c hc => by rw [if_pos (List.mem_filter.mp hc).2])]
    rw [ry_filter X _ _ (fun c _ hx => by rw [hx]; rfl), rx_split, List.flatMap_assoc]
    apply ry_congr
    intro s _
    rw [List.flatMap_assoc]
    apply ry_congr
    intro p _
    rw [List.flatMap_map]
  rw [hR]
  unfold rx_trav
  rw [List.flatMap_assoc]
  have hO : ∀ s p, s < 32 → p < 32 → ((rb_els (rx_os f s p ko)).map (fun o => rx_code s p o)).flatMap F = (List.range 32).flatMap (fun o => if X (rx_code s p o) then F (rx_code s p o) else []) := by
    intro s p hs1 hp1
    rw [List.flatMap_map]
    unfold rb_els
    rw [← ry_filter (fun o => rb_b (rx_os f s p ko) o) (fun o => if X (rx_code s p o) then F (rx_code s p o) else [])]
    · apply ry_congr
      intro o hom
      obtain ⟨ho1, ho2⟩ := List.mem_filter.mp hom
      have ho3 := List.mem_range.mp ho1
      have hx : X (rx_code s p o) = true := by
        rw [← h1 s p o hs1 hp1 ho3]
        unfold rx_os at ho2
        cases ko with
        | none => exact ho2
        | some z =>
          have ho2 : rb_b (f (s * 32 + p) &&& ((1 : Int32) <<< (nI z &&& 31))) o = true := ho2
          rw [ry_and, Bool.and_eq_true] at ho2
          exact ho2.1
      rw [if_pos hx]
    · intro o ho1 hb
      have ho3 := List.mem_range.mp ho1
      unfold rx_os at hb
      cases ko with
      | none =>
        simp only at hb
        rw [h1 s p o hs1 hp1 ho3] at hb
        rw [hb]; rfl
      | some z =>
        simp only at hb
        rw [ry_and, h1 s p o hs1 hp1 ho3, ry_one (ho z rfl) o ho3] at hb
        by_cases e : o = z
        · subst e
          have : X (rx_code s p o) = false := by simpa using hb
          rw [this]; rfl
        · rw [hF s p o hs1 hp1 ho3 (Or.inr (Or.inr ⟨z, rfl, fun q => e q.symm⟩))]
          simp
  have hPp : ∀ s, s < 32 → ((rb_els (rx_ps h s kp)).flatMap (fun p => (rb_els (rx_os f s p ko)).map (fun o => rx_code s p o))).flatMap F = (List.range 32).flatMap (fun p => (List.range 32).flatMap (fun o => if X (rx_code s p o) then F (rx_code s p o) else [])) := by
    intro s hs1
    rw [List.flatMap_assoc]
    unfold rb_els
    rw [← ry_filter (fun p => rb_b (rx_ps h s kp) p) (fun p => (List.range 32).flatMap (fun o => if X (rx_code s p o) then F (rx_code s p o) else []))]
    · apply ry_congr
      intro p hpm
      exact hO s p hs1 (List.mem_range.mp (List.mem_filter.mp hpm).1)
    · intro p hp1 hb
      have hp3 := List.mem_range.mp hp1
      apply List.flatMap_eq_nil_iff.mpr
      intro o ho1
      have ho3 := List.mem_range.mp ho1
      unfold rx_ps at hb
      cases kp with
      | none =>
        simp only at hb
        have hn : ¬ X (rx_code s p o) = true := fun q => by
          have := (h3 s p hs1 hp3).mpr ⟨o, ho3, q⟩
          rw [hb] at this
          cases this
        rw [if_neg hn]
      | some z =>
        simp only at hb
        rw [ry_one (hp z rfl) p hp3] at hb
        have e : p ≠ z := by simpa using hb
        rw [hF s p o hs1 hp3 ho3 (Or.inr (Or.inl ⟨z, rfl, fun q => e q.symm⟩))]
        simp
  unfold rb_els
  rw [← ry_filter (fun s => rb_b (rx_ss g al ks kp) s) (fun s => (List.range 32).flatMap (fun p => (List.range 32).flatMap (fun o => if X (rx_code s p o) then F (rx_code s p o) else [])))]
  · apply ry_congr
    intro s hsm
    exact hPp s (List.mem_range.mp (List.mem_filter.mp hsm).1)
  · intro s hs1 hb
    have hs3 := List.mem_range.mp hs1
    apply List.flatMap_eq_nil_iff.mpr
    intro p hp1
    have hp3 := List.mem_range.mp hp1
    apply List.flatMap_eq_nil_iff.mpr
    intro o ho1
    have ho3 := List.mem_range.mp ho1
    unfold rx_ss at hb
    cases ks with
    | some z =>
      simp only at hb
      rw [ry_one (hs z rfl) s hs3] at hb
      have e : s ≠ z := by simpa using hb
      rw [hF s p o hs3 hp3 ho3 (Or.inl ⟨z, rfl, fun q => e q.symm⟩)]
      simp
    | none =>
      cases kp with
      | none =>
        simp only at hb
        have hn : ¬ X (rx_code s p o) = true := fun q => by
          have := (h4 s hs3).mpr ⟨p, o, hp3, ho3, q⟩
          rw [hb] at this
          cases this
        rw [if_neg hn]
      | some z =>
        simp only at hb
        by_cases e : p = z
        · subst e
          have hn : ¬ X (rx_code s p o) = true := fun q => by
            have := (h2 p s hp3 hs3).mpr ⟨o, ho3, q⟩
            rw [hb] at this
            cases this
          rw [if_neg hn]
        · rw [hF s p o hs3 hp3 ho3 (Or.inr (Or.inl ⟨z, rfl, fun q => e q.symm⟩))]
          simp
end
section
theorem d_Rl_init_0 : decode b_Rl_init 0 = .ok (.aload_n 0, 1) := by decide +kernel
theorem d_Rl_init_1 : decode b_Rl_init 1 = .ok (.invokespecial 3, 3) := by decide +kernel
theorem d_Rl_init_4 : decode b_Rl_init 4 = .ok (.aload_n 0, 1) := by decide +kernel
theorem d_Rl_init_5 : decode b_Rl_init 5 = .ok (.bipush 120, 2) := by decide +kernel
theorem d_Rl_init_7 : decode b_Rl_init 7 = .ok (.newarray .int, 2) := by decide +kernel
theorem d_Rl_init_9 : decode b_Rl_init 9 = .ok (.putfield 9, 3) := by decide +kernel
theorem d_Rl_init_12 : decode b_Rl_init 12 = .ok (.aload_n 0, 1) := by decide +kernel
theorem d_Rl_init_13 : decode b_Rl_init 13 = .ok (.iconst 0, 1) := by decide +kernel
theorem d_Rl_init_14 : decode b_Rl_init 14 = .ok (.putfield 13, 3) := by decide +kernel
theorem d_Rl_init_17 : decode b_Rl_init 17 = .ok (.aload_n 0, 1) := by decide +kernel
theorem d_Rl_init_18 : decode b_Rl_init 18 = .ok (.ldc 17, 2) := by decide +kernel
theorem d_Rl_init_20 : decode b_Rl_init 20 = .ok (.putfield 18, 3) := by decide +kernel
theorem d_Rl_init_23 : decode b_Rl_init 23 = .ok (.aload_n 0, 1) := by decide +kernel
theorem d_Rl_init_24 : decode b_Rl_init 24 = .ok (.iconst 0, 1) := by decide +kernel
theorem d_Rl_init_25 : decode b_Rl_init 25 = .ok (.putfield 21, 3) := by decide +kernel
theorem d_Rl_init_28 : decode b_Rl_init 28 = .ok (.aload_n 0, 1) := by decide +kernel
theorem d_Rl_init_29 : decode b_Rl_init 29 = .ok (.new 25, 3) := by decide +kernel
theorem d_Rl_init_32 : decode b_Rl_init 32 = .ok (.dup, 1) := by decide +kernel
theorem d_Rl_init_33 : decode b_Rl_init 33 = .ok (.invokespecial 27, 3) := by decide +kernel
theorem d_Rl_init_36 : decode b_Rl_init 36 = .ok (.putfield 28, 3) := by decide +kernel
theorem d_Rl_init_39 : decode b_Rl_init 39 = .ok (.aload_n 0, 1) := by decide +kernel
theorem d_Rl_init_40 : decode b_Rl_init 40 = .ok (.new 32, 3) := by decide +kernel
theorem d_Rl_init_43 : decode b_Rl_init 43 = .ok (.dup, 1) := by decide +kernel
theorem d_Rl_init_44 : decode b_Rl_init 44 = .ok (.aload_n 0, 1) := by decide +kernel
theorem d_Rl_init_45 : decode b_Rl_init 45 = .ok (.getfield 28, 3) := by decide +kernel
theorem d_Rl_init_48 : decode b_Rl_init 48 = .ok (.invokespecial 34, 3) := by decide +kernel
theorem d_Rl_init_51 : decode b_Rl_init 51 = .ok (.putfield 37, 3) := by decide +kernel
theorem d_Rl_init_54 : decode b_Rl_init 54 = .ok (.aload_n 0, 1) := by decide +kernel
theorem d_Rl_init_55 : decode b_Rl_init 55 = .ok (.new 41, 3) := by decide +kernel
theorem d_Rl_init_58 : decode b_Rl_init 58 = .ok (.dup, 1) := by decide +kernel
theorem d_Rl_init_59 : decode b_Rl_init 59 = .ok (.aload_n 0, 1) := by decide +kernel
theorem d_Rl_init_60 : decode b_Rl_init 60 = .ok (.getfield 28, 3) := by decide +kernel
theorem d_Rl_init_63 : decode b_Rl_init 63 = .ok (.invokespecial 43, 3) := by decide +kernel
theorem d_Rl_init_66 : decode b_Rl_init 66 = .ok (.putfield 44, 3) := by decide +kernel
theorem d_Rl_init_69 : decode b_Rl_init 69 = .ok (.return_, 1) := by decide +kernel
theorem d_Rl_say_0 : decode b_Rl_say 0 = .ok (.iload_n 1, 1) := by decide +kernel
theorem d_Rl_say_1 : decode b_Rl_say 1 = .ok (.iload_n 2, 1) := by decide +kernel
theorem d_Rl_say_2 : decode b_Rl_say 2 = .ok (.iload_n 3, 1) := by decide +kernel
theorem d_Rl_say_3 : decode b_Rl_say 3 = .ok (.invokestatic 48, 3) := by decide +kernel
theorem d_Rl_say_6 : decode b_Rl_say 6 = .ok (.ifCond .ne 5, 3) := by decide +kernel
theorem d_Rl_say_9 : decode b_Rl_say 9 = .ok (.iconst (-1), 1) := by decide +kernel
theorem d_Rl_say_10 : decode b_Rl_say 10 = .ok (.ireturn, 1) := by decide +kernel
theorem d_Rl_say_11 : decode b_Rl_say 11 = .ok (.iload_n 1, 1) := by decide +kernel
theorem d_Rl_say_12 : decode b_Rl_say 12 = .ok (.iload_n 2, 1) := by decide +kernel
theorem d_Rl_say_13 : decode b_Rl_say 13 = .ok (.iload_n 3, 1) := by decide +kernel
theorem d_Rl_say_14 : decode b_Rl_say 14 = .ok (.invokestatic 52, 3) := by decide +kernel
theorem d_Rl_say_17 : decode b_Rl_say 17 = .ok (.istore 4, 2) := by decide +kernel
theorem d_Rl_say_19 : decode b_Rl_say 19 = .ok (.aload_n 0, 1) := by decide +kernel
theorem d_Rl_say_20 : decode b_Rl_say 20 = .ok (.iload 4, 2) := by decide +kernel
theorem d_Rl_say_22 : decode b_Rl_say 22 = .ok (.invokevirtual 56, 3) := by decide +kernel
theorem d_Rl_say_25 : decode b_Rl_say 25 = .ok (.iconst (-1), 1) := by decide +kernel
theorem d_Rl_say_26 : decode b_Rl_say 26 = .ok (.if_icmp .eq 5, 3) := by decide +kernel
theorem d_Rl_say_29 : decode b_Rl_say 29 = .ok (.iconst 0, 1) := by decide +kernel
theorem d_Rl_say_30 : decode b_Rl_say 30 = .ok (.ireturn, 1) := by decide +kernel
theorem d_Rl_say_31 : decode b_Rl_say 31 = .ok (.aload_n 0, 1) := by decide +kernel
theorem d_Rl_say_32 : decode b_Rl_say 32 = .ok (.getfield 13, 3) := by decide +kernel
theorem d_Rl_say_35 : decode b_Rl_say 35 = .ok (.bipush 120, 2) := by decide +kernel
theorem d_Rl_say_37 : decode b_Rl_say 37 = .ok (.if_icmp .lt 6, 3) := by decide +kernel
theorem d_Rl_say_40 : decode b_Rl_say 40 = .ok (.bipush (-3), 2) := by decide +kernel
theorem d_Rl_say_42 : decode b_Rl_say 42 = .ok (.ireturn, 1) := by decide +kernel
theorem d_Rl_say_43 : decode b_Rl_say 43 = .ok (.aload_n 0, 1) := by decide +kernel
theorem d_Rl_say_44 : decode b_Rl_say 44 = .ok (.getfield 9, 3) := by decide +kernel
theorem d_Rl_say_47 : decode b_Rl_say 47 = .ok (.aload_n 0, 1) := by decide +kernel
theorem d_Rl_say_48 : decode b_Rl_say 48 = .ok (.getfield 13, 3) := by decide +kernel
theorem d_Rl_say_51 : decode b_Rl_say 51 = .ok (.iload 4, 2) := by decide +kernel
theorem d_Rl_say_53 : decode b_Rl_say 53 = .ok (.iastore, 1) := by decide +kernel
theorem d_Rl_say_54 : decode b_Rl_say 54 = .ok (.aload_n 0, 1) := by decide +kernel
theorem d_Rl_say_55 : decode b_Rl_say 55 = .ok (.dup, 1) := by decide +kernel
theorem d_Rl_say_56 : decode b_Rl_say 56 = .ok (.getfield 13, 3) := by decide +kernel
theorem d_Rl_say_59 : decode b_Rl_say 59 = .ok (.iconst 1, 1) := by decide +kernel
theorem d_Rl_say_60 : decode b_Rl_say 60 = .ok (.iadd, 1) := by decide +kernel
theorem d_Rl_say_61 : decode b_Rl_say 61 = .ok (.putfield 13, 3) := by decide +kernel
theorem d_Rl_say_64 : decode b_Rl_say 64 = .ok (.aload_n 0, 1) := by decide +kernel
theorem d_Rl_say_65 : decode b_Rl_say 65 = .ok (.iconst 0, 1) := by decide +kernel
theorem d_Rl_say_66 : decode b_Rl_say 66 = .ok (.putfield 21, 3) := by decide +kernel
theorem d_Rl_say_69 : decode b_Rl_say 69 = .ok (.iconst 1, 1) := by decide +kernel
theorem d_Rl_say_70 : decode b_Rl_say 70 = .ok (.ireturn, 1) := by decide +kernel
theorem d_Rl_unsay_0 : decode b_Rl_unsay 0 = .ok (.iload_n 1, 1) := by decide +kernel
theorem d_Rl_unsay_1 : decode b_Rl_unsay 1 = .ok (.iload_n 2, 1) := by decide +kernel
theorem d_Rl_unsay_2 : decode b_Rl_unsay 2 = .ok (.iload_n 3, 1) := by decide +kernel
theorem d_Rl_unsay_3 : decode b_Rl_unsay 3 = .ok (.invokestatic 48, 3) := by decide +kernel
theorem d_Rl_unsay_6 : decode b_Rl_unsay 6 = .ok (.ifCond .ne 5, 3) := by decide +kernel
theorem d_Rl_unsay_9 : decode b_Rl_unsay 9 = .ok (.iconst (-1), 1) := by decide +kernel
theorem d_Rl_unsay_10 : decode b_Rl_unsay 10 = .ok (.ireturn, 1) := by decide +kernel
theorem d_Rl_unsay_11 : decode b_Rl_unsay 11 = .ok (.aload_n 0, 1) := by decide +kernel
theorem d_Rl_unsay_12 : decode b_Rl_unsay 12 = .ok (.iload_n 1, 1) := by decide +kernel
theorem d_Rl_unsay_13 : decode b_Rl_unsay 13 = .ok (.iload_n 2, 1) := by decide +kernel
theorem d_Rl_unsay_14 : decode b_Rl_unsay 14 = .ok (.iload_n 3, 1) := by decide +kernel
theorem d_Rl_unsay_15 : decode b_Rl_unsay 15 = .ok (.invokestatic 52, 3) := by decide +kernel
theorem d_Rl_unsay_18 : decode b_Rl_unsay 18 = .ok (.invokevirtual 56, 3) := by decide +kernel
theorem d_Rl_unsay_21 : decode b_Rl_unsay 21 = .ok (.istore 4, 2) := by decide +kernel
theorem d_Rl_unsay_23 : decode b_Rl_unsay 23 = .ok (.iload 4, 2) := by decide +kernel
theorem d_Rl_unsay_25 : decode b_Rl_unsay 25 = .ok (.iconst (-1), 1) := by decide +kernel
theorem d_Rl_unsay_26 : decode b_Rl_unsay 26 = .ok (.if_icmp .ne 5, 3) := by decide +kernel
theorem d_Rl_unsay_29 : decode b_Rl_unsay 29 = .ok (.iconst 0, 1) := by decide +kernel
theorem d_Rl_unsay_30 : decode b_Rl_unsay 30 = .ok (.ireturn, 1) := by decide +kernel
theorem d_Rl_unsay_31 : decode b_Rl_unsay 31 = .ok (.aload_n 0, 1) := by decide +kernel
theorem d_Rl_unsay_32 : decode b_Rl_unsay 32 = .ok (.dup, 1) := by decide +kernel
theorem d_Rl_unsay_33 : decode b_Rl_unsay 33 = .ok (.getfield 13, 3) := by decide +kernel
theorem d_Rl_unsay_36 : decode b_Rl_unsay 36 = .ok (.iconst 1, 1) := by decide +kernel
theorem d_Rl_unsay_37 : decode b_Rl_unsay 37 = .ok (.isub, 1) := by decide +kernel
theorem d_Rl_unsay_38 : decode b_Rl_unsay 38 = .ok (.putfield 13, 3) := by decide +kernel
theorem d_Rl_unsay_41 : decode b_Rl_unsay 41 = .ok (.aload_n 0, 1) := by decide +kernel
theorem d_Rl_unsay_42 : decode b_Rl_unsay 42 = .ok (.getfield 9, 3) := by decide +kernel
theorem d_Rl_unsay_45 : decode b_Rl_unsay 45 = .ok (.iload 4, 2) := by decide +kernel
theorem d_Rl_unsay_47 : decode b_Rl_unsay 47 = .ok (.aload_n 0, 1) := by decide +kernel
theorem d_Rl_unsay_48 : decode b_Rl_unsay 48 = .ok (.getfield 9, 3) := by decide +kernel
theorem d_Rl_unsay_51 : decode b_Rl_unsay 51 = .ok (.aload_n 0, 1) := by decide +kernel
theorem d_Rl_unsay_52 : decode b_Rl_unsay 52 = .ok (.getfield 13, 3) := by decide +kernel
theorem d_Rl_unsay_55 : decode b_Rl_unsay 55 = .ok (.iaload, 1) := by decide +kernel
theorem d_Rl_unsay_56 : decode b_Rl_unsay 56 = .ok (.iastore, 1) := by decide +kernel
theorem d_Rl_unsay_57 : decode b_Rl_unsay 57 = .ok (.aload_n 0, 1) := by decide +kernel
theorem d_Rl_unsay_58 : decode b_Rl_unsay 58 = .ok (.iconst 0, 1) := by decide +kernel
theorem d_Rl_unsay_59 : decode b_Rl_unsay 59 = .ok (.putfield 21, 3) := by decide +kernel
theorem d_Rl_unsay_62 : decode b_Rl_unsay 62 = .ok (.iconst 1, 1) := by decide +kernel
theorem d_Rl_unsay_63 : decode b_Rl_unsay 63 = .ok (.ireturn, 1) := by decide +kernel
theorem d_Rl_rule_0 : decode b_Rl_rule 0 = .ok (.iload_n 1, 1) := by decide +kernel
theorem d_Rl_rule_1 : decode b_Rl_rule 1 = .ok (.ifCond .lt 9, 3) := by decide +kernel
theorem d_Rl_rule_4 : decode b_Rl_rule 4 = .ok (.iload_n 1, 1) := by decide +kernel
theorem d_Rl_rule_5 : decode b_Rl_rule 5 = .ok (.bipush 21, 2) := by decide +kernel
theorem d_Rl_rule_7 : decode b_Rl_rule 7 = .ok (.if_icmp .lt 5, 3) := by decide +kernel
theorem d_Rl_rule_10 : decode b_Rl_rule 10 = .ok (.iconst (-1), 1) := by decide +kernel
theorem d_Rl_rule_11 : decode b_Rl_rule 11 = .ok (.ireturn, 1) := by decide +kernel
theorem d_Rl_rule_12 : decode b_Rl_rule 12 = .ok (.aload_n 0, 1) := by decide +kernel
theorem d_Rl_rule_13 : decode b_Rl_rule 13 = .ok (.getfield 18, 3) := by decide +kernel
theorem d_Rl_rule_16 : decode b_Rl_rule 16 = .ok (.iload_n 1, 1) := by decide +kernel
theorem d_Rl_rule_17 : decode b_Rl_rule 17 = .ok (.invokestatic 60, 3) := by decide +kernel
theorem d_Rl_rule_20 : decode b_Rl_rule 20 = .ok (.iload_n 2, 1) := by decide +kernel
theorem d_Rl_rule_21 : decode b_Rl_rule 21 = .ok (.if_icmp .ne 5, 3) := by decide +kernel
theorem d_Rl_rule_24 : decode b_Rl_rule 24 = .ok (.iconst 0, 1) := by decide +kernel
theorem d_Rl_rule_25 : decode b_Rl_rule 25 = .ok (.ireturn, 1) := by decide +kernel
theorem d_Rl_rule_26 : decode b_Rl_rule 26 = .ok (.aload_n 0, 1) := by decide +kernel
theorem d_Rl_rule_27 : decode b_Rl_rule 27 = .ok (.dup, 1) := by decide +kernel
theorem d_Rl_rule_28 : decode b_Rl_rule 28 = .ok (.getfield 18, 3) := by decide +kernel
theorem d_Rl_rule_31 : decode b_Rl_rule 31 = .ok (.iconst 1, 1) := by decide +kernel
theorem d_Rl_rule_32 : decode b_Rl_rule 32 = .ok (.iload_n 1, 1) := by decide +kernel
theorem d_Rl_rule_33 : decode b_Rl_rule 33 = .ok (.ishl, 1) := by decide +kernel
theorem d_Rl_rule_34 : decode b_Rl_rule 34 = .ok (.ixor, 1) := by decide +kernel
theorem d_Rl_rule_35 : decode b_Rl_rule 35 = .ok (.putfield 18, 3) := by decide +kernel
theorem d_Rl_rule_38 : decode b_Rl_rule 38 = .ok (.aload_n 0, 1) := by decide +kernel
theorem d_Rl_rule_39 : decode b_Rl_rule 39 = .ok (.iconst 0, 1) := by decide +kernel
theorem d_Rl_rule_40 : decode b_Rl_rule 40 = .ok (.putfield 21, 3) := by decide +kernel
theorem d_Rl_rule_43 : decode b_Rl_rule 43 = .ok (.iconst 1, 1) := by decide +kernel
theorem d_Rl_rule_44 : decode b_Rl_rule 44 = .ok (.ireturn, 1) := by decide +kernel
theorem d_Rl_run_0 : decode b_Rl_run 0 = .ok (.aload_n 0, 1) := by decide +kernel
theorem d_Rl_run_1 : decode b_Rl_run 1 = .ok (.invokevirtual 64, 3) := by decide +kernel
theorem d_Rl_run_4 : decode b_Rl_run 4 = .ok (.ifCond .eq 8, 3) := by decide +kernel
theorem d_Rl_run_7 : decode b_Rl_run 7 = .ok (.bipush (-4), 2) := by decide +kernel
theorem d_Rl_run_9 : decode b_Rl_run 9 = .ok (.goto 10, 3) := by decide +kernel
theorem d_Rl_run_12 : decode b_Rl_run 12 = .ok (.aload_n 0, 1) := by decide +kernel
theorem d_Rl_run_13 : decode b_Rl_run 13 = .ok (.getfield 37, 3) := by decide +kernel
theorem d_Rl_run_16 : decode b_Rl_run 16 = .ok (.invokevirtual 68, 3) := by decide +kernel
theorem d_Rl_run_19 : decode b_Rl_run 19 = .ok (.ireturn, 1) := by decide +kernel
theorem d_Rl_size_0 : decode b_Rl_size 0 = .ok (.aload_n 0, 1) := by decide +kernel
theorem d_Rl_size_1 : decode b_Rl_size 1 = .ok (.invokevirtual 64, 3) := by decide +kernel
theorem d_Rl_size_4 : decode b_Rl_size 4 = .ok (.ifCond .eq 8, 3) := by decide +kernel
theorem d_Rl_size_7 : decode b_Rl_size 7 = .ok (.bipush (-4), 2) := by decide +kernel
theorem d_Rl_size_9 : decode b_Rl_size 9 = .ok (.goto 10, 3) := by decide +kernel
theorem d_Rl_size_12 : decode b_Rl_size 12 = .ok (.aload_n 0, 1) := by decide +kernel
theorem d_Rl_size_13 : decode b_Rl_size 13 = .ok (.getfield 37, 3) := by decide +kernel
theorem d_Rl_size_16 : decode b_Rl_size 16 = .ok (.getfield 72, 3) := by decide +kernel
theorem d_Rl_size_19 : decode b_Rl_size 19 = .ok (.ireturn, 1) := by decide +kernel
theorem d_Rl_triple_0 : decode b_Rl_triple 0 = .ok (.aload_n 0, 1) := by decide +kernel
theorem d_Rl_triple_1 : decode b_Rl_triple 1 = .ok (.invokevirtual 64, 3) := by decide +kernel
theorem d_Rl_triple_4 : decode b_Rl_triple 4 = .ok (.ifCond .eq 6, 3) := by decide +kernel
theorem d_Rl_triple_7 : decode b_Rl_triple 7 = .ok (.bipush (-4), 2) := by decide +kernel
theorem d_Rl_triple_9 : decode b_Rl_triple 9 = .ok (.ireturn, 1) := by decide +kernel
theorem d_Rl_triple_10 : decode b_Rl_triple 10 = .ok (.iload_n 1, 1) := by decide +kernel
theorem d_Rl_triple_11 : decode b_Rl_triple 11 = .ok (.ifCond .lt 14, 3) := by decide +kernel
theorem d_Rl_triple_14 : decode b_Rl_triple 14 = .ok (.iload_n 1, 1) := by decide +kernel
theorem d_Rl_triple_15 : decode b_Rl_triple 15 = .ok (.aload_n 0, 1) := by decide +kernel
theorem d_Rl_triple_16 : decode b_Rl_triple 16 = .ok (.getfield 37, 3) := by decide +kernel
theorem d_Rl_triple_19 : decode b_Rl_triple 19 = .ok (.getfield 72, 3) := by decide +kernel
theorem d_Rl_triple_22 : decode b_Rl_triple 22 = .ok (.if_icmp .lt 6, 3) := by decide +kernel
theorem d_Rl_triple_25 : decode b_Rl_triple 25 = .ok (.bipush (-2), 2) := by decide +kernel
theorem d_Rl_triple_27 : decode b_Rl_triple 27 = .ok (.ireturn, 1) := by decide +kernel
theorem d_Rl_triple_28 : decode b_Rl_triple 28 = .ok (.aload_n 0, 1) := by decide +kernel
theorem d_Rl_triple_29 : decode b_Rl_triple 29 = .ok (.getfield 28, 3) := by decide +kernel
theorem d_Rl_triple_32 : decode b_Rl_triple 32 = .ok (.iload_n 1, 1) := by decide +kernel
theorem d_Rl_triple_33 : decode b_Rl_triple 33 = .ok (.invokevirtual 75, 3) := by decide +kernel
theorem d_Rl_triple_36 : decode b_Rl_triple 36 = .ok (.ireturn, 1) := by decide +kernel
theorem d_Rl_round_0 : decode b_Rl_round 0 = .ok (.iload_n 1, 1) := by decide +kernel
theorem d_Rl_round_1 : decode b_Rl_round 1 = .ok (.iload_n 2, 1) := by decide +kernel
theorem d_Rl_round_2 : decode b_Rl_round 2 = .ok (.iload_n 3, 1) := by decide +kernel
theorem d_Rl_round_3 : decode b_Rl_round 3 = .ok (.invokestatic 48, 3) := by decide +kernel
theorem d_Rl_round_6 : decode b_Rl_round 6 = .ok (.ifCond .ne 5, 3) := by decide +kernel
theorem d_Rl_round_9 : decode b_Rl_round 9 = .ok (.iconst (-1), 1) := by decide +kernel
theorem d_Rl_round_10 : decode b_Rl_round 10 = .ok (.ireturn, 1) := by decide +kernel
theorem d_Rl_round_11 : decode b_Rl_round 11 = .ok (.aload_n 0, 1) := by decide +kernel
theorem d_Rl_round_12 : decode b_Rl_round 12 = .ok (.invokevirtual 64, 3) := by decide +kernel
theorem d_Rl_round_15 : decode b_Rl_round 15 = .ok (.ifCond .eq 8, 3) := by decide +kernel
theorem d_Rl_round_18 : decode b_Rl_round 18 = .ok (.bipush (-4), 2) := by decide +kernel
theorem d_Rl_round_20 : decode b_Rl_round 20 = .ok (.goto 16, 3) := by decide +kernel
theorem d_Rl_round_23 : decode b_Rl_round 23 = .ok (.aload_n 0, 1) := by decide +kernel
theorem d_Rl_round_24 : decode b_Rl_round 24 = .ok (.getfield 37, 3) := by decide +kernel
theorem d_Rl_round_27 : decode b_Rl_round 27 = .ok (.iload_n 1, 1) := by decide +kernel
theorem d_Rl_round_28 : decode b_Rl_round 28 = .ok (.iload_n 2, 1) := by decide +kernel
theorem d_Rl_round_29 : decode b_Rl_round 29 = .ok (.iload_n 3, 1) := by decide +kernel
theorem d_Rl_round_30 : decode b_Rl_round 30 = .ok (.invokestatic 52, 3) := by decide +kernel
theorem d_Rl_round_33 : decode b_Rl_round 33 = .ok (.invokevirtual 78, 3) := by decide +kernel
theorem d_Rl_round_36 : decode b_Rl_round 36 = .ok (.ireturn, 1) := by decide +kernel
theorem d_Rl_ways_0 : decode b_Rl_ways 0 = .ok (.iload_n 1, 1) := by decide +kernel
theorem d_Rl_ways_1 : decode b_Rl_ways 1 = .ok (.iload_n 2, 1) := by decide +kernel
theorem d_Rl_ways_2 : decode b_Rl_ways 2 = .ok (.iload_n 3, 1) := by decide +kernel
theorem d_Rl_ways_3 : decode b_Rl_ways 3 = .ok (.invokestatic 48, 3) := by decide +kernel
theorem d_Rl_ways_6 : decode b_Rl_ways 6 = .ok (.ifCond .ne 5, 3) := by decide +kernel
theorem d_Rl_ways_9 : decode b_Rl_ways 9 = .ok (.iconst (-1), 1) := by decide +kernel
theorem d_Rl_ways_10 : decode b_Rl_ways 10 = .ok (.ireturn, 1) := by decide +kernel
theorem d_Rl_ways_11 : decode b_Rl_ways 11 = .ok (.aload_n 0, 1) := by decide +kernel
theorem d_Rl_ways_12 : decode b_Rl_ways 12 = .ok (.invokevirtual 64, 3) := by decide +kernel
theorem d_Rl_ways_15 : decode b_Rl_ways 15 = .ok (.ifCond .eq 8, 3) := by decide +kernel
theorem d_Rl_ways_18 : decode b_Rl_ways 18 = .ok (.bipush (-4), 2) := by decide +kernel
theorem d_Rl_ways_20 : decode b_Rl_ways 20 = .ok (.goto 20, 3) := by decide +kernel
theorem d_Rl_ways_23 : decode b_Rl_ways 23 = .ok (.aload_n 0, 1) := by decide +kernel
theorem d_Rl_ways_24 : decode b_Rl_ways 24 = .ok (.getfield 44, 3) := by decide +kernel
theorem d_Rl_ways_27 : decode b_Rl_ways 27 = .ok (.iload_n 1, 1) := by decide +kernel
theorem d_Rl_ways_28 : decode b_Rl_ways 28 = .ok (.iload_n 2, 1) := by decide +kernel
theorem d_Rl_ways_29 : decode b_Rl_ways 29 = .ok (.iload_n 3, 1) := by decide +kernel
theorem d_Rl_ways_30 : decode b_Rl_ways 30 = .ok (.invokestatic 52, 3) := by decide +kernel
theorem d_Rl_ways_33 : decode b_Rl_ways 33 = .ok (.aload_n 0, 1) := by decide +kernel
theorem d_Rl_ways_34 : decode b_Rl_ways 34 = .ok (.getfield 18, 3) := by decide +kernel
theorem d_Rl_ways_37 : decode b_Rl_ways 37 = .ok (.invokevirtual 81, 3) := by decide +kernel
theorem d_Rl_ways_40 : decode b_Rl_ways 40 = .ok (.ireturn, 1) := by decide +kernel
theorem d_Rl_way_0 : decode b_Rl_way 0 = .ok (.iload_n 1, 1) := by decide +kernel
theorem d_Rl_way_1 : decode b_Rl_way 1 = .ok (.iload_n 2, 1) := by decide +kernel
theorem d_Rl_way_2 : decode b_Rl_way 2 = .ok (.iload_n 3, 1) := by decide +kernel
theorem d_Rl_way_3 : decode b_Rl_way 3 = .ok (.invokestatic 48, 3) := by decide +kernel
theorem d_Rl_way_6 : decode b_Rl_way 6 = .ok (.ifCond .eq 14, 3) := by decide +kernel
theorem d_Rl_way_9 : decode b_Rl_way 9 = .ok (.iload 5, 2) := by decide +kernel
theorem d_Rl_way_11 : decode b_Rl_way 11 = .ok (.ifCond .lt 9, 3) := by decide +kernel
theorem d_Rl_way_14 : decode b_Rl_way 14 = .ok (.iload 5, 2) := by decide +kernel
theorem d_Rl_way_16 : decode b_Rl_way 16 = .ok (.iconst 4, 1) := by decide +kernel
theorem d_Rl_way_17 : decode b_Rl_way 17 = .ok (.if_icmp .le 5, 3) := by decide +kernel
theorem d_Rl_way_20 : decode b_Rl_way 20 = .ok (.iconst (-1), 1) := by decide +kernel
theorem d_Rl_way_21 : decode b_Rl_way 21 = .ok (.ireturn, 1) := by decide +kernel
theorem d_Rl_way_22 : decode b_Rl_way 22 = .ok (.aload_n 0, 1) := by decide +kernel
theorem d_Rl_way_23 : decode b_Rl_way 23 = .ok (.invokevirtual 64, 3) := by decide +kernel
theorem d_Rl_way_26 : decode b_Rl_way 26 = .ok (.ifCond .eq 6, 3) := by decide +kernel
theorem d_Rl_way_29 : decode b_Rl_way 29 = .ok (.bipush (-4), 2) := by decide +kernel
theorem d_Rl_way_31 : decode b_Rl_way 31 = .ok (.ireturn, 1) := by decide +kernel
theorem d_Rl_way_32 : decode b_Rl_way 32 = .ok (.iload 4, 2) := by decide +kernel
theorem d_Rl_way_34 : decode b_Rl_way 34 = .ok (.ifCond .lt 25, 3) := by decide +kernel
theorem d_Rl_way_37 : decode b_Rl_way 37 = .ok (.aload_n 0, 1) := by decide +kernel
theorem d_Rl_way_38 : decode b_Rl_way 38 = .ok (.getfield 44, 3) := by decide +kernel
theorem d_Rl_way_41 : decode b_Rl_way 41 = .ok (.iload_n 1, 1) := by decide +kernel
theorem d_Rl_way_42 : decode b_Rl_way 42 = .ok (.iload_n 2, 1) := by decide +kernel
theorem d_Rl_way_43 : decode b_Rl_way 43 = .ok (.iload_n 3, 1) := by decide +kernel
theorem d_Rl_way_44 : decode b_Rl_way 44 = .ok (.invokestatic 52, 3) := by decide +kernel
theorem d_Rl_way_47 : decode b_Rl_way 47 = .ok (.aload_n 0, 1) := by decide +kernel
theorem d_Rl_way_48 : decode b_Rl_way 48 = .ok (.getfield 18, 3) := by decide +kernel
theorem d_Rl_way_51 : decode b_Rl_way 51 = .ok (.iload 4, 2) := by decide +kernel
theorem d_Rl_way_53 : decode b_Rl_way 53 = .ok (.invokevirtual 85, 3) := by decide +kernel
theorem d_Rl_way_56 : decode b_Rl_way 56 = .ok (.ifCond .ne 6, 3) := by decide +kernel
theorem d_Rl_way_59 : decode b_Rl_way 59 = .ok (.bipush (-2), 2) := by decide +kernel
theorem d_Rl_way_61 : decode b_Rl_way 61 = .ok (.ireturn, 1) := by decide +kernel
theorem d_Rl_way_62 : decode b_Rl_way 62 = .ok (.iload 5, 2) := by decide +kernel
theorem d_Rl_way_64 : decode b_Rl_way 64 = .ok (.ifCond .ne 13, 3) := by decide +kernel
theorem d_Rl_way_67 : decode b_Rl_way 67 = .ok (.aload_n 0, 1) := by decide +kernel
theorem d_Rl_way_68 : decode b_Rl_way 68 = .ok (.getfield 44, 3) := by decide +kernel
theorem d_Rl_way_71 : decode b_Rl_way 71 = .ok (.getfield 88, 3) := by decide +kernel
theorem d_Rl_way_74 : decode b_Rl_way 74 = .ok (.goto 12, 3) := by decide +kernel
theorem d_Rl_way_77 : decode b_Rl_way 77 = .ok (.aload_n 0, 1) := by decide +kernel
theorem d_Rl_way_78 : decode b_Rl_way 78 = .ok (.getfield 44, 3) := by decide +kernel
theorem d_Rl_way_81 : decode b_Rl_way 81 = .ok (.iload 5, 2) := by decide +kernel
theorem d_Rl_way_83 : decode b_Rl_way 83 = .ok (.invokevirtual 91, 3) := by decide +kernel
theorem d_Rl_way_86 : decode b_Rl_way 86 = .ok (.ireturn, 1) := by decide +kernel
theorem d_Rl_clashes_0 : decode b_Rl_clashes 0 = .ok (.aload_n 0, 1) := by decide +kernel
theorem d_Rl_clashes_1 : decode b_Rl_clashes 1 = .ok (.invokevirtual 64, 3) := by decide +kernel
theorem d_Rl_clashes_4 : decode b_Rl_clashes 4 = .ok (.ifCond .eq 8, 3) := by decide +kernel
theorem d_Rl_clashes_7 : decode b_Rl_clashes 7 = .ok (.bipush (-4), 2) := by decide +kernel
theorem d_Rl_clashes_9 : decode b_Rl_clashes 9 = .ok (.goto 10, 3) := by decide +kernel
theorem d_Rl_clashes_12 : decode b_Rl_clashes 12 = .ok (.aload_n 0, 1) := by decide +kernel
theorem d_Rl_clashes_13 : decode b_Rl_clashes 13 = .ok (.getfield 44, 3) := by decide +kernel
theorem d_Rl_clashes_16 : decode b_Rl_clashes 16 = .ok (.invokevirtual 94, 3) := by decide +kernel
theorem d_Rl_clashes_19 : decode b_Rl_clashes 19 = .ok (.ireturn, 1) := by decide +kernel
theorem d_Rl_clash_0 : decode b_Rl_clash 0 = .ok (.iload_n 2, 1) := by decide +kernel
theorem d_Rl_clash_1 : decode b_Rl_clash 1 = .ok (.ifCond .lt 8, 3) := by decide +kernel
theorem d_Rl_clash_4 : decode b_Rl_clash 4 = .ok (.iload_n 2, 1) := by decide +kernel
theorem d_Rl_clash_5 : decode b_Rl_clash 5 = .ok (.iconst 3, 1) := by decide +kernel
theorem d_Rl_clash_6 : decode b_Rl_clash 6 = .ok (.if_icmp .le 5, 3) := by decide +kernel
theorem d_Rl_clash_9 : decode b_Rl_clash 9 = .ok (.iconst (-1), 1) := by decide +kernel
theorem d_Rl_clash_10 : decode b_Rl_clash 10 = .ok (.ireturn, 1) := by decide +kernel
theorem d_Rl_clash_11 : decode b_Rl_clash 11 = .ok (.aload_n 0, 1) := by decide +kernel
theorem d_Rl_clash_12 : decode b_Rl_clash 12 = .ok (.invokevirtual 64, 3) := by decide +kernel
theorem d_Rl_clash_15 : decode b_Rl_clash 15 = .ok (.ifCond .eq 6, 3) := by decide +kernel
theorem d_Rl_clash_18 : decode b_Rl_clash 18 = .ok (.bipush (-4), 2) := by decide +kernel
theorem d_Rl_clash_20 : decode b_Rl_clash 20 = .ok (.ireturn, 1) := by decide +kernel
theorem d_Rl_clash_21 : decode b_Rl_clash 21 = .ok (.iload_n 1, 1) := by decide +kernel
theorem d_Rl_clash_22 : decode b_Rl_clash 22 = .ok (.ifCond .lt 14, 3) := by decide +kernel
theorem d_Rl_clash_25 : decode b_Rl_clash 25 = .ok (.aload_n 0, 1) := by decide +kernel
theorem d_Rl_clash_26 : decode b_Rl_clash 26 = .ok (.getfield 44, 3) := by decide +kernel
theorem d_Rl_clash_29 : decode b_Rl_clash 29 = .ok (.iload_n 1, 1) := by decide +kernel
theorem d_Rl_clash_30 : decode b_Rl_clash 30 = .ok (.invokevirtual 97, 3) := by decide +kernel
theorem d_Rl_clash_33 : decode b_Rl_clash 33 = .ok (.ifCond .ne 6, 3) := by decide +kernel
theorem d_Rl_clash_36 : decode b_Rl_clash 36 = .ok (.bipush (-2), 2) := by decide +kernel
theorem d_Rl_clash_38 : decode b_Rl_clash 38 = .ok (.ireturn, 1) := by decide +kernel
theorem d_Rl_clash_39 : decode b_Rl_clash 39 = .ok (.iload_n 2, 1) := by decide +kernel
theorem d_Rl_clash_40 : decode b_Rl_clash 40 = .ok (.ifCond .ne 16, 3) := by decide +kernel
theorem d_Rl_clash_43 : decode b_Rl_clash 43 = .ok (.aload_n 0, 1) := by decide +kernel
theorem d_Rl_clash_44 : decode b_Rl_clash 44 = .ok (.getfield 44, 3) := by decide +kernel
theorem d_Rl_clash_47 : decode b_Rl_clash 47 = .ok (.getfield 88, 3) := by decide +kernel
theorem d_Rl_clash_50 : decode b_Rl_clash 50 = .ok (.bipush 21, 2) := by decide +kernel
theorem d_Rl_clash_52 : decode b_Rl_clash 52 = .ok (.isub, 1) := by decide +kernel
theorem d_Rl_clash_53 : decode b_Rl_clash 53 = .ok (.goto 11, 3) := by decide +kernel
theorem d_Rl_clash_56 : decode b_Rl_clash 56 = .ok (.aload_n 0, 1) := by decide +kernel
theorem d_Rl_clash_57 : decode b_Rl_clash 57 = .ok (.getfield 44, 3) := by decide +kernel
theorem d_Rl_clash_60 : decode b_Rl_clash 60 = .ok (.iload_n 2, 1) := by decide +kernel
theorem d_Rl_clash_61 : decode b_Rl_clash 61 = .ok (.invokevirtual 91, 3) := by decide +kernel
theorem d_Rl_clash_64 : decode b_Rl_clash 64 = .ok (.ireturn, 1) := by decide +kernel
theorem d_Rl_group_0 : decode b_Rl_group 0 = .ok (.iload_n 1, 1) := by decide +kernel
theorem d_Rl_group_1 : decode b_Rl_group 1 = .ok (.invokestatic 101, 3) := by decide +kernel
theorem d_Rl_group_4 : decode b_Rl_group 4 = .ok (.ifCond .ne 5, 3) := by decide +kernel
theorem d_Rl_group_7 : decode b_Rl_group 7 = .ok (.iconst (-1), 1) := by decide +kernel
theorem d_Rl_group_8 : decode b_Rl_group 8 = .ok (.ireturn, 1) := by decide +kernel
theorem d_Rl_group_9 : decode b_Rl_group 9 = .ok (.aload_n 0, 1) := by decide +kernel
theorem d_Rl_group_10 : decode b_Rl_group 10 = .ok (.invokevirtual 64, 3) := by decide +kernel
theorem d_Rl_group_13 : decode b_Rl_group 13 = .ok (.ifCond .eq 6, 3) := by decide +kernel
theorem d_Rl_group_16 : decode b_Rl_group 16 = .ok (.bipush (-4), 2) := by decide +kernel
theorem d_Rl_group_18 : decode b_Rl_group 18 = .ok (.ireturn, 1) := by decide +kernel
theorem d_Rl_group_19 : decode b_Rl_group 19 = .ok (.aload_n 0, 1) := by decide +kernel
theorem d_Rl_group_20 : decode b_Rl_group 20 = .ok (.getfield 28, 3) := by decide +kernel
theorem d_Rl_group_23 : decode b_Rl_group 23 = .ok (.iload_n 1, 1) := by decide +kernel
theorem d_Rl_group_24 : decode b_Rl_group 24 = .ok (.bipush 6, 2) := by decide +kernel
theorem d_Rl_group_26 : decode b_Rl_group 26 = .ok (.iconst (-1), 1) := by decide +kernel
theorem d_Rl_group_27 : decode b_Rl_group 27 = .ok (.invokevirtual 106, 3) := by decide +kernel
theorem d_Rl_group_30 : decode b_Rl_group 30 = .ok (.istore_n 2, 1) := by decide +kernel
theorem d_Rl_group_31 : decode b_Rl_group 31 = .ok (.iload_n 1, 1) := by decide +kernel
theorem d_Rl_group_32 : decode b_Rl_group 32 = .ok (.iload_n 2, 1) := by decide +kernel
theorem d_Rl_group_33 : decode b_Rl_group 33 = .ok (.invokestatic 109, 3) := by decide +kernel
theorem d_Rl_group_36 : decode b_Rl_group 36 = .ok (.invokestatic 112, 3) := by decide +kernel
theorem d_Rl_group_39 : decode b_Rl_group 39 = .ok (.ireturn, 1) := by decide +kernel
end
section
theorem d_Rl_said_0 : decode b_Rl_said 0 = .ok (.aload_n 0, 1) := by decide +kernel
theorem d_Rl_said_1 : decode b_Rl_said 1 = .ok (.getfield 13, 3) := by decide +kernel
theorem d_Rl_said_4 : decode b_Rl_said 4 = .ok (.ireturn, 1) := by decide +kernel
theorem d_Rl_isTooLarge_0 : decode b_Rl_isTooLarge 0 = .ok (.aload_n 0, 1) := by decide +kernel
theorem d_Rl_isTooLarge_1 : decode b_Rl_isTooLarge 1 = .ok (.getfield 21, 3) := by decide +kernel
theorem d_Rl_isTooLarge_4 : decode b_Rl_isTooLarge 4 = .ok (.ifCond .ne 27, 3) := by decide +kernel
theorem d_Rl_isTooLarge_7 : decode b_Rl_isTooLarge 7 = .ok (.aload_n 0, 1) := by decide +kernel
theorem d_Rl_isTooLarge_8 : decode b_Rl_isTooLarge 8 = .ok (.getfield 37, 3) := by decide +kernel
theorem d_Rl_isTooLarge_11 : decode b_Rl_isTooLarge 11 = .ok (.aload_n 0, 1) := by decide +kernel
theorem d_Rl_isTooLarge_12 : decode b_Rl_isTooLarge 12 = .ok (.getfield 9, 3) := by decide +kernel
theorem d_Rl_isTooLarge_15 : decode b_Rl_isTooLarge 15 = .ok (.aload_n 0, 1) := by decide +kernel
theorem d_Rl_isTooLarge_16 : decode b_Rl_isTooLarge 16 = .ok (.getfield 13, 3) := by decide +kernel
theorem d_Rl_isTooLarge_19 : decode b_Rl_isTooLarge 19 = .ok (.aload_n 0, 1) := by decide +kernel
theorem d_Rl_isTooLarge_20 : decode b_Rl_isTooLarge 20 = .ok (.getfield 18, 3) := by decide +kernel
theorem d_Rl_isTooLarge_23 : decode b_Rl_isTooLarge 23 = .ok (.invokevirtual 117, 3) := by decide +kernel
theorem d_Rl_isTooLarge_26 : decode b_Rl_isTooLarge 26 = .ok (.aload_n 0, 1) := by decide +kernel
theorem d_Rl_isTooLarge_27 : decode b_Rl_isTooLarge 27 = .ok (.iconst 1, 1) := by decide +kernel
theorem d_Rl_isTooLarge_28 : decode b_Rl_isTooLarge 28 = .ok (.putfield 21, 3) := by decide +kernel
theorem d_Rl_isTooLarge_31 : decode b_Rl_isTooLarge 31 = .ok (.aload_n 0, 1) := by decide +kernel
theorem d_Rl_isTooLarge_32 : decode b_Rl_isTooLarge 32 = .ok (.getfield 37, 3) := by decide +kernel
theorem d_Rl_isTooLarge_35 : decode b_Rl_isTooLarge 35 = .ok (.getfield 121, 3) := by decide +kernel
theorem d_Rl_isTooLarge_38 : decode b_Rl_isTooLarge 38 = .ok (.ireturn, 1) := by decide +kernel
theorem d_Rl_placeOfSaid_0 : decode b_Rl_placeOfSaid 0 = .ok (.iconst 0, 1) := by decide +kernel
theorem d_Rl_placeOfSaid_1 : decode b_Rl_placeOfSaid 1 = .ok (.istore_n 2, 1) := by decide +kernel
theorem d_Rl_placeOfSaid_2 : decode b_Rl_placeOfSaid 2 = .ok (.iload_n 2, 1) := by decide +kernel
theorem d_Rl_placeOfSaid_3 : decode b_Rl_placeOfSaid 3 = .ok (.aload_n 0, 1) := by decide +kernel
theorem d_Rl_placeOfSaid_4 : decode b_Rl_placeOfSaid 4 = .ok (.getfield 13, 3) := by decide +kernel
theorem d_Rl_placeOfSaid_7 : decode b_Rl_placeOfSaid 7 = .ok (.if_icmp .ge 21, 3) := by decide +kernel
theorem d_Rl_placeOfSaid_10 : decode b_Rl_placeOfSaid 10 = .ok (.aload_n 0, 1) := by decide +kernel
theorem d_Rl_placeOfSaid_11 : decode b_Rl_placeOfSaid 11 = .ok (.getfield 9, 3) := by decide +kernel
theorem d_Rl_placeOfSaid_14 : decode b_Rl_placeOfSaid 14 = .ok (.iload_n 2, 1) := by decide +kernel
theorem d_Rl_placeOfSaid_15 : decode b_Rl_placeOfSaid 15 = .ok (.iaload, 1) := by decide +kernel
theorem d_Rl_placeOfSaid_16 : decode b_Rl_placeOfSaid 16 = .ok (.iload_n 1, 1) := by decide +kernel
theorem d_Rl_placeOfSaid_17 : decode b_Rl_placeOfSaid 17 = .ok (.if_icmp .ne 5, 3) := by decide +kernel
theorem d_Rl_placeOfSaid_20 : decode b_Rl_placeOfSaid 20 = .ok (.iload_n 2, 1) := by decide +kernel
theorem d_Rl_placeOfSaid_21 : decode b_Rl_placeOfSaid 21 = .ok (.ireturn, 1) := by decide +kernel
theorem d_Rl_placeOfSaid_22 : decode b_Rl_placeOfSaid 22 = .ok (.iinc 2 1, 3) := by decide +kernel
theorem d_Rl_placeOfSaid_25 : decode b_Rl_placeOfSaid 25 = .ok (.goto (-23), 3) := by decide +kernel
theorem d_Rl_placeOfSaid_28 : decode b_Rl_placeOfSaid 28 = .ok (.iconst (-1), 1) := by decide +kernel
theorem d_Rl_placeOfSaid_29 : decode b_Rl_placeOfSaid 29 = .ok (.ireturn, 1) := by decide +kernel
theorem d_Rl_isTerm_0 : decode b_Rl_isTerm 0 = .ok (.iload_n 0, 1) := by decide +kernel
theorem d_Rl_isTerm_1 : decode b_Rl_isTerm 1 = .ok (.ifCond .lt 13, 3) := by decide +kernel
theorem d_Rl_isTerm_4 : decode b_Rl_isTerm 4 = .ok (.iload_n 0, 1) := by decide +kernel
theorem d_Rl_isTerm_5 : decode b_Rl_isTerm 5 = .ok (.bipush 32, 2) := by decide +kernel
theorem d_Rl_isTerm_7 : decode b_Rl_isTerm 7 = .ok (.if_icmp .ge 7, 3) := by decide +kernel
theorem d_Rl_isTerm_10 : decode b_Rl_isTerm 10 = .ok (.iconst 1, 1) := by decide +kernel
theorem d_Rl_isTerm_11 : decode b_Rl_isTerm 11 = .ok (.goto 4, 3) := by decide +kernel
theorem d_Rl_isTerm_14 : decode b_Rl_isTerm 14 = .ok (.iconst 0, 1) := by decide +kernel
theorem d_Rl_isTerm_15 : decode b_Rl_isTerm 15 = .ok (.ireturn, 1) := by decide +kernel
theorem d_Rl_areTerms_0 : decode b_Rl_areTerms 0 = .ok (.iload_n 0, 1) := by decide +kernel
theorem d_Rl_areTerms_1 : decode b_Rl_areTerms 1 = .ok (.invokestatic 101, 3) := by decide +kernel
theorem d_Rl_areTerms_4 : decode b_Rl_areTerms 4 = .ok (.ifCond .eq 21, 3) := by decide +kernel
theorem d_Rl_areTerms_7 : decode b_Rl_areTerms 7 = .ok (.iload_n 1, 1) := by decide +kernel
theorem d_Rl_areTerms_8 : decode b_Rl_areTerms 8 = .ok (.invokestatic 101, 3) := by decide +kernel
theorem d_Rl_areTerms_11 : decode b_Rl_areTerms 11 = .ok (.ifCond .eq 14, 3) := by decide +kernel
theorem d_Rl_areTerms_14 : decode b_Rl_areTerms 14 = .ok (.iload_n 2, 1) := by decide +kernel
theorem d_Rl_areTerms_15 : decode b_Rl_areTerms 15 = .ok (.invokestatic 101, 3) := by decide +kernel
theorem d_Rl_areTerms_18 : decode b_Rl_areTerms 18 = .ok (.ifCond .eq 7, 3) := by decide +kernel
theorem d_Rl_areTerms_21 : decode b_Rl_areTerms 21 = .ok (.iconst 1, 1) := by decide +kernel
theorem d_Rl_areTerms_22 : decode b_Rl_areTerms 22 = .ok (.goto 4, 3) := by decide +kernel
theorem d_Rl_areTerms_25 : decode b_Rl_areTerms 25 = .ok (.iconst 0, 1) := by decide +kernel
theorem d_Rl_areTerms_26 : decode b_Rl_areTerms 26 = .ok (.ireturn, 1) := by decide +kernel
theorem d_Rl_codeOf_0 : decode b_Rl_codeOf 0 = .ok (.iload_n 0, 1) := by decide +kernel
theorem d_Rl_codeOf_1 : decode b_Rl_codeOf 1 = .ok (.bipush 32, 2) := by decide +kernel
theorem d_Rl_codeOf_3 : decode b_Rl_codeOf 3 = .ok (.imul, 1) := by decide +kernel
theorem d_Rl_codeOf_4 : decode b_Rl_codeOf 4 = .ok (.iload_n 1, 1) := by decide +kernel
theorem d_Rl_codeOf_5 : decode b_Rl_codeOf 5 = .ok (.iadd, 1) := by decide +kernel
theorem d_Rl_codeOf_6 : decode b_Rl_codeOf 6 = .ok (.bipush 32, 2) := by decide +kernel
theorem d_Rl_codeOf_8 : decode b_Rl_codeOf 8 = .ok (.imul, 1) := by decide +kernel
theorem d_Rl_codeOf_9 : decode b_Rl_codeOf 9 = .ok (.iload_n 2, 1) := by decide +kernel
theorem d_Rl_codeOf_10 : decode b_Rl_codeOf 10 = .ok (.iadd, 1) := by decide +kernel
theorem d_Rl_codeOf_11 : decode b_Rl_codeOf 11 = .ok (.ireturn, 1) := by decide +kernel
theorem d_Rl_contains_0 : decode b_Rl_contains 0 = .ok (.iload_n 0, 1) := by decide +kernel
theorem d_Rl_contains_1 : decode b_Rl_contains 1 = .ok (.iload_n 1, 1) := by decide +kernel
theorem d_Rl_contains_2 : decode b_Rl_contains 2 = .ok (.iushr, 1) := by decide +kernel
theorem d_Rl_contains_3 : decode b_Rl_contains 3 = .ok (.iconst 1, 1) := by decide +kernel
theorem d_Rl_contains_4 : decode b_Rl_contains 4 = .ok (.iand, 1) := by decide +kernel
theorem d_Rl_contains_5 : decode b_Rl_contains 5 = .ok (.ifCond .eq 7, 3) := by decide +kernel
theorem d_Rl_contains_8 : decode b_Rl_contains 8 = .ok (.iconst 1, 1) := by decide +kernel
theorem d_Rl_contains_9 : decode b_Rl_contains 9 = .ok (.goto 4, 3) := by decide +kernel
theorem d_Rl_contains_12 : decode b_Rl_contains 12 = .ok (.iconst 0, 1) := by decide +kernel
theorem d_Rl_contains_13 : decode b_Rl_contains 13 = .ok (.ireturn, 1) := by decide +kernel
theorem d_Rl_leastOf_0 : decode b_Rl_leastOf 0 = .ok (.iload_n 0, 1) := by decide +kernel
theorem d_Rl_leastOf_1 : decode b_Rl_leastOf 1 = .ok (.iload_n 0, 1) := by decide +kernel
theorem d_Rl_leastOf_2 : decode b_Rl_leastOf 2 = .ok (.ineg, 1) := by decide +kernel
theorem d_Rl_leastOf_3 : decode b_Rl_leastOf 3 = .ok (.iand, 1) := by decide +kernel
theorem d_Rl_leastOf_4 : decode b_Rl_leastOf 4 = .ok (.iconst 1, 1) := by decide +kernel
theorem d_Rl_leastOf_5 : decode b_Rl_leastOf 5 = .ok (.isub, 1) := by decide +kernel
theorem d_Rl_leastOf_6 : decode b_Rl_leastOf 6 = .ok (.invokestatic 124, 3) := by decide +kernel
theorem d_Rl_leastOf_9 : decode b_Rl_leastOf 9 = .ok (.ireturn, 1) := by decide +kernel
theorem d_Rl_withoutLeast_0 : decode b_Rl_withoutLeast 0 = .ok (.iload_n 0, 1) := by decide +kernel
theorem d_Rl_withoutLeast_1 : decode b_Rl_withoutLeast 1 = .ok (.iload_n 0, 1) := by decide +kernel
theorem d_Rl_withoutLeast_2 : decode b_Rl_withoutLeast 2 = .ok (.iconst 1, 1) := by decide +kernel
theorem d_Rl_withoutLeast_3 : decode b_Rl_withoutLeast 3 = .ok (.isub, 1) := by decide +kernel
theorem d_Rl_withoutLeast_4 : decode b_Rl_withoutLeast 4 = .ok (.iand, 1) := by decide +kernel
theorem d_Rl_withoutLeast_5 : decode b_Rl_withoutLeast 5 = .ok (.ireturn, 1) := by decide +kernel
theorem d_Mo_init_0 : decode b_Mo_init 0 = .ok (.aload_n 0, 1) := by decide +kernel
theorem d_Mo_init_1 : decode b_Mo_init 1 = .ok (.invokespecial 1, 3) := by decide +kernel
theorem d_Mo_init_4 : decode b_Mo_init 4 = .ok (.aload_n 0, 1) := by decide +kernel
theorem d_Mo_init_5 : decode b_Mo_init 5 = .ok (.ldc 7, 2) := by decide +kernel
theorem d_Mo_init_7 : decode b_Mo_init 7 = .ok (.newarray .boolean, 2) := by decide +kernel
theorem d_Mo_init_9 : decode b_Mo_init 9 = .ok (.putfield 8, 3) := by decide +kernel
theorem d_Mo_init_12 : decode b_Mo_init 12 = .ok (.aload_n 0, 1) := by decide +kernel
theorem d_Mo_init_13 : decode b_Mo_init 13 = .ok (.bipush 21, 2) := by decide +kernel
theorem d_Mo_init_15 : decode b_Mo_init 15 = .ok (.newarray .boolean, 2) := by decide +kernel
theorem d_Mo_init_17 : decode b_Mo_init 17 = .ok (.putfield 14, 3) := by decide +kernel
theorem d_Mo_init_20 : decode b_Mo_init 20 = .ok (.aload_n 0, 1) := by decide +kernel
theorem d_Mo_init_21 : decode b_Mo_init 21 = .ok (.ldc 7, 2) := by decide +kernel
theorem d_Mo_init_23 : decode b_Mo_init 23 = .ok (.newarray .int, 2) := by decide +kernel
theorem d_Mo_init_25 : decode b_Mo_init 25 = .ok (.putfield 17, 3) := by decide +kernel
theorem d_Mo_init_28 : decode b_Mo_init 28 = .ok (.aload_n 0, 1) := by decide +kernel
theorem d_Mo_init_29 : decode b_Mo_init 29 = .ok (.ldc 7, 2) := by decide +kernel
theorem d_Mo_init_31 : decode b_Mo_init 31 = .ok (.newarray .boolean, 2) := by decide +kernel
theorem d_Mo_init_33 : decode b_Mo_init 33 = .ok (.putfield 21, 3) := by decide +kernel
theorem d_Mo_init_36 : decode b_Mo_init 36 = .ok (.aload_n 0, 1) := by decide +kernel
theorem d_Mo_init_37 : decode b_Mo_init 37 = .ok (.sipush 401, 3) := by decide +kernel
theorem d_Mo_init_40 : decode b_Mo_init 40 = .ok (.newarray .int, 2) := by decide +kernel
theorem d_Mo_init_42 : decode b_Mo_init 42 = .ok (.putfield 24, 3) := by decide +kernel
theorem d_Mo_init_45 : decode b_Mo_init 45 = .ok (.aload_n 0, 1) := by decide +kernel
theorem d_Mo_init_46 : decode b_Mo_init 46 = .ok (.iconst 4, 1) := by decide +kernel
theorem d_Mo_init_47 : decode b_Mo_init 47 = .ok (.newarray .int, 2) := by decide +kernel
theorem d_Mo_init_49 : decode b_Mo_init 49 = .ok (.putfield 27, 3) := by decide +kernel
theorem d_Mo_init_52 : decode b_Mo_init 52 = .ok (.aload_n 0, 1) := by decide +kernel
theorem d_Mo_init_53 : decode b_Mo_init 53 = .ok (.bipush 48, 2) := by decide +kernel
theorem d_Mo_init_55 : decode b_Mo_init 55 = .ok (.newarray .int, 2) := by decide +kernel
theorem d_Mo_init_57 : decode b_Mo_init 57 = .ok (.putfield 30, 3) := by decide +kernel
theorem d_Mo_init_60 : decode b_Mo_init 60 = .ok (.aload_n 0, 1) := by decide +kernel
theorem d_Mo_init_61 : decode b_Mo_init 61 = .ok (.bipush 12, 2) := by decide +kernel
theorem d_Mo_init_63 : decode b_Mo_init 63 = .ok (.newarray .int, 2) := by decide +kernel
theorem d_Mo_init_65 : decode b_Mo_init 65 = .ok (.putfield 33, 3) := by decide +kernel
theorem d_Mo_init_68 : decode b_Mo_init 68 = .ok (.aload_n 0, 1) := by decide +kernel
theorem d_Mo_init_69 : decode b_Mo_init 69 = .ok (.iconst 0, 1) := by decide +kernel
theorem d_Mo_init_70 : decode b_Mo_init 70 = .ok (.putfield 36, 3) := by decide +kernel
theorem d_Mo_init_73 : decode b_Mo_init 73 = .ok (.return_, 1) := by decide +kernel
theorem d_Mo_isTerm_0 : decode b_Mo_isTerm 0 = .ok (.iload_n 0, 1) := by decide +kernel
theorem d_Mo_isTerm_1 : decode b_Mo_isTerm 1 = .ok (.ifCond .lt 13, 3) := by decide +kernel
theorem d_Mo_isTerm_4 : decode b_Mo_isTerm 4 = .ok (.iload_n 0, 1) := by decide +kernel
theorem d_Mo_isTerm_5 : decode b_Mo_isTerm 5 = .ok (.bipush 32, 2) := by decide +kernel
theorem d_Mo_isTerm_7 : decode b_Mo_isTerm 7 = .ok (.if_icmp .ge 7, 3) := by decide +kernel
theorem d_Mo_isTerm_10 : decode b_Mo_isTerm 10 = .ok (.iconst 1, 1) := by decide +kernel
theorem d_Mo_isTerm_11 : decode b_Mo_isTerm 11 = .ok (.goto 4, 3) := by decide +kernel
theorem d_Mo_isTerm_14 : decode b_Mo_isTerm 14 = .ok (.iconst 0, 1) := by decide +kernel
theorem d_Mo_isTerm_15 : decode b_Mo_isTerm 15 = .ok (.ireturn, 1) := by decide +kernel
theorem d_Mo_isTriple_0 : decode b_Mo_isTriple 0 = .ok (.iload_n 0, 1) := by decide +kernel
theorem d_Mo_isTriple_1 : decode b_Mo_isTriple 1 = .ok (.invokestatic 40, 3) := by decide +kernel
theorem d_Mo_isTriple_4 : decode b_Mo_isTriple 4 = .ok (.ifCond .eq 21, 3) := by decide +kernel
theorem d_Mo_isTriple_7 : decode b_Mo_isTriple 7 = .ok (.iload_n 1, 1) := by decide +kernel
theorem d_Mo_isTriple_8 : decode b_Mo_isTriple 8 = .ok (.invokestatic 40, 3) := by decide +kernel
theorem d_Mo_isTriple_11 : decode b_Mo_isTriple 11 = .ok (.ifCond .eq 14, 3) := by decide +kernel
theorem d_Mo_isTriple_14 : decode b_Mo_isTriple 14 = .ok (.iload_n 2, 1) := by decide +kernel
theorem d_Mo_isTriple_15 : decode b_Mo_isTriple 15 = .ok (.invokestatic 40, 3) := by decide +kernel
theorem d_Mo_isTriple_18 : decode b_Mo_isTriple 18 = .ok (.ifCond .eq 7, 3) := by decide +kernel
theorem d_Mo_isTriple_21 : decode b_Mo_isTriple 21 = .ok (.iconst 1, 1) := by decide +kernel
theorem d_Mo_isTriple_22 : decode b_Mo_isTriple 22 = .ok (.goto 4, 3) := by decide +kernel
theorem d_Mo_isTriple_25 : decode b_Mo_isTriple 25 = .ok (.iconst 0, 1) := by decide +kernel
theorem d_Mo_isTriple_26 : decode b_Mo_isTriple 26 = .ok (.ireturn, 1) := by decide +kernel
theorem d_Mo_codeOf_0 : decode b_Mo_codeOf 0 = .ok (.sipush 1024, 3) := by decide +kernel
theorem d_Mo_codeOf_3 : decode b_Mo_codeOf 3 = .ok (.iload_n 0, 1) := by decide +kernel
theorem d_Mo_codeOf_4 : decode b_Mo_codeOf 4 = .ok (.imul, 1) := by decide +kernel
theorem d_Mo_codeOf_5 : decode b_Mo_codeOf 5 = .ok (.bipush 32, 2) := by decide +kernel
theorem d_Mo_codeOf_7 : decode b_Mo_codeOf 7 = .ok (.iload_n 1, 1) := by decide +kernel
theorem d_Mo_codeOf_8 : decode b_Mo_codeOf 8 = .ok (.imul, 1) := by decide +kernel
theorem d_Mo_codeOf_9 : decode b_Mo_codeOf 9 = .ok (.iadd, 1) := by decide +kernel
theorem d_Mo_codeOf_10 : decode b_Mo_codeOf 10 = .ok (.iload_n 2, 1) := by decide +kernel
theorem d_Mo_codeOf_11 : decode b_Mo_codeOf 11 = .ok (.iadd, 1) := by decide +kernel
theorem d_Mo_codeOf_12 : decode b_Mo_codeOf 12 = .ok (.ireturn, 1) := by decide +kernel
theorem d_Mo_pattern_0 : decode b_Mo_pattern 0 = .ok (.iload_n 0, 1) := by decide +kernel
theorem d_Mo_pattern_1 : decode b_Mo_pattern 1 = .ok (.bipush 60, 2) := by decide +kernel
theorem d_Mo_pattern_3 : decode b_Mo_pattern 3 = .ok (.if_icmp .ge 10, 3) := by decide +kernel
theorem d_Mo_pattern_6 : decode b_Mo_pattern 6 = .ok (.iload_n 0, 1) := by decide +kernel
theorem d_Mo_pattern_7 : decode b_Mo_pattern 7 = .ok (.invokestatic 44, 3) := by decide +kernel
theorem d_Mo_pattern_10 : decode b_Mo_pattern 10 = .ok (.goto 7, 3) := by decide +kernel
theorem d_Mo_pattern_13 : decode b_Mo_pattern 13 = .ok (.iload_n 0, 1) := by decide +kernel
theorem d_Mo_pattern_14 : decode b_Mo_pattern 14 = .ok (.invokestatic 48, 3) := by decide +kernel
theorem d_Mo_pattern_17 : decode b_Mo_pattern 17 = .ok (.ireturn, 1) := by decide +kernel
theorem d_Mo_early_0 : decode b_Mo_early 0 = .ok (.iload_n 0, 1) := by decide +kernel
theorem d_Mo_early_1 : decode b_Mo_early 1 = .ok (.tableswitch 363 0 59 #[255, 363, 363, 363, 258, 261, 264, 363, 363, 267, 270, 273, 363, 363, 276, 279, 282, 363, 363, 285, 288, 291, 363, 363, 294, 297, 300, 363, 363, 303, 306, 309, 363, 363, 312, 315, 318, 321, 363, 324, 327, 330, 363, 363, 333, 336, 339, 363, 363, 342, 345, 348, 363, 363, 351, 354, 357, 363, 363, 360], 255) := by decide +kernel
theorem d_Mo_early_256 : decode b_Mo_early 256 = .ok (.ldc 51, 2) := by decide +kernel
theorem d_Mo_early_258 : decode b_Mo_early 258 = .ok (.ireturn, 1) := by decide +kernel
theorem d_Mo_early_259 : decode b_Mo_early 259 = .ok (.ldc 52, 2) := by decide +kernel
theorem d_Mo_early_261 : decode b_Mo_early 261 = .ok (.ireturn, 1) := by decide +kernel
theorem d_Mo_early_262 : decode b_Mo_early 262 = .ok (.ldc 51, 2) := by decide +kernel
theorem d_Mo_early_264 : decode b_Mo_early 264 = .ok (.ireturn, 1) := by decide +kernel
theorem d_Mo_early_265 : decode b_Mo_early 265 = .ok (.ldc 53, 2) := by decide +kernel
theorem d_Mo_early_267 : decode b_Mo_early 267 = .ok (.ireturn, 1) := by decide +kernel
theorem d_Mo_early_268 : decode b_Mo_early 268 = .ok (.ldc 54, 2) := by decide +kernel
theorem d_Mo_early_270 : decode b_Mo_early 270 = .ok (.ireturn, 1) := by decide +kernel
theorem d_Mo_early_271 : decode b_Mo_early 271 = .ok (.ldc 51, 2) := by decide +kernel
theorem d_Mo_early_273 : decode b_Mo_early 273 = .ok (.ireturn, 1) := by decide +kernel
theorem d_Mo_early_274 : decode b_Mo_early 274 = .ok (.ldc 55, 2) := by decide +kernel
theorem d_Mo_early_276 : decode b_Mo_early 276 = .ok (.ireturn, 1) := by decide +kernel
theorem d_Mo_early_277 : decode b_Mo_early 277 = .ok (.ldc 56, 2) := by decide +kernel
theorem d_Mo_early_279 : decode b_Mo_early 279 = .ok (.ireturn, 1) := by decide +kernel
theorem d_Mo_early_280 : decode b_Mo_early 280 = .ok (.ldc 51, 2) := by decide +kernel
theorem d_Mo_early_282 : decode b_Mo_early 282 = .ok (.ireturn, 1) := by decide +kernel
theorem d_Mo_early_283 : decode b_Mo_early 283 = .ok (.ldc 57, 2) := by decide +kernel
theorem d_Mo_early_285 : decode b_Mo_early 285 = .ok (.ireturn, 1) := by decide +kernel
theorem d_Mo_early_286 : decode b_Mo_early 286 = .ok (.ldc 58, 2) := by decide +kernel
theorem d_Mo_early_288 : decode b_Mo_early 288 = .ok (.ireturn, 1) := by decide +kernel
theorem d_Mo_early_289 : decode b_Mo_early 289 = .ok (.ldc 59, 2) := by decide +kernel
theorem d_Mo_early_291 : decode b_Mo_early 291 = .ok (.ireturn, 1) := by decide +kernel
theorem d_Mo_early_292 : decode b_Mo_early 292 = .ok (.ldc 60, 2) := by decide +kernel
theorem d_Mo_early_294 : decode b_Mo_early 294 = .ok (.ireturn, 1) := by decide +kernel
theorem d_Mo_early_295 : decode b_Mo_early 295 = .ok (.ldc 61, 2) := by decide +kernel
theorem d_Mo_early_297 : decode b_Mo_early 297 = .ok (.ireturn, 1) := by decide +kernel
theorem d_Mo_early_298 : decode b_Mo_early 298 = .ok (.ldc 62, 2) := by decide +kernel
theorem d_Mo_early_300 : decode b_Mo_early 300 = .ok (.ireturn, 1) := by decide +kernel
theorem d_Mo_early_301 : decode b_Mo_early 301 = .ok (.ldc 60, 2) := by decide +kernel
theorem d_Mo_early_303 : decode b_Mo_early 303 = .ok (.ireturn, 1) := by decide +kernel
theorem d_Mo_early_304 : decode b_Mo_early 304 = .ok (.ldc 63, 2) := by decide +kernel
theorem d_Mo_early_306 : decode b_Mo_early 306 = .ok (.ireturn, 1) := by decide +kernel
theorem d_Mo_early_307 : decode b_Mo_early 307 = .ok (.ldc 64, 2) := by decide +kernel
theorem d_Mo_early_309 : decode b_Mo_early 309 = .ok (.ireturn, 1) := by decide +kernel
theorem d_Mo_early_310 : decode b_Mo_early 310 = .ok (.ldc 60, 2) := by decide +kernel
theorem d_Mo_early_312 : decode b_Mo_early 312 = .ok (.ireturn, 1) := by decide +kernel
theorem d_Mo_early_313 : decode b_Mo_early 313 = .ok (.ldc 65, 2) := by decide +kernel
theorem d_Mo_early_315 : decode b_Mo_early 315 = .ok (.ireturn, 1) := by decide +kernel
theorem d_Mo_early_316 : decode b_Mo_early 316 = .ok (.ldc 66, 2) := by decide +kernel
theorem d_Mo_early_318 : decode b_Mo_early 318 = .ok (.ireturn, 1) := by decide +kernel
theorem d_Mo_early_319 : decode b_Mo_early 319 = .ok (.ldc 60, 2) := by decide +kernel
theorem d_Mo_early_321 : decode b_Mo_early 321 = .ok (.ireturn, 1) := by decide +kernel
theorem d_Mo_early_322 : decode b_Mo_early 322 = .ok (.ldc 56, 2) := by decide +kernel
theorem d_Mo_early_324 : decode b_Mo_early 324 = .ok (.ireturn, 1) := by decide +kernel
theorem d_Mo_early_325 : decode b_Mo_early 325 = .ok (.ldc 55, 2) := by decide +kernel
theorem d_Mo_early_327 : decode b_Mo_early 327 = .ok (.ireturn, 1) := by decide +kernel
theorem d_Mo_early_328 : decode b_Mo_early 328 = .ok (.ldc 67, 2) := by decide +kernel
theorem d_Mo_early_330 : decode b_Mo_early 330 = .ok (.ireturn, 1) := by decide +kernel
theorem d_Mo_early_331 : decode b_Mo_early 331 = .ok (.ldc 60, 2) := by decide +kernel
theorem d_Mo_early_333 : decode b_Mo_early 333 = .ok (.ireturn, 1) := by decide +kernel
theorem d_Mo_early_334 : decode b_Mo_early 334 = .ok (.ldc 68, 2) := by decide +kernel
theorem d_Mo_early_336 : decode b_Mo_early 336 = .ok (.ireturn, 1) := by decide +kernel
theorem d_Mo_early_337 : decode b_Mo_early 337 = .ok (.ldc 67, 2) := by decide +kernel
theorem d_Mo_early_339 : decode b_Mo_early 339 = .ok (.ireturn, 1) := by decide +kernel
theorem d_Mo_early_340 : decode b_Mo_early 340 = .ok (.ldc 69, 2) := by decide +kernel
theorem d_Mo_early_342 : decode b_Mo_early 342 = .ok (.ireturn, 1) := by decide +kernel
theorem d_Mo_early_343 : decode b_Mo_early 343 = .ok (.ldc 65, 2) := by decide +kernel
theorem d_Mo_early_345 : decode b_Mo_early 345 = .ok (.ireturn, 1) := by decide +kernel
theorem d_Mo_early_346 : decode b_Mo_early 346 = .ok (.ldc 70, 2) := by decide +kernel
theorem d_Mo_early_348 : decode b_Mo_early 348 = .ok (.ireturn, 1) := by decide +kernel
theorem d_Mo_early_349 : decode b_Mo_early 349 = .ok (.ldc 60, 2) := by decide +kernel
theorem d_Mo_early_351 : decode b_Mo_early 351 = .ok (.ireturn, 1) := by decide +kernel
theorem d_Mo_early_352 : decode b_Mo_early 352 = .ok (.ldc 69, 2) := by decide +kernel
theorem d_Mo_early_354 : decode b_Mo_early 354 = .ok (.ireturn, 1) := by decide +kernel
theorem d_Mo_early_355 : decode b_Mo_early 355 = .ok (.ldc 70, 2) := by decide +kernel
theorem d_Mo_early_357 : decode b_Mo_early 357 = .ok (.ireturn, 1) := by decide +kernel
theorem d_Mo_early_358 : decode b_Mo_early 358 = .ok (.ldc 71, 2) := by decide +kernel
theorem d_Mo_early_360 : decode b_Mo_early 360 = .ok (.ireturn, 1) := by decide +kernel
theorem d_Mo_early_361 : decode b_Mo_early 361 = .ok (.ldc 72, 2) := by decide +kernel
theorem d_Mo_early_363 : decode b_Mo_early 363 = .ok (.ireturn, 1) := by decide +kernel
theorem d_Mo_early_364 : decode b_Mo_early 364 = .ok (.iconst (-1), 1) := by decide +kernel
theorem d_Mo_early_365 : decode b_Mo_early 365 = .ok (.ireturn, 1) := by decide +kernel
theorem d_Mo_later_0 : decode b_Mo_later 0 = .ok (.iload_n 0, 1) := by decide +kernel
theorem d_Mo_later_1 : decode b_Mo_later 1 = .ok (.tableswitch 382 60 117 #[247, 250, 382, 382, 253, 256, 259, 382, 382, 262, 265, 268, 271, 382, 274, 277, 280, 283, 382, 286, 289, 292, 295, 298, 301, 304, 307, 310, 313, 316, 319, 322, 325, 382, 328, 331, 334, 337, 382, 340, 343, 346, 349, 352, 355, 358, 361, 382, 382, 382, 364, 367, 370, 382, 382, 373, 376, 379], 247) := by decide +kernel
theorem d_Mo_later_248 : decode b_Mo_later 248 = .ok (.ldc 73, 2) := by decide +kernel
theorem d_Mo_later_250 : decode b_Mo_later 250 = .ok (.ireturn, 1) := by decide +kernel
theorem d_Mo_later_251 : decode b_Mo_later 251 = .ok (.ldc 61, 2) := by decide +kernel
theorem d_Mo_later_253 : decode b_Mo_later 253 = .ok (.ireturn, 1) := by decide +kernel
theorem d_Mo_later_254 : decode b_Mo_later 254 = .ok (.ldc 74, 2) := by decide +kernel
theorem d_Mo_later_256 : decode b_Mo_later 256 = .ok (.ireturn, 1) := by decide +kernel
theorem d_Mo_later_257 : decode b_Mo_later 257 = .ok (.ldc 73, 2) := by decide +kernel
theorem d_Mo_later_259 : decode b_Mo_later 259 = .ok (.ireturn, 1) := by decide +kernel
theorem d_Mo_later_260 : decode b_Mo_later 260 = .ok (.ldc 75, 2) := by decide +kernel
theorem d_Mo_later_262 : decode b_Mo_later 262 = .ok (.ireturn, 1) := by decide +kernel
theorem d_Mo_later_263 : decode b_Mo_later 263 = .ok (.ldc 76, 2) := by decide +kernel
theorem d_Mo_later_265 : decode b_Mo_later 265 = .ok (.ireturn, 1) := by decide +kernel
theorem d_Mo_later_266 : decode b_Mo_later 266 = .ok (.ldc 77, 2) := by decide +kernel
theorem d_Mo_later_268 : decode b_Mo_later 268 = .ok (.ireturn, 1) := by decide +kernel
theorem d_Mo_later_269 : decode b_Mo_later 269 = .ok (.ldc 60, 2) := by decide +kernel
theorem d_Mo_later_271 : decode b_Mo_later 271 = .ok (.ireturn, 1) := by decide +kernel
theorem d_Mo_later_272 : decode b_Mo_later 272 = .ok (.ldc 55, 2) := by decide +kernel
theorem d_Mo_later_274 : decode b_Mo_later 274 = .ok (.ireturn, 1) := by decide +kernel
theorem d_Mo_later_275 : decode b_Mo_later 275 = .ok (.ldc 53, 2) := by decide +kernel
theorem d_Mo_later_277 : decode b_Mo_later 277 = .ok (.ireturn, 1) := by decide +kernel
theorem d_Mo_later_278 : decode b_Mo_later 278 = .ok (.ldc 78, 2) := by decide +kernel
theorem d_Mo_later_280 : decode b_Mo_later 280 = .ok (.ireturn, 1) := by decide +kernel
theorem d_Mo_later_281 : decode b_Mo_later 281 = .ok (.ldc 55, 2) := by decide +kernel
theorem d_Mo_later_283 : decode b_Mo_later 283 = .ok (.ireturn, 1) := by decide +kernel
theorem d_Mo_later_284 : decode b_Mo_later 284 = .ok (.ldc 56, 2) := by decide +kernel
theorem d_Mo_later_286 : decode b_Mo_later 286 = .ok (.ireturn, 1) := by decide +kernel
theorem d_Mo_later_287 : decode b_Mo_later 287 = .ok (.ldc 51, 2) := by decide +kernel
theorem d_Mo_later_289 : decode b_Mo_later 289 = .ok (.ireturn, 1) := by decide +kernel
theorem d_Mo_later_290 : decode b_Mo_later 290 = .ok (.ldc 79, 2) := by decide +kernel
theorem d_Mo_later_292 : decode b_Mo_later 292 = .ok (.ireturn, 1) := by decide +kernel
theorem d_Mo_later_293 : decode b_Mo_later 293 = .ok (.ldc 80, 2) := by decide +kernel
theorem d_Mo_later_295 : decode b_Mo_later 295 = .ok (.ireturn, 1) := by decide +kernel
theorem d_Mo_later_296 : decode b_Mo_later 296 = .ok (.ldc 60, 2) := by decide +kernel
theorem d_Mo_later_298 : decode b_Mo_later 298 = .ok (.ireturn, 1) := by decide +kernel
theorem d_Mo_later_299 : decode b_Mo_later 299 = .ok (.ldc 81, 2) := by decide +kernel
theorem d_Mo_later_301 : decode b_Mo_later 301 = .ok (.ireturn, 1) := by decide +kernel
theorem d_Mo_later_302 : decode b_Mo_later 302 = .ok (.ldc 61, 2) := by decide +kernel
theorem d_Mo_later_304 : decode b_Mo_later 304 = .ok (.ireturn, 1) := by decide +kernel
theorem d_Mo_later_305 : decode b_Mo_later 305 = .ok (.ldc 82, 2) := by decide +kernel
theorem d_Mo_later_307 : decode b_Mo_later 307 = .ok (.ireturn, 1) := by decide +kernel
theorem d_Mo_later_308 : decode b_Mo_later 308 = .ok (.ldc 80, 2) := by decide +kernel
theorem d_Mo_later_310 : decode b_Mo_later 310 = .ok (.ireturn, 1) := by decide +kernel
theorem d_Mo_later_311 : decode b_Mo_later 311 = .ok (.ldc 61, 2) := by decide +kernel
theorem d_Mo_later_313 : decode b_Mo_later 313 = .ok (.ireturn, 1) := by decide +kernel
theorem d_Mo_later_314 : decode b_Mo_later 314 = .ok (.ldc 60, 2) := by decide +kernel
theorem d_Mo_later_316 : decode b_Mo_later 316 = .ok (.ireturn, 1) := by decide +kernel
theorem d_Mo_later_317 : decode b_Mo_later 317 = .ok (.ldc 81, 2) := by decide +kernel
theorem d_Mo_later_319 : decode b_Mo_later 319 = .ok (.ireturn, 1) := by decide +kernel
theorem d_Mo_later_320 : decode b_Mo_later 320 = .ok (.ldc 83, 2) := by decide +kernel
theorem d_Mo_later_322 : decode b_Mo_later 322 = .ok (.ireturn, 1) := by decide +kernel
theorem d_Mo_later_323 : decode b_Mo_later 323 = .ok (.ldc 80, 2) := by decide +kernel
theorem d_Mo_later_325 : decode b_Mo_later 325 = .ok (.ireturn, 1) := by decide +kernel
theorem d_Mo_later_326 : decode b_Mo_later 326 = .ok (.ldc 61, 2) := by decide +kernel
theorem d_Mo_later_328 : decode b_Mo_later 328 = .ok (.ireturn, 1) := by decide +kernel
theorem d_Mo_later_329 : decode b_Mo_later 329 = .ok (.ldc 84, 2) := by decide +kernel
theorem d_Mo_later_331 : decode b_Mo_later 331 = .ok (.ireturn, 1) := by decide +kernel
theorem d_Mo_later_332 : decode b_Mo_later 332 = .ok (.ldc 83, 2) := by decide +kernel
theorem d_Mo_later_334 : decode b_Mo_later 334 = .ok (.ireturn, 1) := by decide +kernel
theorem d_Mo_later_335 : decode b_Mo_later 335 = .ok (.ldc 80, 2) := by decide +kernel
theorem d_Mo_later_337 : decode b_Mo_later 337 = .ok (.ireturn, 1) := by decide +kernel
theorem d_Mo_later_338 : decode b_Mo_later 338 = .ok (.ldc 84, 2) := by decide +kernel
theorem d_Mo_later_340 : decode b_Mo_later 340 = .ok (.ireturn, 1) := by decide +kernel
theorem d_Mo_later_341 : decode b_Mo_later 341 = .ok (.ldc 61, 2) := by decide +kernel
theorem d_Mo_later_343 : decode b_Mo_later 343 = .ok (.ireturn, 1) := by decide +kernel
theorem d_Mo_later_344 : decode b_Mo_later 344 = .ok (.ldc 85, 2) := by decide +kernel
theorem d_Mo_later_346 : decode b_Mo_later 346 = .ok (.ireturn, 1) := by decide +kernel
theorem d_Mo_later_347 : decode b_Mo_later 347 = .ok (.ldc 86, 2) := by decide +kernel
theorem d_Mo_later_349 : decode b_Mo_later 349 = .ok (.ireturn, 1) := by decide +kernel
theorem d_Mo_later_350 : decode b_Mo_later 350 = .ok (.ldc 69, 2) := by decide +kernel
theorem d_Mo_later_352 : decode b_Mo_later 352 = .ok (.ireturn, 1) := by decide +kernel
theorem d_Mo_later_353 : decode b_Mo_later 353 = .ok (.ldc 87, 2) := by decide +kernel
theorem d_Mo_later_355 : decode b_Mo_later 355 = .ok (.ireturn, 1) := by decide +kernel
theorem d_Mo_later_356 : decode b_Mo_later 356 = .ok (.ldc 55, 2) := by decide +kernel
theorem d_Mo_later_358 : decode b_Mo_later 358 = .ok (.ireturn, 1) := by decide +kernel
theorem d_Mo_later_359 : decode b_Mo_later 359 = .ok (.ldc 51, 2) := by decide +kernel
theorem d_Mo_later_361 : decode b_Mo_later 361 = .ok (.ireturn, 1) := by decide +kernel
theorem d_Mo_later_362 : decode b_Mo_later 362 = .ok (.ldc 88, 2) := by decide +kernel
theorem d_Mo_later_364 : decode b_Mo_later 364 = .ok (.ireturn, 1) := by decide +kernel
theorem d_Mo_later_365 : decode b_Mo_later 365 = .ok (.ldc 89, 2) := by decide +kernel
theorem d_Mo_later_367 : decode b_Mo_later 367 = .ok (.ireturn, 1) := by decide +kernel
theorem d_Mo_later_368 : decode b_Mo_later 368 = .ok (.ldc 61, 2) := by decide +kernel
theorem d_Mo_later_370 : decode b_Mo_later 370 = .ok (.ireturn, 1) := by decide +kernel
theorem d_Mo_later_371 : decode b_Mo_later 371 = .ok (.ldc 74, 2) := by decide +kernel
theorem d_Mo_later_373 : decode b_Mo_later 373 = .ok (.ireturn, 1) := by decide +kernel
theorem d_Mo_later_374 : decode b_Mo_later 374 = .ok (.ldc 90, 2) := by decide +kernel
theorem d_Mo_later_376 : decode b_Mo_later 376 = .ok (.ireturn, 1) := by decide +kernel
theorem d_Mo_later_377 : decode b_Mo_later 377 = .ok (.ldc 60, 2) := by decide +kernel
theorem d_Mo_later_379 : decode b_Mo_later 379 = .ok (.ireturn, 1) := by decide +kernel
theorem d_Mo_later_380 : decode b_Mo_later 380 = .ok (.ldc 69, 2) := by decide +kernel
theorem d_Mo_later_382 : decode b_Mo_later 382 = .ok (.ireturn, 1) := by decide +kernel
theorem d_Mo_later_383 : decode b_Mo_later 383 = .ok (.iconst (-1), 1) := by decide +kernel
theorem d_Mo_later_384 : decode b_Mo_later 384 = .ok (.ireturn, 1) := by decide +kernel
end
section
theorem d_Mo_premises_0 : decode b_Mo_premises 0 = .ok (.iconst 0, 1) := by decide +kernel
theorem d_Mo_premises_1 : decode b_Mo_premises 1 = .ok (.istore_n 1, 1) := by decide +kernel
theorem d_Mo_premises_2 : decode b_Mo_premises 2 = .ok (.iconst 0, 1) := by decide +kernel
theorem d_Mo_premises_3 : decode b_Mo_premises 3 = .ok (.istore_n 2, 1) := by decide +kernel
theorem d_Mo_premises_4 : decode b_Mo_premises 4 = .ok (.iload_n 2, 1) := by decide +kernel
theorem d_Mo_premises_5 : decode b_Mo_premises 5 = .ok (.iconst 4, 1) := by decide +kernel
theorem d_Mo_premises_6 : decode b_Mo_premises 6 = .ok (.if_icmp .ge 28, 3) := by decide +kernel
theorem d_Mo_premises_9 : decode b_Mo_premises 9 = .ok (.iload_n 1, 1) := by decide +kernel
theorem d_Mo_premises_10 : decode b_Mo_premises 10 = .ok (.iconst 5, 1) := by decide +kernel
theorem d_Mo_premises_11 : decode b_Mo_premises 11 = .ok (.iload_n 0, 1) := by decide +kernel
theorem d_Mo_premises_12 : decode b_Mo_premises 12 = .ok (.imul, 1) := by decide +kernel
theorem d_Mo_premises_13 : decode b_Mo_premises 13 = .ok (.iload_n 2, 1) := by decide +kernel
theorem d_Mo_premises_14 : decode b_Mo_premises 14 = .ok (.iadd, 1) := by decide +kernel
theorem d_Mo_premises_15 : decode b_Mo_premises 15 = .ok (.invokestatic 91, 3) := by decide +kernel
theorem d_Mo_premises_18 : decode b_Mo_premises 18 = .ok (.ifCond .lt 7, 3) := by decide +kernel
theorem d_Mo_premises_21 : decode b_Mo_premises 21 = .ok (.iconst 1, 1) := by decide +kernel
theorem d_Mo_premises_22 : decode b_Mo_premises 22 = .ok (.goto 4, 3) := by decide +kernel
theorem d_Mo_premises_25 : decode b_Mo_premises 25 = .ok (.iconst 0, 1) := by decide +kernel
theorem d_Mo_premises_26 : decode b_Mo_premises 26 = .ok (.iadd, 1) := by decide +kernel
theorem d_Mo_premises_27 : decode b_Mo_premises 27 = .ok (.istore_n 1, 1) := by decide +kernel
theorem d_Mo_premises_28 : decode b_Mo_premises 28 = .ok (.iinc 2 1, 3) := by decide +kernel
theorem d_Mo_premises_31 : decode b_Mo_premises 31 = .ok (.goto (-27), 3) := by decide +kernel
theorem d_Mo_premises_34 : decode b_Mo_premises 34 = .ok (.iload_n 1, 1) := by decide +kernel
theorem d_Mo_premises_35 : decode b_Mo_premises 35 = .ok (.ireturn, 1) := by decide +kernel
theorem d_Mo_begin_0 : decode b_Mo_begin 0 = .ok (.aload_n 0, 1) := by decide +kernel
theorem d_Mo_begin_1 : decode b_Mo_begin 1 = .ok (.iload_n 1, 1) := by decide +kernel
theorem d_Mo_begin_2 : decode b_Mo_begin 2 = .ok (.putfield 94, 3) := by decide +kernel
theorem d_Mo_begin_5 : decode b_Mo_begin 5 = .ok (.aload_n 0, 1) := by decide +kernel
theorem d_Mo_begin_6 : decode b_Mo_begin 6 = .ok (.iconst 0, 1) := by decide +kernel
theorem d_Mo_begin_7 : decode b_Mo_begin 7 = .ok (.putfield 98, 3) := by decide +kernel
theorem d_Mo_begin_10 : decode b_Mo_begin 10 = .ok (.aload_n 0, 1) := by decide +kernel
theorem d_Mo_begin_11 : decode b_Mo_begin 11 = .ok (.getfield 27, 3) := by decide +kernel
theorem d_Mo_begin_14 : decode b_Mo_begin 14 = .ok (.iconst 0, 1) := by decide +kernel
theorem d_Mo_begin_15 : decode b_Mo_begin 15 = .ok (.iconst (-1), 1) := by decide +kernel
theorem d_Mo_begin_16 : decode b_Mo_begin 16 = .ok (.iastore, 1) := by decide +kernel
theorem d_Mo_begin_17 : decode b_Mo_begin 17 = .ok (.iconst 0, 1) := by decide +kernel
theorem d_Mo_begin_18 : decode b_Mo_begin 18 = .ok (.istore_n 2, 1) := by decide +kernel
theorem d_Mo_begin_19 : decode b_Mo_begin 19 = .ok (.iload_n 2, 1) := by decide +kernel
theorem d_Mo_begin_20 : decode b_Mo_begin 20 = .ok (.bipush 48, 2) := by decide +kernel
theorem d_Mo_begin_22 : decode b_Mo_begin 22 = .ok (.if_icmp .ge 16, 3) := by decide +kernel
theorem d_Mo_begin_25 : decode b_Mo_begin 25 = .ok (.aload_n 0, 1) := by decide +kernel
theorem d_Mo_begin_26 : decode b_Mo_begin 26 = .ok (.getfield 30, 3) := by decide +kernel
theorem d_Mo_begin_29 : decode b_Mo_begin 29 = .ok (.iload_n 2, 1) := by decide +kernel
theorem d_Mo_begin_30 : decode b_Mo_begin 30 = .ok (.iconst 0, 1) := by decide +kernel
theorem d_Mo_begin_31 : decode b_Mo_begin 31 = .ok (.iastore, 1) := by decide +kernel
theorem d_Mo_begin_32 : decode b_Mo_begin 32 = .ok (.iinc 2 1, 3) := by decide +kernel
theorem d_Mo_begin_35 : decode b_Mo_begin 35 = .ok (.goto (-16), 3) := by decide +kernel
theorem d_Mo_begin_38 : decode b_Mo_begin 38 = .ok (.iconst 0, 1) := by decide +kernel
theorem d_Mo_begin_39 : decode b_Mo_begin 39 = .ok (.istore_n 2, 1) := by decide +kernel
theorem d_Mo_begin_40 : decode b_Mo_begin 40 = .ok (.iload_n 2, 1) := by decide +kernel
theorem d_Mo_begin_41 : decode b_Mo_begin 41 = .ok (.bipush 12, 2) := by decide +kernel
theorem d_Mo_begin_43 : decode b_Mo_begin 43 = .ok (.if_icmp .ge 16, 3) := by decide +kernel
theorem d_Mo_begin_46 : decode b_Mo_begin 46 = .ok (.aload_n 0, 1) := by decide +kernel
theorem d_Mo_begin_47 : decode b_Mo_begin 47 = .ok (.getfield 33, 3) := by decide +kernel
theorem d_Mo_begin_50 : decode b_Mo_begin 50 = .ok (.iload_n 2, 1) := by decide +kernel
theorem d_Mo_begin_51 : decode b_Mo_begin 51 = .ok (.iconst 0, 1) := by decide +kernel
theorem d_Mo_begin_52 : decode b_Mo_begin 52 = .ok (.iastore, 1) := by decide +kernel
theorem d_Mo_begin_53 : decode b_Mo_begin 53 = .ok (.iinc 2 1, 3) := by decide +kernel
theorem d_Mo_begin_56 : decode b_Mo_begin 56 = .ok (.goto (-16), 3) := by decide +kernel
theorem d_Mo_begin_59 : decode b_Mo_begin 59 = .ok (.return_, 1) := by decide +kernel
theorem d_Mo_release_0 : decode b_Mo_release 0 = .ok (.iconst 3, 1) := by decide +kernel
theorem d_Mo_release_1 : decode b_Mo_release 1 = .ok (.aload_n 0, 1) := by decide +kernel
theorem d_Mo_release_2 : decode b_Mo_release 2 = .ok (.getfield 98, 3) := by decide +kernel
theorem d_Mo_release_5 : decode b_Mo_release 5 = .ok (.imul, 1) := by decide +kernel
theorem d_Mo_release_6 : decode b_Mo_release 6 = .ok (.istore_n 1, 1) := by decide +kernel
theorem d_Mo_release_7 : decode b_Mo_release 7 = .ok (.iload_n 1, 1) := by decide +kernel
theorem d_Mo_release_8 : decode b_Mo_release 8 = .ok (.iconst 3, 1) := by decide +kernel
theorem d_Mo_release_9 : decode b_Mo_release 9 = .ok (.aload_n 0, 1) := by decide +kernel
theorem d_Mo_release_10 : decode b_Mo_release 10 = .ok (.getfield 98, 3) := by decide +kernel
theorem d_Mo_release_13 : decode b_Mo_release 13 = .ok (.imul, 1) := by decide +kernel
theorem d_Mo_release_14 : decode b_Mo_release 14 = .ok (.iconst 3, 1) := by decide +kernel
theorem d_Mo_release_15 : decode b_Mo_release 15 = .ok (.iadd, 1) := by decide +kernel
theorem d_Mo_release_16 : decode b_Mo_release 16 = .ok (.if_icmp .ge 37, 3) := by decide +kernel
theorem d_Mo_release_19 : decode b_Mo_release 19 = .ok (.aload_n 0, 1) := by decide +kernel
theorem d_Mo_release_20 : decode b_Mo_release 20 = .ok (.getfield 33, 3) := by decide +kernel
theorem d_Mo_release_23 : decode b_Mo_release 23 = .ok (.iload_n 1, 1) := by decide +kernel
theorem d_Mo_release_24 : decode b_Mo_release 24 = .ok (.iaload, 1) := by decide +kernel
theorem d_Mo_release_25 : decode b_Mo_release 25 = .ok (.ifCond .le 22, 3) := by decide +kernel
theorem d_Mo_release_28 : decode b_Mo_release 28 = .ok (.aload_n 0, 1) := by decide +kernel
theorem d_Mo_release_29 : decode b_Mo_release 29 = .ok (.getfield 30, 3) := by decide +kernel
theorem d_Mo_release_32 : decode b_Mo_release 32 = .ok (.aload_n 0, 1) := by decide +kernel
theorem d_Mo_release_33 : decode b_Mo_release 33 = .ok (.getfield 33, 3) := by decide +kernel
theorem d_Mo_release_36 : decode b_Mo_release 36 = .ok (.iload_n 1, 1) := by decide +kernel
theorem d_Mo_release_37 : decode b_Mo_release 37 = .ok (.iaload, 1) := by decide +kernel
theorem d_Mo_release_38 : decode b_Mo_release 38 = .ok (.iconst 0, 1) := by decide +kernel
theorem d_Mo_release_39 : decode b_Mo_release 39 = .ok (.iastore, 1) := by decide +kernel
theorem d_Mo_release_40 : decode b_Mo_release 40 = .ok (.aload_n 0, 1) := by decide +kernel
theorem d_Mo_release_41 : decode b_Mo_release 41 = .ok (.getfield 33, 3) := by decide +kernel
theorem d_Mo_release_44 : decode b_Mo_release 44 = .ok (.iload_n 1, 1) := by decide +kernel
theorem d_Mo_release_45 : decode b_Mo_release 45 = .ok (.iconst 0, 1) := by decide +kernel
theorem d_Mo_release_46 : decode b_Mo_release 46 = .ok (.iastore, 1) := by decide +kernel
theorem d_Mo_release_47 : decode b_Mo_release 47 = .ok (.iinc 1 1, 3) := by decide +kernel
theorem d_Mo_release_50 : decode b_Mo_release 50 = .ok (.goto (-43), 3) := by decide +kernel
theorem d_Mo_release_53 : decode b_Mo_release 53 = .ok (.return_, 1) := by decide +kernel
theorem d_Mo_fitsItem_0 : decode b_Mo_fitsItem 0 = .ok (.iload_n 1, 1) := by decide +kernel
theorem d_Mo_fitsItem_1 : decode b_Mo_fitsItem 1 = .ok (.bipush 32, 2) := by decide +kernel
theorem d_Mo_fitsItem_3 : decode b_Mo_fitsItem 3 = .ok (.if_icmp .ge 14, 3) := by decide +kernel
theorem d_Mo_fitsItem_6 : decode b_Mo_fitsItem 6 = .ok (.iload_n 1, 1) := by decide +kernel
theorem d_Mo_fitsItem_7 : decode b_Mo_fitsItem 7 = .ok (.iload_n 2, 1) := by decide +kernel
theorem d_Mo_fitsItem_8 : decode b_Mo_fitsItem 8 = .ok (.if_icmp .ne 7, 3) := by decide +kernel
theorem d_Mo_fitsItem_11 : decode b_Mo_fitsItem 11 = .ok (.iconst 1, 1) := by decide +kernel
theorem d_Mo_fitsItem_12 : decode b_Mo_fitsItem 12 = .ok (.goto 4, 3) := by decide +kernel
theorem d_Mo_fitsItem_15 : decode b_Mo_fitsItem 15 = .ok (.iconst 0, 1) := by decide +kernel
theorem d_Mo_fitsItem_16 : decode b_Mo_fitsItem 16 = .ok (.ireturn, 1) := by decide +kernel
theorem d_Mo_fitsItem_17 : decode b_Mo_fitsItem 17 = .ok (.aload_n 0, 1) := by decide +kernel
theorem d_Mo_fitsItem_18 : decode b_Mo_fitsItem 18 = .ok (.getfield 30, 3) := by decide +kernel
theorem d_Mo_fitsItem_21 : decode b_Mo_fitsItem 21 = .ok (.iload_n 1, 1) := by decide +kernel
theorem d_Mo_fitsItem_22 : decode b_Mo_fitsItem 22 = .ok (.iaload, 1) := by decide +kernel
theorem d_Mo_fitsItem_23 : decode b_Mo_fitsItem 23 = .ok (.ifCond .le 21, 3) := by decide +kernel
theorem d_Mo_fitsItem_26 : decode b_Mo_fitsItem 26 = .ok (.aload_n 0, 1) := by decide +kernel
theorem d_Mo_fitsItem_27 : decode b_Mo_fitsItem 27 = .ok (.getfield 30, 3) := by decide +kernel
theorem d_Mo_fitsItem_30 : decode b_Mo_fitsItem 30 = .ok (.iload_n 1, 1) := by decide +kernel
theorem d_Mo_fitsItem_31 : decode b_Mo_fitsItem 31 = .ok (.iaload, 1) := by decide +kernel
theorem d_Mo_fitsItem_32 : decode b_Mo_fitsItem 32 = .ok (.iload_n 2, 1) := by decide +kernel
theorem d_Mo_fitsItem_33 : decode b_Mo_fitsItem 33 = .ok (.iconst 1, 1) := by decide +kernel
theorem d_Mo_fitsItem_34 : decode b_Mo_fitsItem 34 = .ok (.iadd, 1) := by decide +kernel
theorem d_Mo_fitsItem_35 : decode b_Mo_fitsItem 35 = .ok (.if_icmp .ne 7, 3) := by decide +kernel
theorem d_Mo_fitsItem_38 : decode b_Mo_fitsItem 38 = .ok (.iconst 1, 1) := by decide +kernel
theorem d_Mo_fitsItem_39 : decode b_Mo_fitsItem 39 = .ok (.goto 4, 3) := by decide +kernel
theorem d_Mo_fitsItem_42 : decode b_Mo_fitsItem 42 = .ok (.iconst 0, 1) := by decide +kernel
theorem d_Mo_fitsItem_43 : decode b_Mo_fitsItem 43 = .ok (.ireturn, 1) := by decide +kernel
theorem d_Mo_fitsItem_44 : decode b_Mo_fitsItem 44 = .ok (.aload_n 0, 1) := by decide +kernel
theorem d_Mo_fitsItem_45 : decode b_Mo_fitsItem 45 = .ok (.getfield 30, 3) := by decide +kernel
theorem d_Mo_fitsItem_48 : decode b_Mo_fitsItem 48 = .ok (.iload_n 1, 1) := by decide +kernel
theorem d_Mo_fitsItem_49 : decode b_Mo_fitsItem 49 = .ok (.iload_n 2, 1) := by decide +kernel
theorem d_Mo_fitsItem_50 : decode b_Mo_fitsItem 50 = .ok (.iconst 1, 1) := by decide +kernel
theorem d_Mo_fitsItem_51 : decode b_Mo_fitsItem 51 = .ok (.iadd, 1) := by decide +kernel
theorem d_Mo_fitsItem_52 : decode b_Mo_fitsItem 52 = .ok (.iastore, 1) := by decide +kernel
theorem d_Mo_fitsItem_53 : decode b_Mo_fitsItem 53 = .ok (.aload_n 0, 1) := by decide +kernel
theorem d_Mo_fitsItem_54 : decode b_Mo_fitsItem 54 = .ok (.getfield 33, 3) := by decide +kernel
theorem d_Mo_fitsItem_57 : decode b_Mo_fitsItem 57 = .ok (.iconst 3, 1) := by decide +kernel
theorem d_Mo_fitsItem_58 : decode b_Mo_fitsItem 58 = .ok (.aload_n 0, 1) := by decide +kernel
theorem d_Mo_fitsItem_59 : decode b_Mo_fitsItem 59 = .ok (.getfield 98, 3) := by decide +kernel
theorem d_Mo_fitsItem_62 : decode b_Mo_fitsItem 62 = .ok (.imul, 1) := by decide +kernel
theorem d_Mo_fitsItem_63 : decode b_Mo_fitsItem 63 = .ok (.iload_n 3, 1) := by decide +kernel
theorem d_Mo_fitsItem_64 : decode b_Mo_fitsItem 64 = .ok (.iadd, 1) := by decide +kernel
theorem d_Mo_fitsItem_65 : decode b_Mo_fitsItem 65 = .ok (.iload_n 1, 1) := by decide +kernel
theorem d_Mo_fitsItem_66 : decode b_Mo_fitsItem 66 = .ok (.iastore, 1) := by decide +kernel
theorem d_Mo_fitsItem_67 : decode b_Mo_fitsItem 67 = .ok (.iconst 1, 1) := by decide +kernel
theorem d_Mo_fitsItem_68 : decode b_Mo_fitsItem 68 = .ok (.ireturn, 1) := by decide +kernel
theorem d_Mo_fits_0 : decode b_Mo_fits 0 = .ok (.iconst 5, 1) := by decide +kernel
theorem d_Mo_fits_1 : decode b_Mo_fits 1 = .ok (.aload_n 0, 1) := by decide +kernel
theorem d_Mo_fits_2 : decode b_Mo_fits 2 = .ok (.getfield 94, 3) := by decide +kernel
theorem d_Mo_fits_5 : decode b_Mo_fits 5 = .ok (.imul, 1) := by decide +kernel
theorem d_Mo_fits_6 : decode b_Mo_fits 6 = .ok (.aload_n 0, 1) := by decide +kernel
theorem d_Mo_fits_7 : decode b_Mo_fits 7 = .ok (.getfield 98, 3) := by decide +kernel
theorem d_Mo_fits_10 : decode b_Mo_fits 10 = .ok (.iadd, 1) := by decide +kernel
theorem d_Mo_fits_11 : decode b_Mo_fits 11 = .ok (.invokestatic 91, 3) := by decide +kernel
theorem d_Mo_fits_14 : decode b_Mo_fits 14 = .ok (.istore_n 2, 1) := by decide +kernel
theorem d_Mo_fits_15 : decode b_Mo_fits 15 = .ok (.aload_n 0, 1) := by decide +kernel
theorem d_Mo_fits_16 : decode b_Mo_fits 16 = .ok (.iload_n 2, 1) := by decide +kernel
theorem d_Mo_fits_17 : decode b_Mo_fits 17 = .ok (.sipush 4096, 3) := by decide +kernel
theorem d_Mo_fits_20 : decode b_Mo_fits 20 = .ok (.idiv, 1) := by decide +kernel
theorem d_Mo_fits_21 : decode b_Mo_fits 21 = .ok (.iload_n 1, 1) := by decide +kernel
theorem d_Mo_fits_22 : decode b_Mo_fits 22 = .ok (.sipush 1024, 3) := by decide +kernel
theorem d_Mo_fits_25 : decode b_Mo_fits 25 = .ok (.idiv, 1) := by decide +kernel
theorem d_Mo_fits_26 : decode b_Mo_fits 26 = .ok (.iconst 0, 1) := by decide +kernel
theorem d_Mo_fits_27 : decode b_Mo_fits 27 = .ok (.invokevirtual 101, 3) := by decide +kernel
theorem d_Mo_fits_30 : decode b_Mo_fits 30 = .ok (.ifCond .eq 45, 3) := by decide +kernel
theorem d_Mo_fits_33 : decode b_Mo_fits 33 = .ok (.aload_n 0, 1) := by decide +kernel
theorem d_Mo_fits_34 : decode b_Mo_fits 34 = .ok (.iload_n 2, 1) := by decide +kernel
theorem d_Mo_fits_35 : decode b_Mo_fits 35 = .ok (.bipush 64, 2) := by decide +kernel
theorem d_Mo_fits_37 : decode b_Mo_fits 37 = .ok (.idiv, 1) := by decide +kernel
theorem d_Mo_fits_38 : decode b_Mo_fits 38 = .ok (.bipush 64, 2) := by decide +kernel
theorem d_Mo_fits_40 : decode b_Mo_fits 40 = .ok (.irem, 1) := by decide +kernel
theorem d_Mo_fits_41 : decode b_Mo_fits 41 = .ok (.iload_n 1, 1) := by decide +kernel
theorem d_Mo_fits_42 : decode b_Mo_fits 42 = .ok (.bipush 32, 2) := by decide +kernel
theorem d_Mo_fits_44 : decode b_Mo_fits 44 = .ok (.idiv, 1) := by decide +kernel
theorem d_Mo_fits_45 : decode b_Mo_fits 45 = .ok (.bipush 32, 2) := by decide +kernel
theorem d_Mo_fits_47 : decode b_Mo_fits 47 = .ok (.irem, 1) := by decide +kernel
theorem d_Mo_fits_48 : decode b_Mo_fits 48 = .ok (.iconst 1, 1) := by decide +kernel
theorem d_Mo_fits_49 : decode b_Mo_fits 49 = .ok (.invokevirtual 101, 3) := by decide +kernel
theorem d_Mo_fits_52 : decode b_Mo_fits 52 = .ok (.ifCond .eq 23, 3) := by decide +kernel
theorem d_Mo_fits_55 : decode b_Mo_fits 55 = .ok (.aload_n 0, 1) := by decide +kernel
theorem d_Mo_fits_56 : decode b_Mo_fits 56 = .ok (.iload_n 2, 1) := by decide +kernel
theorem d_Mo_fits_57 : decode b_Mo_fits 57 = .ok (.bipush 64, 2) := by decide +kernel
theorem d_Mo_fits_59 : decode b_Mo_fits 59 = .ok (.irem, 1) := by decide +kernel
theorem d_Mo_fits_60 : decode b_Mo_fits 60 = .ok (.iload_n 1, 1) := by decide +kernel
theorem d_Mo_fits_61 : decode b_Mo_fits 61 = .ok (.bipush 32, 2) := by decide +kernel
theorem d_Mo_fits_63 : decode b_Mo_fits 63 = .ok (.irem, 1) := by decide +kernel
theorem d_Mo_fits_64 : decode b_Mo_fits 64 = .ok (.iconst 2, 1) := by decide +kernel
theorem d_Mo_fits_65 : decode b_Mo_fits 65 = .ok (.invokevirtual 101, 3) := by decide +kernel
theorem d_Mo_fits_68 : decode b_Mo_fits 68 = .ok (.ifCond .eq 7, 3) := by decide +kernel
theorem d_Mo_fits_71 : decode b_Mo_fits 71 = .ok (.iconst 1, 1) := by decide +kernel
theorem d_Mo_fits_72 : decode b_Mo_fits 72 = .ok (.goto 4, 3) := by decide +kernel
theorem d_Mo_fits_75 : decode b_Mo_fits 75 = .ok (.iconst 0, 1) := by decide +kernel
theorem d_Mo_fits_76 : decode b_Mo_fits 76 = .ok (.ireturn, 1) := by decide +kernel
theorem d_Mo_next_0 : decode b_Mo_next 0 = .ok (.aload_n 0, 1) := by decide +kernel
theorem d_Mo_next_1 : decode b_Mo_next 1 = .ok (.getfield 94, 3) := by decide +kernel
theorem d_Mo_next_4 : decode b_Mo_next 4 = .ok (.invokestatic 105, 3) := by decide +kernel
theorem d_Mo_next_7 : decode b_Mo_next 7 = .ok (.iconst 1, 1) := by decide +kernel
theorem d_Mo_next_8 : decode b_Mo_next 8 = .ok (.isub, 1) := by decide +kernel
theorem d_Mo_next_9 : decode b_Mo_next 9 = .ok (.istore_n 1, 1) := by decide +kernel
theorem d_Mo_next_10 : decode b_Mo_next 10 = .ok (.aload_n 0, 1) := by decide +kernel
theorem d_Mo_next_11 : decode b_Mo_next 11 = .ok (.getfield 98, 3) := by decide +kernel
theorem d_Mo_next_14 : decode b_Mo_next 14 = .ok (.ifCond .lt 103, 3) := by decide +kernel
theorem d_Mo_next_17 : decode b_Mo_next 17 = .ok (.aload_n 0, 1) := by decide +kernel
theorem d_Mo_next_18 : decode b_Mo_next 18 = .ok (.invokevirtual 108, 3) := by decide +kernel
theorem d_Mo_next_21 : decode b_Mo_next 21 = .ok (.aload_n 0, 1) := by decide +kernel
theorem d_Mo_next_22 : decode b_Mo_next 22 = .ok (.getfield 27, 3) := by decide +kernel
theorem d_Mo_next_25 : decode b_Mo_next 25 = .ok (.aload_n 0, 1) := by decide +kernel
theorem d_Mo_next_26 : decode b_Mo_next 26 = .ok (.getfield 98, 3) := by decide +kernel
theorem d_Mo_next_29 : decode b_Mo_next 29 = .ok (.dup2, 1) := by decide +kernel
theorem d_Mo_next_30 : decode b_Mo_next 30 = .ok (.iaload, 1) := by decide +kernel
theorem d_Mo_next_31 : decode b_Mo_next 31 = .ok (.iconst 1, 1) := by decide +kernel
theorem d_Mo_next_32 : decode b_Mo_next 32 = .ok (.iadd, 1) := by decide +kernel
theorem d_Mo_next_33 : decode b_Mo_next 33 = .ok (.iastore, 1) := by decide +kernel
theorem d_Mo_next_34 : decode b_Mo_next 34 = .ok (.aload_n 0, 1) := by decide +kernel
theorem d_Mo_next_35 : decode b_Mo_next 35 = .ok (.getfield 27, 3) := by decide +kernel
theorem d_Mo_next_38 : decode b_Mo_next 38 = .ok (.aload_n 0, 1) := by decide +kernel
theorem d_Mo_next_39 : decode b_Mo_next 39 = .ok (.getfield 98, 3) := by decide +kernel
theorem d_Mo_next_42 : decode b_Mo_next 42 = .ok (.iaload, 1) := by decide +kernel
theorem d_Mo_next_43 : decode b_Mo_next 43 = .ok (.aload_n 0, 1) := by decide +kernel
theorem d_Mo_next_44 : decode b_Mo_next 44 = .ok (.getfield 111, 3) := by decide +kernel
theorem d_Mo_next_47 : decode b_Mo_next 47 = .ok (.if_icmp .ne 16, 3) := by decide +kernel
theorem d_Mo_next_50 : decode b_Mo_next 50 = .ok (.aload_n 0, 1) := by decide +kernel
theorem d_Mo_next_51 : decode b_Mo_next 51 = .ok (.dup, 1) := by decide +kernel
theorem d_Mo_next_52 : decode b_Mo_next 52 = .ok (.getfield 98, 3) := by decide +kernel
theorem d_Mo_next_55 : decode b_Mo_next 55 = .ok (.iconst 1, 1) := by decide +kernel
theorem d_Mo_next_56 : decode b_Mo_next 56 = .ok (.isub, 1) := by decide +kernel
theorem d_Mo_next_57 : decode b_Mo_next 57 = .ok (.putfield 98, 3) := by decide +kernel
theorem d_Mo_next_60 : decode b_Mo_next 60 = .ok (.goto (-50), 3) := by decide +kernel
theorem d_Mo_next_63 : decode b_Mo_next 63 = .ok (.aload_n 0, 1) := by decide +kernel
theorem d_Mo_next_64 : decode b_Mo_next 64 = .ok (.aload_n 0, 1) := by decide +kernel
theorem d_Mo_next_65 : decode b_Mo_next 65 = .ok (.getfield 24, 3) := by decide +kernel
theorem d_Mo_next_68 : decode b_Mo_next 68 = .ok (.aload_n 0, 1) := by decide +kernel
theorem d_Mo_next_69 : decode b_Mo_next 69 = .ok (.getfield 27, 3) := by decide +kernel
theorem d_Mo_next_72 : decode b_Mo_next 72 = .ok (.aload_n 0, 1) := by decide +kernel
theorem d_Mo_next_73 : decode b_Mo_next 73 = .ok (.getfield 98, 3) := by decide +kernel
theorem d_Mo_next_76 : decode b_Mo_next 76 = .ok (.iaload, 1) := by decide +kernel
theorem d_Mo_next_77 : decode b_Mo_next 77 = .ok (.iaload, 1) := by decide +kernel
theorem d_Mo_next_78 : decode b_Mo_next 78 = .ok (.invokevirtual 114, 3) := by decide +kernel
theorem d_Mo_next_81 : decode b_Mo_next 81 = .ok (.ifCond .eq (-71), 3) := by decide +kernel
theorem d_Mo_next_84 : decode b_Mo_next 84 = .ok (.aload_n 0, 1) := by decide +kernel
theorem d_Mo_next_85 : decode b_Mo_next 85 = .ok (.getfield 98, 3) := by decide +kernel
theorem d_Mo_next_88 : decode b_Mo_next 88 = .ok (.iload_n 1, 1) := by decide +kernel
theorem d_Mo_next_89 : decode b_Mo_next 89 = .ok (.if_icmp .ne 5, 3) := by decide +kernel
theorem d_Mo_next_92 : decode b_Mo_next 92 = .ok (.iconst 1, 1) := by decide +kernel
theorem d_Mo_next_93 : decode b_Mo_next 93 = .ok (.ireturn, 1) := by decide +kernel
theorem d_Mo_next_94 : decode b_Mo_next 94 = .ok (.aload_n 0, 1) := by decide +kernel
theorem d_Mo_next_95 : decode b_Mo_next 95 = .ok (.dup, 1) := by decide +kernel
theorem d_Mo_next_96 : decode b_Mo_next 96 = .ok (.getfield 98, 3) := by decide +kernel
theorem d_Mo_next_99 : decode b_Mo_next 99 = .ok (.iconst 1, 1) := by decide +kernel
theorem d_Mo_next_100 : decode b_Mo_next 100 = .ok (.iadd, 1) := by decide +kernel
theorem d_Mo_next_101 : decode b_Mo_next 101 = .ok (.putfield 98, 3) := by decide +kernel
theorem d_Mo_next_104 : decode b_Mo_next 104 = .ok (.aload_n 0, 1) := by decide +kernel
theorem d_Mo_next_105 : decode b_Mo_next 105 = .ok (.getfield 27, 3) := by decide +kernel
theorem d_Mo_next_108 : decode b_Mo_next 108 = .ok (.aload_n 0, 1) := by decide +kernel
theorem d_Mo_next_109 : decode b_Mo_next 109 = .ok (.getfield 98, 3) := by decide +kernel
theorem d_Mo_next_112 : decode b_Mo_next 112 = .ok (.iconst (-1), 1) := by decide +kernel
theorem d_Mo_next_113 : decode b_Mo_next 113 = .ok (.iastore, 1) := by decide +kernel
theorem d_Mo_next_114 : decode b_Mo_next 114 = .ok (.goto (-104), 3) := by decide +kernel
theorem d_Mo_next_117 : decode b_Mo_next 117 = .ok (.iconst 0, 1) := by decide +kernel
theorem d_Mo_next_118 : decode b_Mo_next 118 = .ok (.ireturn, 1) := by decide +kernel
theorem d_Mo_termOf_0 : decode b_Mo_termOf 0 = .ok (.iload_n 1, 1) := by decide +kernel
theorem d_Mo_termOf_1 : decode b_Mo_termOf 1 = .ok (.bipush 32, 2) := by decide +kernel
theorem d_Mo_termOf_3 : decode b_Mo_termOf 3 = .ok (.if_icmp .ge 7, 3) := by decide +kernel
theorem d_Mo_termOf_6 : decode b_Mo_termOf 6 = .ok (.iload_n 1, 1) := by decide +kernel
theorem d_Mo_termOf_7 : decode b_Mo_termOf 7 = .ok (.goto 11, 3) := by decide +kernel
theorem d_Mo_termOf_10 : decode b_Mo_termOf 10 = .ok (.aload_n 0, 1) := by decide +kernel
theorem d_Mo_termOf_11 : decode b_Mo_termOf 11 = .ok (.getfield 30, 3) := by decide +kernel
theorem d_Mo_termOf_14 : decode b_Mo_termOf 14 = .ok (.iload_n 1, 1) := by decide +kernel
theorem d_Mo_termOf_15 : decode b_Mo_termOf 15 = .ok (.iaload, 1) := by decide +kernel
theorem d_Mo_termOf_16 : decode b_Mo_termOf 16 = .ok (.iconst 1, 1) := by decide +kernel
theorem d_Mo_termOf_17 : decode b_Mo_termOf 17 = .ok (.isub, 1) := by decide +kernel
theorem d_Mo_termOf_18 : decode b_Mo_termOf 18 = .ok (.ireturn, 1) := by decide +kernel
theorem d_Mo_given_0 : decode b_Mo_given 0 = .ok (.iconst 5, 1) := by decide +kernel
theorem d_Mo_given_1 : decode b_Mo_given 1 = .ok (.aload_n 0, 1) := by decide +kernel
theorem d_Mo_given_2 : decode b_Mo_given 2 = .ok (.getfield 94, 3) := by decide +kernel
theorem d_Mo_given_5 : decode b_Mo_given 5 = .ok (.imul, 1) := by decide +kernel
theorem d_Mo_given_6 : decode b_Mo_given 6 = .ok (.iconst 4, 1) := by decide +kernel
theorem d_Mo_given_7 : decode b_Mo_given 7 = .ok (.iadd, 1) := by decide +kernel
theorem d_Mo_given_8 : decode b_Mo_given 8 = .ok (.invokestatic 91, 3) := by decide +kernel
theorem d_Mo_given_11 : decode b_Mo_given 11 = .ok (.istore_n 1, 1) := by decide +kernel
theorem d_Mo_given_12 : decode b_Mo_given 12 = .ok (.aload_n 0, 1) := by decide +kernel
theorem d_Mo_given_13 : decode b_Mo_given 13 = .ok (.iload_n 1, 1) := by decide +kernel
theorem d_Mo_given_14 : decode b_Mo_given 14 = .ok (.sipush 4096, 3) := by decide +kernel
theorem d_Mo_given_17 : decode b_Mo_given 17 = .ok (.idiv, 1) := by decide +kernel
theorem d_Mo_given_18 : decode b_Mo_given 18 = .ok (.invokevirtual 117, 3) := by decide +kernel
theorem d_Mo_given_21 : decode b_Mo_given 21 = .ok (.aload_n 0, 1) := by decide +kernel
theorem d_Mo_given_22 : decode b_Mo_given 22 = .ok (.iload_n 1, 1) := by decide +kernel
theorem d_Mo_given_23 : decode b_Mo_given 23 = .ok (.bipush 64, 2) := by decide +kernel
theorem d_Mo_given_25 : decode b_Mo_given 25 = .ok (.idiv, 1) := by decide +kernel
theorem d_Mo_given_26 : decode b_Mo_given 26 = .ok (.bipush 64, 2) := by decide +kernel
theorem d_Mo_given_28 : decode b_Mo_given 28 = .ok (.irem, 1) := by decide +kernel
theorem d_Mo_given_29 : decode b_Mo_given 29 = .ok (.invokevirtual 117, 3) := by decide +kernel
theorem d_Mo_given_32 : decode b_Mo_given 32 = .ok (.aload_n 0, 1) := by decide +kernel
theorem d_Mo_given_33 : decode b_Mo_given 33 = .ok (.iload_n 1, 1) := by decide +kernel
theorem d_Mo_given_34 : decode b_Mo_given 34 = .ok (.bipush 64, 2) := by decide +kernel
theorem d_Mo_given_36 : decode b_Mo_given 36 = .ok (.irem, 1) := by decide +kernel
theorem d_Mo_given_37 : decode b_Mo_given 37 = .ok (.invokevirtual 117, 3) := by decide +kernel
theorem d_Mo_given_40 : decode b_Mo_given 40 = .ok (.invokestatic 120, 3) := by decide +kernel
theorem d_Mo_given_43 : decode b_Mo_given 43 = .ok (.ireturn, 1) := by decide +kernel
theorem d_Mo_collect_0 : decode b_Mo_collect 0 = .ok (.aload_n 0, 1) := by decide +kernel
theorem d_Mo_collect_1 : decode b_Mo_collect 1 = .ok (.iconst 0, 1) := by decide +kernel
theorem d_Mo_collect_2 : decode b_Mo_collect 2 = .ok (.putfield 111, 3) := by decide +kernel
theorem d_Mo_collect_5 : decode b_Mo_collect 5 = .ok (.iconst 0, 1) := by decide +kernel
theorem d_Mo_collect_6 : decode b_Mo_collect 6 = .ok (.istore_n 1, 1) := by decide +kernel
theorem d_Mo_collect_7 : decode b_Mo_collect 7 = .ok (.iload_n 1, 1) := by decide +kernel
theorem d_Mo_collect_8 : decode b_Mo_collect 8 = .ok (.ldc 7, 2) := by decide +kernel
theorem d_Mo_collect_10 : decode b_Mo_collect 10 = .ok (.if_icmp .ge 48, 3) := by decide +kernel
theorem d_Mo_collect_13 : decode b_Mo_collect 13 = .ok (.aload_n 0, 1) := by decide +kernel
theorem d_Mo_collect_14 : decode b_Mo_collect 14 = .ok (.getfield 111, 3) := by decide +kernel
theorem d_Mo_collect_17 : decode b_Mo_collect 17 = .ok (.sipush 400, 3) := by decide +kernel
theorem d_Mo_collect_20 : decode b_Mo_collect 20 = .ok (.if_icmp .gt 38, 3) := by decide +kernel
theorem d_Mo_collect_23 : decode b_Mo_collect 23 = .ok (.aload_n 0, 1) := by decide +kernel
theorem d_Mo_collect_24 : decode b_Mo_collect 24 = .ok (.getfield 17, 3) := by decide +kernel
theorem d_Mo_collect_27 : decode b_Mo_collect 27 = .ok (.iload_n 1, 1) := by decide +kernel
theorem d_Mo_collect_28 : decode b_Mo_collect 28 = .ok (.iaload, 1) := by decide +kernel
theorem d_Mo_collect_29 : decode b_Mo_collect 29 = .ok (.ifCond .le 23, 3) := by decide +kernel
theorem d_Mo_collect_32 : decode b_Mo_collect 32 = .ok (.aload_n 0, 1) := by decide +kernel
theorem d_Mo_collect_33 : decode b_Mo_collect 33 = .ok (.getfield 24, 3) := by decide +kernel
theorem d_Mo_collect_36 : decode b_Mo_collect 36 = .ok (.aload_n 0, 1) := by decide +kernel
theorem d_Mo_collect_37 : decode b_Mo_collect 37 = .ok (.getfield 111, 3) := by decide +kernel
theorem d_Mo_collect_40 : decode b_Mo_collect 40 = .ok (.iload_n 1, 1) := by decide +kernel
theorem d_Mo_collect_41 : decode b_Mo_collect 41 = .ok (.iastore, 1) := by decide +kernel
theorem d_Mo_collect_42 : decode b_Mo_collect 42 = .ok (.aload_n 0, 1) := by decide +kernel
theorem d_Mo_collect_43 : decode b_Mo_collect 43 = .ok (.dup, 1) := by decide +kernel
theorem d_Mo_collect_44 : decode b_Mo_collect 44 = .ok (.getfield 111, 3) := by decide +kernel
theorem d_Mo_collect_47 : decode b_Mo_collect 47 = .ok (.iconst 1, 1) := by decide +kernel
theorem d_Mo_collect_48 : decode b_Mo_collect 48 = .ok (.iadd, 1) := by decide +kernel
theorem d_Mo_collect_49 : decode b_Mo_collect 49 = .ok (.putfield 111, 3) := by decide +kernel
theorem d_Mo_collect_52 : decode b_Mo_collect 52 = .ok (.iinc 1 1, 3) := by decide +kernel
theorem d_Mo_collect_55 : decode b_Mo_collect 55 = .ok (.goto (-48), 3) := by decide +kernel
theorem d_Mo_collect_58 : decode b_Mo_collect 58 = .ok (.return_, 1) := by decide +kernel
theorem d_Mo_make_0 : decode b_Mo_make 0 = .ok (.aload_n 0, 1) := by decide +kernel
theorem d_Mo_make_1 : decode b_Mo_make 1 = .ok (.getfield 36, 3) := by decide +kernel
theorem d_Mo_make_4 : decode b_Mo_make 4 = .ok (.ifCond .eq 4, 3) := by decide +kernel
theorem d_Mo_make_7 : decode b_Mo_make 7 = .ok (.return_, 1) := by decide +kernel
theorem d_Mo_make_8 : decode b_Mo_make 8 = .ok (.aload_n 0, 1) := by decide +kernel
theorem d_Mo_make_9 : decode b_Mo_make 9 = .ok (.iconst 1, 1) := by decide +kernel
theorem d_Mo_make_10 : decode b_Mo_make 10 = .ok (.putfield 36, 3) := by decide +kernel
theorem d_Mo_make_13 : decode b_Mo_make 13 = .ok (.aload_n 0, 1) := by decide +kernel
theorem d_Mo_make_14 : decode b_Mo_make 14 = .ok (.iconst 0, 1) := by decide +kernel
theorem d_Mo_make_15 : decode b_Mo_make 15 = .ok (.putfield 124, 3) := by decide +kernel
theorem d_Mo_make_18 : decode b_Mo_make 18 = .ok (.aload_n 0, 1) := by decide +kernel
theorem d_Mo_make_19 : decode b_Mo_make 19 = .ok (.iconst 0, 1) := by decide +kernel
theorem d_Mo_make_20 : decode b_Mo_make 20 = .ok (.putfield 127, 3) := by decide +kernel
theorem d_Mo_make_23 : decode b_Mo_make 23 = .ok (.iconst 0, 1) := by decide +kernel
theorem d_Mo_make_24 : decode b_Mo_make 24 = .ok (.istore_n 1, 1) := by decide +kernel
theorem d_Mo_make_25 : decode b_Mo_make 25 = .ok (.iload_n 1, 1) := by decide +kernel
theorem d_Mo_make_26 : decode b_Mo_make 26 = .ok (.ldc 7, 2) := by decide +kernel
theorem d_Mo_make_28 : decode b_Mo_make 28 = .ok (.if_icmp .ge 36, 3) := by decide +kernel
theorem d_Mo_make_31 : decode b_Mo_make 31 = .ok (.aload_n 0, 1) := by decide +kernel
theorem d_Mo_make_32 : decode b_Mo_make 32 = .ok (.getfield 17, 3) := by decide +kernel
theorem d_Mo_make_35 : decode b_Mo_make 35 = .ok (.iload_n 1, 1) := by decide +kernel
theorem d_Mo_make_36 : decode b_Mo_make 36 = .ok (.aload_n 0, 1) := by decide +kernel
theorem d_Mo_make_37 : decode b_Mo_make 37 = .ok (.getfield 8, 3) := by decide +kernel
theorem d_Mo_make_40 : decode b_Mo_make 40 = .ok (.iload_n 1, 1) := by decide +kernel
theorem d_Mo_make_41 : decode b_Mo_make 41 = .ok (.baload, 1) := by decide +kernel
theorem d_Mo_make_42 : decode b_Mo_make 42 = .ok (.ifCond .eq 7, 3) := by decide +kernel
theorem d_Mo_make_45 : decode b_Mo_make 45 = .ok (.iconst 1, 1) := by decide +kernel
theorem d_Mo_make_46 : decode b_Mo_make 46 = .ok (.goto 4, 3) := by decide +kernel
theorem d_Mo_make_49 : decode b_Mo_make 49 = .ok (.iconst 0, 1) := by decide +kernel
theorem d_Mo_make_50 : decode b_Mo_make 50 = .ok (.iastore, 1) := by decide +kernel
theorem d_Mo_make_51 : decode b_Mo_make 51 = .ok (.aload_n 0, 1) := by decide +kernel
theorem d_Mo_make_52 : decode b_Mo_make 52 = .ok (.getfield 21, 3) := by decide +kernel
theorem d_Mo_make_55 : decode b_Mo_make 55 = .ok (.iload_n 1, 1) := by decide +kernel
theorem d_Mo_make_56 : decode b_Mo_make 56 = .ok (.iconst 0, 1) := by decide +kernel
theorem d_Mo_make_57 : decode b_Mo_make 57 = .ok (.bastore, 1) := by decide +kernel
theorem d_Mo_make_58 : decode b_Mo_make 58 = .ok (.iinc 1 1, 3) := by decide +kernel
theorem d_Mo_make_61 : decode b_Mo_make 61 = .ok (.goto (-36), 3) := by decide +kernel
theorem d_Mo_make_64 : decode b_Mo_make 64 = .ok (.aload_n 0, 1) := by decide +kernel
theorem d_Mo_make_65 : decode b_Mo_make 65 = .ok (.invokevirtual 130, 3) := by decide +kernel
theorem d_Mo_make_68 : decode b_Mo_make 68 = .ok (.iconst 1, 1) := by decide +kernel
theorem d_Mo_make_69 : decode b_Mo_make 69 = .ok (.istore_n 1, 1) := by decide +kernel
theorem d_Mo_make_70 : decode b_Mo_make 70 = .ok (.iload_n 1, 1) := by decide +kernel
theorem d_Mo_make_71 : decode b_Mo_make 71 = .ok (.ifCond .eq 202, 3) := by decide +kernel
theorem d_Mo_make_74 : decode b_Mo_make 74 = .ok (.aload_n 0, 1) := by decide +kernel
theorem d_Mo_make_75 : decode b_Mo_make 75 = .ok (.getfield 124, 3) := by decide +kernel
theorem d_Mo_make_78 : decode b_Mo_make 78 = .ok (.ifCond .ne 195, 3) := by decide +kernel
theorem d_Mo_make_81 : decode b_Mo_make 81 = .ok (.iconst 0, 1) := by decide +kernel
theorem d_Mo_make_82 : decode b_Mo_make 82 = .ok (.istore_n 1, 1) := by decide +kernel
theorem d_Mo_make_83 : decode b_Mo_make 83 = .ok (.iconst 0, 1) := by decide +kernel
theorem d_Mo_make_84 : decode b_Mo_make 84 = .ok (.istore_n 2, 1) := by decide +kernel
theorem d_Mo_make_85 : decode b_Mo_make 85 = .ok (.iload_n 2, 1) := by decide +kernel
theorem d_Mo_make_86 : decode b_Mo_make 86 = .ok (.bipush 21, 2) := by decide +kernel
theorem d_Mo_make_88 : decode b_Mo_make 88 = .ok (.if_icmp .ge 94, 3) := by decide +kernel
theorem d_Mo_make_91 : decode b_Mo_make 91 = .ok (.aload_n 0, 1) := by decide +kernel
theorem d_Mo_make_92 : decode b_Mo_make 92 = .ok (.getfield 14, 3) := by decide +kernel
theorem d_Mo_make_95 : decode b_Mo_make 95 = .ok (.iload_n 2, 1) := by decide +kernel
theorem d_Mo_make_96 : decode b_Mo_make 96 = .ok (.baload, 1) := by decide +kernel
theorem d_Mo_make_97 : decode b_Mo_make 97 = .ok (.ifCond .ne 79, 3) := by decide +kernel
theorem d_Mo_make_100 : decode b_Mo_make 100 = .ok (.aload_n 0, 1) := by decide +kernel
theorem d_Mo_make_101 : decode b_Mo_make 101 = .ok (.iload_n 2, 1) := by decide +kernel
theorem d_Mo_make_102 : decode b_Mo_make 102 = .ok (.invokevirtual 133, 3) := by decide +kernel
theorem d_Mo_make_105 : decode b_Mo_make 105 = .ok (.aload_n 0, 1) := by decide +kernel
theorem d_Mo_make_106 : decode b_Mo_make 106 = .ok (.invokevirtual 137, 3) := by decide +kernel
theorem d_Mo_make_109 : decode b_Mo_make 109 = .ok (.ifCond .eq 67, 3) := by decide +kernel
theorem d_Mo_make_112 : decode b_Mo_make 112 = .ok (.aload_n 0, 1) := by decide +kernel
theorem d_Mo_make_113 : decode b_Mo_make 113 = .ok (.invokevirtual 141, 3) := by decide +kernel
theorem d_Mo_make_116 : decode b_Mo_make 116 = .ok (.istore_n 3, 1) := by decide +kernel
theorem d_Mo_make_117 : decode b_Mo_make 117 = .ok (.aload_n 0, 1) := by decide +kernel
theorem d_Mo_make_118 : decode b_Mo_make 118 = .ok (.getfield 17, 3) := by decide +kernel
theorem d_Mo_make_121 : decode b_Mo_make 121 = .ok (.iload_n 3, 1) := by decide +kernel
theorem d_Mo_make_122 : decode b_Mo_make 122 = .ok (.iaload, 1) := by decide +kernel
theorem d_Mo_make_123 : decode b_Mo_make 123 = .ok (.ifCond .ne 7, 3) := by decide +kernel
theorem d_Mo_make_126 : decode b_Mo_make 126 = .ok (.iconst 1, 1) := by decide +kernel
theorem d_Mo_make_127 : decode b_Mo_make 127 = .ok (.goto 4, 3) := by decide +kernel
theorem d_Mo_make_130 : decode b_Mo_make 130 = .ok (.iconst 0, 1) := by decide +kernel
theorem d_Mo_make_131 : decode b_Mo_make 131 = .ok (.istore 4, 2) := by decide +kernel
theorem d_Mo_make_133 : decode b_Mo_make 133 = .ok (.aload_n 0, 1) := by decide +kernel
theorem d_Mo_make_134 : decode b_Mo_make 134 = .ok (.getfield 21, 3) := by decide +kernel
theorem d_Mo_make_137 : decode b_Mo_make 137 = .ok (.iload_n 3, 1) := by decide +kernel
theorem d_Mo_make_138 : decode b_Mo_make 138 = .ok (.aload_n 0, 1) := by decide +kernel
theorem d_Mo_make_139 : decode b_Mo_make 139 = .ok (.getfield 21, 3) := by decide +kernel
theorem d_Mo_make_142 : decode b_Mo_make 142 = .ok (.iload_n 3, 1) := by decide +kernel
theorem d_Mo_make_143 : decode b_Mo_make 143 = .ok (.baload, 1) := by decide +kernel
theorem d_Mo_make_144 : decode b_Mo_make 144 = .ok (.ifCond .ne 8, 3) := by decide +kernel
theorem d_Mo_make_147 : decode b_Mo_make 147 = .ok (.iload 4, 2) := by decide +kernel
theorem d_Mo_make_149 : decode b_Mo_make 149 = .ok (.ifCond .eq 7, 3) := by decide +kernel
theorem d_Mo_make_152 : decode b_Mo_make 152 = .ok (.iconst 1, 1) := by decide +kernel
theorem d_Mo_make_153 : decode b_Mo_make 153 = .ok (.goto 4, 3) := by decide +kernel
theorem d_Mo_make_156 : decode b_Mo_make 156 = .ok (.iconst 0, 1) := by decide +kernel
theorem d_Mo_make_157 : decode b_Mo_make 157 = .ok (.bastore, 1) := by decide +kernel
theorem d_Mo_make_158 : decode b_Mo_make 158 = .ok (.iload_n 1, 1) := by decide +kernel
theorem d_Mo_make_159 : decode b_Mo_make 159 = .ok (.ifCond .ne 8, 3) := by decide +kernel
theorem d_Mo_make_162 : decode b_Mo_make 162 = .ok (.iload 4, 2) := by decide +kernel
theorem d_Mo_make_164 : decode b_Mo_make 164 = .ok (.ifCond .eq 7, 3) := by decide +kernel
theorem d_Mo_make_167 : decode b_Mo_make 167 = .ok (.iconst 1, 1) := by decide +kernel
theorem d_Mo_make_168 : decode b_Mo_make 168 = .ok (.goto 4, 3) := by decide +kernel
theorem d_Mo_make_171 : decode b_Mo_make 171 = .ok (.iconst 0, 1) := by decide +kernel
theorem d_Mo_make_172 : decode b_Mo_make 172 = .ok (.istore_n 1, 1) := by decide +kernel
theorem d_Mo_make_173 : decode b_Mo_make 173 = .ok (.goto (-68), 3) := by decide +kernel
theorem d_Mo_make_176 : decode b_Mo_make 176 = .ok (.iinc 2 1, 3) := by decide +kernel
theorem d_Mo_make_179 : decode b_Mo_make 179 = .ok (.goto (-94), 3) := by decide +kernel
theorem d_Mo_make_182 : decode b_Mo_make 182 = .ok (.iload_n 1, 1) := by decide +kernel
theorem d_Mo_make_183 : decode b_Mo_make 183 = .ok (.ifCond .eq (-113), 3) := by decide +kernel
theorem d_Mo_make_186 : decode b_Mo_make 186 = .ok (.aload_n 0, 1) := by decide +kernel
theorem d_Mo_make_187 : decode b_Mo_make 187 = .ok (.dup, 1) := by decide +kernel
theorem d_Mo_make_188 : decode b_Mo_make 188 = .ok (.getfield 127, 3) := by decide +kernel
theorem d_Mo_make_191 : decode b_Mo_make 191 = .ok (.iconst 1, 1) := by decide +kernel
theorem d_Mo_make_192 : decode b_Mo_make 192 = .ok (.iadd, 1) := by decide +kernel
theorem d_Mo_make_193 : decode b_Mo_make 193 = .ok (.putfield 127, 3) := by decide +kernel
theorem d_Mo_make_196 : decode b_Mo_make 196 = .ok (.iconst 0, 1) := by decide +kernel
theorem d_Mo_make_197 : decode b_Mo_make 197 = .ok (.istore_n 2, 1) := by decide +kernel
theorem d_Mo_make_198 : decode b_Mo_make 198 = .ok (.iload_n 2, 1) := by decide +kernel
theorem d_Mo_make_199 : decode b_Mo_make 199 = .ok (.ldc 7, 2) := by decide +kernel
theorem d_Mo_make_201 : decode b_Mo_make 201 = .ok (.if_icmp .ge 46, 3) := by decide +kernel
theorem d_Mo_make_204 : decode b_Mo_make 204 = .ok (.aload_n 0, 1) := by decide +kernel
theorem d_Mo_make_205 : decode b_Mo_make 205 = .ok (.getfield 17, 3) := by decide +kernel
theorem d_Mo_make_208 : decode b_Mo_make 208 = .ok (.iload_n 2, 1) := by decide +kernel
theorem d_Mo_make_209 : decode b_Mo_make 209 = .ok (.aload_n 0, 1) := by decide +kernel
theorem d_Mo_make_210 : decode b_Mo_make 210 = .ok (.getfield 21, 3) := by decide +kernel
theorem d_Mo_make_213 : decode b_Mo_make 213 = .ok (.iload_n 2, 1) := by decide +kernel
theorem d_Mo_make_214 : decode b_Mo_make 214 = .ok (.baload, 1) := by decide +kernel
theorem d_Mo_make_215 : decode b_Mo_make 215 = .ok (.ifCond .eq 12, 3) := by decide +kernel
theorem d_Mo_make_218 : decode b_Mo_make 218 = .ok (.aload_n 0, 1) := by decide +kernel
theorem d_Mo_make_219 : decode b_Mo_make 219 = .ok (.getfield 127, 3) := by decide +kernel
theorem d_Mo_make_222 : decode b_Mo_make 222 = .ok (.iconst 1, 1) := by decide +kernel
theorem d_Mo_make_223 : decode b_Mo_make 223 = .ok (.iadd, 1) := by decide +kernel
theorem d_Mo_make_224 : decode b_Mo_make 224 = .ok (.goto 9, 3) := by decide +kernel
theorem d_Mo_make_227 : decode b_Mo_make 227 = .ok (.aload_n 0, 1) := by decide +kernel
theorem d_Mo_make_228 : decode b_Mo_make 228 = .ok (.getfield 17, 3) := by decide +kernel
theorem d_Mo_make_231 : decode b_Mo_make 231 = .ok (.iload_n 2, 1) := by decide +kernel
theorem d_Mo_make_232 : decode b_Mo_make 232 = .ok (.iaload, 1) := by decide +kernel
theorem d_Mo_make_233 : decode b_Mo_make 233 = .ok (.iastore, 1) := by decide +kernel
theorem d_Mo_make_234 : decode b_Mo_make 234 = .ok (.aload_n 0, 1) := by decide +kernel
theorem d_Mo_make_235 : decode b_Mo_make 235 = .ok (.getfield 21, 3) := by decide +kernel
theorem d_Mo_make_238 : decode b_Mo_make 238 = .ok (.iload_n 2, 1) := by decide +kernel
theorem d_Mo_make_239 : decode b_Mo_make 239 = .ok (.iconst 0, 1) := by decide +kernel
theorem d_Mo_make_240 : decode b_Mo_make 240 = .ok (.bastore, 1) := by decide +kernel
theorem d_Mo_make_241 : decode b_Mo_make 241 = .ok (.iinc 2 1, 3) := by decide +kernel
theorem d_Mo_make_244 : decode b_Mo_make 244 = .ok (.goto (-46), 3) := by decide +kernel
theorem d_Mo_make_247 : decode b_Mo_make 247 = .ok (.aload_n 0, 1) := by decide +kernel
theorem d_Mo_make_248 : decode b_Mo_make 248 = .ok (.invokevirtual 130, 3) := by decide +kernel
theorem d_Mo_make_251 : decode b_Mo_make 251 = .ok (.aload_n 0, 1) := by decide +kernel
theorem d_Mo_make_252 : decode b_Mo_make 252 = .ok (.aload_n 0, 1) := by decide +kernel
theorem d_Mo_make_253 : decode b_Mo_make 253 = .ok (.getfield 111, 3) := by decide +kernel
theorem d_Mo_make_256 : decode b_Mo_make 256 = .ok (.sipush 400, 3) := by decide +kernel
theorem d_Mo_make_259 : decode b_Mo_make 259 = .ok (.if_icmp .le 7, 3) := by decide +kernel
theorem d_Mo_make_262 : decode b_Mo_make 262 = .ok (.iconst 1, 1) := by decide +kernel
theorem d_Mo_make_263 : decode b_Mo_make 263 = .ok (.goto 4, 3) := by decide +kernel
theorem d_Mo_make_266 : decode b_Mo_make 266 = .ok (.iconst 0, 1) := by decide +kernel
theorem d_Mo_make_267 : decode b_Mo_make 267 = .ok (.putfield 124, 3) := by decide +kernel
theorem d_Mo_make_270 : decode b_Mo_make 270 = .ok (.goto (-200), 3) := by decide +kernel
theorem d_Mo_make_273 : decode b_Mo_make 273 = .ok (.return_, 1) := by decide +kernel
end
section
theorem d_Mo_say_0 : decode b_Mo_say 0 = .ok (.iload_n 1, 1) := by decide +kernel
theorem d_Mo_say_1 : decode b_Mo_say 1 = .ok (.iload_n 2, 1) := by decide +kernel
theorem d_Mo_say_2 : decode b_Mo_say 2 = .ok (.iload_n 3, 1) := by decide +kernel
theorem d_Mo_say_3 : decode b_Mo_say 3 = .ok (.invokestatic 145, 3) := by decide +kernel
theorem d_Mo_say_6 : decode b_Mo_say 6 = .ok (.ifCond .ne 5, 3) := by decide +kernel
theorem d_Mo_say_9 : decode b_Mo_say 9 = .ok (.iconst (-1), 1) := by decide +kernel
theorem d_Mo_say_10 : decode b_Mo_say 10 = .ok (.ireturn, 1) := by decide +kernel
theorem d_Mo_say_11 : decode b_Mo_say 11 = .ok (.iload_n 1, 1) := by decide +kernel
theorem d_Mo_say_12 : decode b_Mo_say 12 = .ok (.iload_n 2, 1) := by decide +kernel
theorem d_Mo_say_13 : decode b_Mo_say 13 = .ok (.iload_n 3, 1) := by decide +kernel
theorem d_Mo_say_14 : decode b_Mo_say 14 = .ok (.invokestatic 120, 3) := by decide +kernel
theorem d_Mo_say_17 : decode b_Mo_say 17 = .ok (.istore 4, 2) := by decide +kernel
theorem d_Mo_say_19 : decode b_Mo_say 19 = .ok (.aload_n 0, 1) := by decide +kernel
theorem d_Mo_say_20 : decode b_Mo_say 20 = .ok (.getfield 8, 3) := by decide +kernel
theorem d_Mo_say_23 : decode b_Mo_say 23 = .ok (.iload 4, 2) := by decide +kernel
theorem d_Mo_say_25 : decode b_Mo_say 25 = .ok (.baload, 1) := by decide +kernel
theorem d_Mo_say_26 : decode b_Mo_say 26 = .ok (.ifCond .eq 5, 3) := by decide +kernel
theorem d_Mo_say_29 : decode b_Mo_say 29 = .ok (.iconst 0, 1) := by decide +kernel
theorem d_Mo_say_30 : decode b_Mo_say 30 = .ok (.ireturn, 1) := by decide +kernel
theorem d_Mo_say_31 : decode b_Mo_say 31 = .ok (.aload_n 0, 1) := by decide +kernel
theorem d_Mo_say_32 : decode b_Mo_say 32 = .ok (.getfield 148, 3) := by decide +kernel
theorem d_Mo_say_35 : decode b_Mo_say 35 = .ok (.bipush 120, 2) := by decide +kernel
theorem d_Mo_say_37 : decode b_Mo_say 37 = .ok (.if_icmp .ne 6, 3) := by decide +kernel
theorem d_Mo_say_40 : decode b_Mo_say 40 = .ok (.bipush (-3), 2) := by decide +kernel
theorem d_Mo_say_42 : decode b_Mo_say 42 = .ok (.ireturn, 1) := by decide +kernel
theorem d_Mo_say_43 : decode b_Mo_say 43 = .ok (.aload_n 0, 1) := by decide +kernel
theorem d_Mo_say_44 : decode b_Mo_say 44 = .ok (.getfield 8, 3) := by decide +kernel
theorem d_Mo_say_47 : decode b_Mo_say 47 = .ok (.iload 4, 2) := by decide +kernel
theorem d_Mo_say_49 : decode b_Mo_say 49 = .ok (.iconst 1, 1) := by decide +kernel
theorem d_Mo_say_50 : decode b_Mo_say 50 = .ok (.bastore, 1) := by decide +kernel
theorem d_Mo_say_51 : decode b_Mo_say 51 = .ok (.aload_n 0, 1) := by decide +kernel
theorem d_Mo_say_52 : decode b_Mo_say 52 = .ok (.dup, 1) := by decide +kernel
theorem d_Mo_say_53 : decode b_Mo_say 53 = .ok (.getfield 148, 3) := by decide +kernel
theorem d_Mo_say_56 : decode b_Mo_say 56 = .ok (.iconst 1, 1) := by decide +kernel
theorem d_Mo_say_57 : decode b_Mo_say 57 = .ok (.iadd, 1) := by decide +kernel
theorem d_Mo_say_58 : decode b_Mo_say 58 = .ok (.putfield 148, 3) := by decide +kernel
theorem d_Mo_say_61 : decode b_Mo_say 61 = .ok (.aload_n 0, 1) := by decide +kernel
theorem d_Mo_say_62 : decode b_Mo_say 62 = .ok (.iconst 0, 1) := by decide +kernel
theorem d_Mo_say_63 : decode b_Mo_say 63 = .ok (.putfield 36, 3) := by decide +kernel
theorem d_Mo_say_66 : decode b_Mo_say 66 = .ok (.iconst 1, 1) := by decide +kernel
theorem d_Mo_say_67 : decode b_Mo_say 67 = .ok (.ireturn, 1) := by decide +kernel
theorem d_Mo_unsay_0 : decode b_Mo_unsay 0 = .ok (.iload_n 1, 1) := by decide +kernel
theorem d_Mo_unsay_1 : decode b_Mo_unsay 1 = .ok (.iload_n 2, 1) := by decide +kernel
theorem d_Mo_unsay_2 : decode b_Mo_unsay 2 = .ok (.iload_n 3, 1) := by decide +kernel
theorem d_Mo_unsay_3 : decode b_Mo_unsay 3 = .ok (.invokestatic 145, 3) := by decide +kernel
theorem d_Mo_unsay_6 : decode b_Mo_unsay 6 = .ok (.ifCond .ne 5, 3) := by decide +kernel
theorem d_Mo_unsay_9 : decode b_Mo_unsay 9 = .ok (.iconst (-1), 1) := by decide +kernel
theorem d_Mo_unsay_10 : decode b_Mo_unsay 10 = .ok (.ireturn, 1) := by decide +kernel
theorem d_Mo_unsay_11 : decode b_Mo_unsay 11 = .ok (.iload_n 1, 1) := by decide +kernel
theorem d_Mo_unsay_12 : decode b_Mo_unsay 12 = .ok (.iload_n 2, 1) := by decide +kernel
theorem d_Mo_unsay_13 : decode b_Mo_unsay 13 = .ok (.iload_n 3, 1) := by decide +kernel
theorem d_Mo_unsay_14 : decode b_Mo_unsay 14 = .ok (.invokestatic 120, 3) := by decide +kernel
theorem d_Mo_unsay_17 : decode b_Mo_unsay 17 = .ok (.istore 4, 2) := by decide +kernel
theorem d_Mo_unsay_19 : decode b_Mo_unsay 19 = .ok (.aload_n 0, 1) := by decide +kernel
theorem d_Mo_unsay_20 : decode b_Mo_unsay 20 = .ok (.getfield 8, 3) := by decide +kernel
theorem d_Mo_unsay_23 : decode b_Mo_unsay 23 = .ok (.iload 4, 2) := by decide +kernel
theorem d_Mo_unsay_25 : decode b_Mo_unsay 25 = .ok (.baload, 1) := by decide +kernel
theorem d_Mo_unsay_26 : decode b_Mo_unsay 26 = .ok (.ifCond .ne 5, 3) := by decide +kernel
theorem d_Mo_unsay_29 : decode b_Mo_unsay 29 = .ok (.iconst 0, 1) := by decide +kernel
theorem d_Mo_unsay_30 : decode b_Mo_unsay 30 = .ok (.ireturn, 1) := by decide +kernel
theorem d_Mo_unsay_31 : decode b_Mo_unsay 31 = .ok (.aload_n 0, 1) := by decide +kernel
theorem d_Mo_unsay_32 : decode b_Mo_unsay 32 = .ok (.getfield 8, 3) := by decide +kernel
theorem d_Mo_unsay_35 : decode b_Mo_unsay 35 = .ok (.iload 4, 2) := by decide +kernel
theorem d_Mo_unsay_37 : decode b_Mo_unsay 37 = .ok (.iconst 0, 1) := by decide +kernel
theorem d_Mo_unsay_38 : decode b_Mo_unsay 38 = .ok (.bastore, 1) := by decide +kernel
theorem d_Mo_unsay_39 : decode b_Mo_unsay 39 = .ok (.aload_n 0, 1) := by decide +kernel
theorem d_Mo_unsay_40 : decode b_Mo_unsay 40 = .ok (.dup, 1) := by decide +kernel
theorem d_Mo_unsay_41 : decode b_Mo_unsay 41 = .ok (.getfield 148, 3) := by decide +kernel
theorem d_Mo_unsay_44 : decode b_Mo_unsay 44 = .ok (.iconst 1, 1) := by decide +kernel
theorem d_Mo_unsay_45 : decode b_Mo_unsay 45 = .ok (.isub, 1) := by decide +kernel
theorem d_Mo_unsay_46 : decode b_Mo_unsay 46 = .ok (.putfield 148, 3) := by decide +kernel
theorem d_Mo_unsay_49 : decode b_Mo_unsay 49 = .ok (.aload_n 0, 1) := by decide +kernel
theorem d_Mo_unsay_50 : decode b_Mo_unsay 50 = .ok (.iconst 0, 1) := by decide +kernel
theorem d_Mo_unsay_51 : decode b_Mo_unsay 51 = .ok (.putfield 36, 3) := by decide +kernel
theorem d_Mo_unsay_54 : decode b_Mo_unsay 54 = .ok (.iconst 1, 1) := by decide +kernel
theorem d_Mo_unsay_55 : decode b_Mo_unsay 55 = .ok (.ireturn, 1) := by decide +kernel
theorem d_Mo_rule_0 : decode b_Mo_rule 0 = .ok (.iload_n 1, 1) := by decide +kernel
theorem d_Mo_rule_1 : decode b_Mo_rule 1 = .ok (.ifCond .lt 9, 3) := by decide +kernel
theorem d_Mo_rule_4 : decode b_Mo_rule 4 = .ok (.iload_n 1, 1) := by decide +kernel
theorem d_Mo_rule_5 : decode b_Mo_rule 5 = .ok (.bipush 21, 2) := by decide +kernel
theorem d_Mo_rule_7 : decode b_Mo_rule 7 = .ok (.if_icmp .lt 5, 3) := by decide +kernel
theorem d_Mo_rule_10 : decode b_Mo_rule 10 = .ok (.iconst (-1), 1) := by decide +kernel
theorem d_Mo_rule_11 : decode b_Mo_rule 11 = .ok (.ireturn, 1) := by decide +kernel
theorem d_Mo_rule_12 : decode b_Mo_rule 12 = .ok (.aload_n 0, 1) := by decide +kernel
theorem d_Mo_rule_13 : decode b_Mo_rule 13 = .ok (.getfield 14, 3) := by decide +kernel
theorem d_Mo_rule_16 : decode b_Mo_rule 16 = .ok (.iload_n 1, 1) := by decide +kernel
theorem d_Mo_rule_17 : decode b_Mo_rule 17 = .ok (.baload, 1) := by decide +kernel
theorem d_Mo_rule_18 : decode b_Mo_rule 18 = .ok (.iload_n 2, 1) := by decide +kernel
theorem d_Mo_rule_19 : decode b_Mo_rule 19 = .ok (.if_icmp .eq 5, 3) := by decide +kernel
theorem d_Mo_rule_22 : decode b_Mo_rule 22 = .ok (.iconst 0, 1) := by decide +kernel
theorem d_Mo_rule_23 : decode b_Mo_rule 23 = .ok (.ireturn, 1) := by decide +kernel
theorem d_Mo_rule_24 : decode b_Mo_rule 24 = .ok (.aload_n 0, 1) := by decide +kernel
theorem d_Mo_rule_25 : decode b_Mo_rule 25 = .ok (.getfield 14, 3) := by decide +kernel
theorem d_Mo_rule_28 : decode b_Mo_rule 28 = .ok (.iload_n 1, 1) := by decide +kernel
theorem d_Mo_rule_29 : decode b_Mo_rule 29 = .ok (.iload_n 2, 1) := by decide +kernel
theorem d_Mo_rule_30 : decode b_Mo_rule 30 = .ok (.ifCond .ne 7, 3) := by decide +kernel
theorem d_Mo_rule_33 : decode b_Mo_rule 33 = .ok (.iconst 1, 1) := by decide +kernel
theorem d_Mo_rule_34 : decode b_Mo_rule 34 = .ok (.goto 4, 3) := by decide +kernel
theorem d_Mo_rule_37 : decode b_Mo_rule 37 = .ok (.iconst 0, 1) := by decide +kernel
theorem d_Mo_rule_38 : decode b_Mo_rule 38 = .ok (.bastore, 1) := by decide +kernel
theorem d_Mo_rule_39 : decode b_Mo_rule 39 = .ok (.aload_n 0, 1) := by decide +kernel
theorem d_Mo_rule_40 : decode b_Mo_rule 40 = .ok (.iconst 0, 1) := by decide +kernel
theorem d_Mo_rule_41 : decode b_Mo_rule 41 = .ok (.putfield 36, 3) := by decide +kernel
theorem d_Mo_rule_44 : decode b_Mo_rule 44 = .ok (.iconst 1, 1) := by decide +kernel
theorem d_Mo_rule_45 : decode b_Mo_rule 45 = .ok (.ireturn, 1) := by decide +kernel
theorem d_Mo_run_0 : decode b_Mo_run 0 = .ok (.aload_n 0, 1) := by decide +kernel
theorem d_Mo_run_1 : decode b_Mo_run 1 = .ok (.invokevirtual 151, 3) := by decide +kernel
theorem d_Mo_run_4 : decode b_Mo_run 4 = .ok (.aload_n 0, 1) := by decide +kernel
theorem d_Mo_run_5 : decode b_Mo_run 5 = .ok (.getfield 124, 3) := by decide +kernel
theorem d_Mo_run_8 : decode b_Mo_run 8 = .ok (.ifCond .eq 8, 3) := by decide +kernel
theorem d_Mo_run_11 : decode b_Mo_run 11 = .ok (.bipush (-4), 2) := by decide +kernel
theorem d_Mo_run_13 : decode b_Mo_run 13 = .ok (.goto 7, 3) := by decide +kernel
theorem d_Mo_run_16 : decode b_Mo_run 16 = .ok (.aload_n 0, 1) := by decide +kernel
theorem d_Mo_run_17 : decode b_Mo_run 17 = .ok (.getfield 127, 3) := by decide +kernel
theorem d_Mo_run_20 : decode b_Mo_run 20 = .ok (.ireturn, 1) := by decide +kernel
theorem d_Mo_size_0 : decode b_Mo_size 0 = .ok (.aload_n 0, 1) := by decide +kernel
theorem d_Mo_size_1 : decode b_Mo_size 1 = .ok (.invokevirtual 151, 3) := by decide +kernel
theorem d_Mo_size_4 : decode b_Mo_size 4 = .ok (.aload_n 0, 1) := by decide +kernel
theorem d_Mo_size_5 : decode b_Mo_size 5 = .ok (.getfield 124, 3) := by decide +kernel
theorem d_Mo_size_8 : decode b_Mo_size 8 = .ok (.ifCond .eq 8, 3) := by decide +kernel
theorem d_Mo_size_11 : decode b_Mo_size 11 = .ok (.bipush (-4), 2) := by decide +kernel
theorem d_Mo_size_13 : decode b_Mo_size 13 = .ok (.goto 7, 3) := by decide +kernel
theorem d_Mo_size_16 : decode b_Mo_size 16 = .ok (.aload_n 0, 1) := by decide +kernel
theorem d_Mo_size_17 : decode b_Mo_size 17 = .ok (.getfield 111, 3) := by decide +kernel
theorem d_Mo_size_20 : decode b_Mo_size 20 = .ok (.ireturn, 1) := by decide +kernel
theorem d_Mo_triple_0 : decode b_Mo_triple 0 = .ok (.aload_n 0, 1) := by decide +kernel
theorem d_Mo_triple_1 : decode b_Mo_triple 1 = .ok (.invokevirtual 151, 3) := by decide +kernel
theorem d_Mo_triple_4 : decode b_Mo_triple 4 = .ok (.aload_n 0, 1) := by decide +kernel
theorem d_Mo_triple_5 : decode b_Mo_triple 5 = .ok (.getfield 124, 3) := by decide +kernel
theorem d_Mo_triple_8 : decode b_Mo_triple 8 = .ok (.ifCond .eq 8, 3) := by decide +kernel
theorem d_Mo_triple_11 : decode b_Mo_triple 11 = .ok (.bipush (-4), 2) := by decide +kernel
theorem d_Mo_triple_13 : decode b_Mo_triple 13 = .ok (.goto 26, 3) := by decide +kernel
theorem d_Mo_triple_16 : decode b_Mo_triple 16 = .ok (.iload_n 1, 1) := by decide +kernel
theorem d_Mo_triple_17 : decode b_Mo_triple 17 = .ok (.ifCond .lt 20, 3) := by decide +kernel
theorem d_Mo_triple_20 : decode b_Mo_triple 20 = .ok (.iload_n 1, 1) := by decide +kernel
theorem d_Mo_triple_21 : decode b_Mo_triple 21 = .ok (.aload_n 0, 1) := by decide +kernel
theorem d_Mo_triple_22 : decode b_Mo_triple 22 = .ok (.getfield 111, 3) := by decide +kernel
theorem d_Mo_triple_25 : decode b_Mo_triple 25 = .ok (.if_icmp .ge 12, 3) := by decide +kernel
theorem d_Mo_triple_28 : decode b_Mo_triple 28 = .ok (.aload_n 0, 1) := by decide +kernel
theorem d_Mo_triple_29 : decode b_Mo_triple 29 = .ok (.getfield 24, 3) := by decide +kernel
theorem d_Mo_triple_32 : decode b_Mo_triple 32 = .ok (.iload_n 1, 1) := by decide +kernel
theorem d_Mo_triple_33 : decode b_Mo_triple 33 = .ok (.iaload, 1) := by decide +kernel
theorem d_Mo_triple_34 : decode b_Mo_triple 34 = .ok (.goto 5, 3) := by decide +kernel
theorem d_Mo_triple_37 : decode b_Mo_triple 37 = .ok (.bipush (-2), 2) := by decide +kernel
theorem d_Mo_triple_39 : decode b_Mo_triple 39 = .ok (.ireturn, 1) := by decide +kernel
theorem d_Mo_round_0 : decode b_Mo_round 0 = .ok (.iload_n 1, 1) := by decide +kernel
theorem d_Mo_round_1 : decode b_Mo_round 1 = .ok (.iload_n 2, 1) := by decide +kernel
theorem d_Mo_round_2 : decode b_Mo_round 2 = .ok (.iload_n 3, 1) := by decide +kernel
theorem d_Mo_round_3 : decode b_Mo_round 3 = .ok (.invokestatic 145, 3) := by decide +kernel
theorem d_Mo_round_6 : decode b_Mo_round 6 = .ok (.ifCond .ne 5, 3) := by decide +kernel
theorem d_Mo_round_9 : decode b_Mo_round 9 = .ok (.iconst (-1), 1) := by decide +kernel
theorem d_Mo_round_10 : decode b_Mo_round 10 = .ok (.ireturn, 1) := by decide +kernel
theorem d_Mo_round_11 : decode b_Mo_round 11 = .ok (.aload_n 0, 1) := by decide +kernel
theorem d_Mo_round_12 : decode b_Mo_round 12 = .ok (.invokevirtual 151, 3) := by decide +kernel
theorem d_Mo_round_15 : decode b_Mo_round 15 = .ok (.aload_n 0, 1) := by decide +kernel
theorem d_Mo_round_16 : decode b_Mo_round 16 = .ok (.getfield 17, 3) := by decide +kernel
theorem d_Mo_round_19 : decode b_Mo_round 19 = .ok (.iload_n 1, 1) := by decide +kernel
theorem d_Mo_round_20 : decode b_Mo_round 20 = .ok (.iload_n 2, 1) := by decide +kernel
theorem d_Mo_round_21 : decode b_Mo_round 21 = .ok (.iload_n 3, 1) := by decide +kernel
theorem d_Mo_round_22 : decode b_Mo_round 22 = .ok (.invokestatic 120, 3) := by decide +kernel
theorem d_Mo_round_25 : decode b_Mo_round 25 = .ok (.iaload, 1) := by decide +kernel
theorem d_Mo_round_26 : decode b_Mo_round 26 = .ok (.istore 4, 2) := by decide +kernel
theorem d_Mo_round_28 : decode b_Mo_round 28 = .ok (.aload_n 0, 1) := by decide +kernel
theorem d_Mo_round_29 : decode b_Mo_round 29 = .ok (.getfield 124, 3) := by decide +kernel
theorem d_Mo_round_32 : decode b_Mo_round 32 = .ok (.ifCond .eq 8, 3) := by decide +kernel
theorem d_Mo_round_35 : decode b_Mo_round 35 = .ok (.bipush (-4), 2) := by decide +kernel
theorem d_Mo_round_37 : decode b_Mo_round 37 = .ok (.goto 17, 3) := by decide +kernel
theorem d_Mo_round_40 : decode b_Mo_round 40 = .ok (.iload 4, 2) := by decide +kernel
theorem d_Mo_round_42 : decode b_Mo_round 42 = .ok (.ifCond .ne 8, 3) := by decide +kernel
theorem d_Mo_round_45 : decode b_Mo_round 45 = .ok (.bipush (-2), 2) := by decide +kernel
theorem d_Mo_round_47 : decode b_Mo_round 47 = .ok (.goto 7, 3) := by decide +kernel
theorem d_Mo_round_50 : decode b_Mo_round 50 = .ok (.iload 4, 2) := by decide +kernel
theorem d_Mo_round_52 : decode b_Mo_round 52 = .ok (.iconst 1, 1) := by decide +kernel
theorem d_Mo_round_53 : decode b_Mo_round 53 = .ok (.isub, 1) := by decide +kernel
theorem d_Mo_round_54 : decode b_Mo_round 54 = .ok (.ireturn, 1) := by decide +kernel
theorem d_Mo_ways_0 : decode b_Mo_ways 0 = .ok (.iload_n 1, 1) := by decide +kernel
theorem d_Mo_ways_1 : decode b_Mo_ways 1 = .ok (.iload_n 2, 1) := by decide +kernel
theorem d_Mo_ways_2 : decode b_Mo_ways 2 = .ok (.iload_n 3, 1) := by decide +kernel
theorem d_Mo_ways_3 : decode b_Mo_ways 3 = .ok (.invokestatic 145, 3) := by decide +kernel
theorem d_Mo_ways_6 : decode b_Mo_ways 6 = .ok (.ifCond .ne 5, 3) := by decide +kernel
theorem d_Mo_ways_9 : decode b_Mo_ways 9 = .ok (.iconst (-1), 1) := by decide +kernel
theorem d_Mo_ways_10 : decode b_Mo_ways 10 = .ok (.ireturn, 1) := by decide +kernel
theorem d_Mo_ways_11 : decode b_Mo_ways 11 = .ok (.aload_n 0, 1) := by decide +kernel
theorem d_Mo_ways_12 : decode b_Mo_ways 12 = .ok (.invokevirtual 151, 3) := by decide +kernel
theorem d_Mo_ways_15 : decode b_Mo_ways 15 = .ok (.aload_n 0, 1) := by decide +kernel
theorem d_Mo_ways_16 : decode b_Mo_ways 16 = .ok (.getfield 124, 3) := by decide +kernel
theorem d_Mo_ways_19 : decode b_Mo_ways 19 = .ok (.ifCond .eq 6, 3) := by decide +kernel
theorem d_Mo_ways_22 : decode b_Mo_ways 22 = .ok (.bipush (-4), 2) := by decide +kernel
theorem d_Mo_ways_24 : decode b_Mo_ways 24 = .ok (.ireturn, 1) := by decide +kernel
theorem d_Mo_ways_25 : decode b_Mo_ways 25 = .ok (.iconst 0, 1) := by decide +kernel
theorem d_Mo_ways_26 : decode b_Mo_ways 26 = .ok (.istore 4, 2) := by decide +kernel
theorem d_Mo_ways_28 : decode b_Mo_ways 28 = .ok (.iload_n 1, 1) := by decide +kernel
theorem d_Mo_ways_29 : decode b_Mo_ways 29 = .ok (.iload_n 2, 1) := by decide +kernel
theorem d_Mo_ways_30 : decode b_Mo_ways 30 = .ok (.iload_n 3, 1) := by decide +kernel
theorem d_Mo_ways_31 : decode b_Mo_ways 31 = .ok (.invokestatic 120, 3) := by decide +kernel
theorem d_Mo_ways_34 : decode b_Mo_ways 34 = .ok (.istore 5, 2) := by decide +kernel
theorem d_Mo_ways_36 : decode b_Mo_ways 36 = .ok (.iconst 0, 1) := by decide +kernel
theorem d_Mo_ways_37 : decode b_Mo_ways 37 = .ok (.istore 6, 2) := by decide +kernel
theorem d_Mo_ways_39 : decode b_Mo_ways 39 = .ok (.iload 6, 2) := by decide +kernel
theorem d_Mo_ways_41 : decode b_Mo_ways 41 = .ok (.bipush 21, 2) := by decide +kernel
theorem d_Mo_ways_43 : decode b_Mo_ways 43 = .ok (.if_icmp .ge 54, 3) := by decide +kernel
theorem d_Mo_ways_46 : decode b_Mo_ways 46 = .ok (.aload_n 0, 1) := by decide +kernel
theorem d_Mo_ways_47 : decode b_Mo_ways 47 = .ok (.getfield 14, 3) := by decide +kernel
theorem d_Mo_ways_50 : decode b_Mo_ways 50 = .ok (.iload 6, 2) := by decide +kernel
theorem d_Mo_ways_52 : decode b_Mo_ways 52 = .ok (.baload, 1) := by decide +kernel
theorem d_Mo_ways_53 : decode b_Mo_ways 53 = .ok (.ifCond .ne 38, 3) := by decide +kernel
theorem d_Mo_ways_56 : decode b_Mo_ways 56 = .ok (.aload_n 0, 1) := by decide +kernel
theorem d_Mo_ways_57 : decode b_Mo_ways 57 = .ok (.iload 6, 2) := by decide +kernel
theorem d_Mo_ways_59 : decode b_Mo_ways 59 = .ok (.invokevirtual 133, 3) := by decide +kernel
theorem d_Mo_ways_62 : decode b_Mo_ways 62 = .ok (.aload_n 0, 1) := by decide +kernel
theorem d_Mo_ways_63 : decode b_Mo_ways 63 = .ok (.invokevirtual 137, 3) := by decide +kernel
theorem d_Mo_ways_66 : decode b_Mo_ways 66 = .ok (.ifCond .eq 25, 3) := by decide +kernel
theorem d_Mo_ways_69 : decode b_Mo_ways 69 = .ok (.iload 4, 2) := by decide +kernel
theorem d_Mo_ways_71 : decode b_Mo_ways 71 = .ok (.aload_n 0, 1) := by decide +kernel
theorem d_Mo_ways_72 : decode b_Mo_ways 72 = .ok (.invokevirtual 141, 3) := by decide +kernel
theorem d_Mo_ways_75 : decode b_Mo_ways 75 = .ok (.iload 5, 2) := by decide +kernel
theorem d_Mo_ways_77 : decode b_Mo_ways 77 = .ok (.if_icmp .ne 7, 3) := by decide +kernel
theorem d_Mo_ways_80 : decode b_Mo_ways 80 = .ok (.iconst 1, 1) := by decide +kernel
theorem d_Mo_ways_81 : decode b_Mo_ways 81 = .ok (.goto 4, 3) := by decide +kernel
theorem d_Mo_ways_84 : decode b_Mo_ways 84 = .ok (.iconst 0, 1) := by decide +kernel
theorem d_Mo_ways_85 : decode b_Mo_ways 85 = .ok (.iadd, 1) := by decide +kernel
theorem d_Mo_ways_86 : decode b_Mo_ways 86 = .ok (.istore 4, 2) := by decide +kernel
theorem d_Mo_ways_88 : decode b_Mo_ways 88 = .ok (.goto (-26), 3) := by decide +kernel
theorem d_Mo_ways_91 : decode b_Mo_ways 91 = .ok (.iinc 6 1, 3) := by decide +kernel
theorem d_Mo_ways_94 : decode b_Mo_ways 94 = .ok (.goto (-55), 3) := by decide +kernel
theorem d_Mo_ways_97 : decode b_Mo_ways 97 = .ok (.iload 4, 2) := by decide +kernel
theorem d_Mo_ways_99 : decode b_Mo_ways 99 = .ok (.ireturn, 1) := by decide +kernel
theorem d_Mo_premise_0 : decode b_Mo_premise 0 = .ok (.iload_n 1, 1) := by decide +kernel
theorem d_Mo_premise_1 : decode b_Mo_premise 1 = .ok (.aload_n 0, 1) := by decide +kernel
theorem d_Mo_premise_2 : decode b_Mo_premise 2 = .ok (.getfield 94, 3) := by decide +kernel
theorem d_Mo_premise_5 : decode b_Mo_premise 5 = .ok (.invokestatic 105, 3) := by decide +kernel
theorem d_Mo_premise_8 : decode b_Mo_premise 8 = .ok (.if_icmp .le 8, 3) := by decide +kernel
theorem d_Mo_premise_11 : decode b_Mo_premise 11 = .ok (.bipush (-2), 2) := by decide +kernel
theorem d_Mo_premise_13 : decode b_Mo_premise 13 = .ok (.goto 16, 3) := by decide +kernel
theorem d_Mo_premise_16 : decode b_Mo_premise 16 = .ok (.aload_n 0, 1) := by decide +kernel
theorem d_Mo_premise_17 : decode b_Mo_premise 17 = .ok (.getfield 24, 3) := by decide +kernel
theorem d_Mo_premise_20 : decode b_Mo_premise 20 = .ok (.aload_n 0, 1) := by decide +kernel
theorem d_Mo_premise_21 : decode b_Mo_premise 21 = .ok (.getfield 27, 3) := by decide +kernel
theorem d_Mo_premise_24 : decode b_Mo_premise 24 = .ok (.iload_n 1, 1) := by decide +kernel
theorem d_Mo_premise_25 : decode b_Mo_premise 25 = .ok (.iconst 1, 1) := by decide +kernel
theorem d_Mo_premise_26 : decode b_Mo_premise 26 = .ok (.isub, 1) := by decide +kernel
theorem d_Mo_premise_27 : decode b_Mo_premise 27 = .ok (.iaload, 1) := by decide +kernel
theorem d_Mo_premise_28 : decode b_Mo_premise 28 = .ok (.iaload, 1) := by decide +kernel
theorem d_Mo_premise_29 : decode b_Mo_premise 29 = .ok (.ireturn, 1) := by decide +kernel
theorem d_Mo_way_0 : decode b_Mo_way 0 = .ok (.iload_n 1, 1) := by decide +kernel
theorem d_Mo_way_1 : decode b_Mo_way 1 = .ok (.iload_n 2, 1) := by decide +kernel
theorem d_Mo_way_2 : decode b_Mo_way 2 = .ok (.iload_n 3, 1) := by decide +kernel
theorem d_Mo_way_3 : decode b_Mo_way 3 = .ok (.invokestatic 145, 3) := by decide +kernel
theorem d_Mo_way_6 : decode b_Mo_way 6 = .ok (.ifCond .eq 14, 3) := by decide +kernel
theorem d_Mo_way_9 : decode b_Mo_way 9 = .ok (.iload 5, 2) := by decide +kernel
theorem d_Mo_way_11 : decode b_Mo_way 11 = .ok (.ifCond .lt 9, 3) := by decide +kernel
theorem d_Mo_way_14 : decode b_Mo_way 14 = .ok (.iload 5, 2) := by decide +kernel
theorem d_Mo_way_16 : decode b_Mo_way 16 = .ok (.iconst 4, 1) := by decide +kernel
theorem d_Mo_way_17 : decode b_Mo_way 17 = .ok (.if_icmp .le 5, 3) := by decide +kernel
theorem d_Mo_way_20 : decode b_Mo_way 20 = .ok (.iconst (-1), 1) := by decide +kernel
theorem d_Mo_way_21 : decode b_Mo_way 21 = .ok (.ireturn, 1) := by decide +kernel
theorem d_Mo_way_22 : decode b_Mo_way 22 = .ok (.aload_n 0, 1) := by decide +kernel
theorem d_Mo_way_23 : decode b_Mo_way 23 = .ok (.invokevirtual 151, 3) := by decide +kernel
theorem d_Mo_way_26 : decode b_Mo_way 26 = .ok (.aload_n 0, 1) := by decide +kernel
theorem d_Mo_way_27 : decode b_Mo_way 27 = .ok (.getfield 124, 3) := by decide +kernel
theorem d_Mo_way_30 : decode b_Mo_way 30 = .ok (.ifCond .eq 6, 3) := by decide +kernel
theorem d_Mo_way_33 : decode b_Mo_way 33 = .ok (.bipush (-4), 2) := by decide +kernel
theorem d_Mo_way_35 : decode b_Mo_way 35 = .ok (.ireturn, 1) := by decide +kernel
theorem d_Mo_way_36 : decode b_Mo_way 36 = .ok (.iload 4, 2) := by decide +kernel
theorem d_Mo_way_38 : decode b_Mo_way 38 = .ok (.istore 6, 2) := by decide +kernel
theorem d_Mo_way_40 : decode b_Mo_way 40 = .ok (.iload_n 1, 1) := by decide +kernel
theorem d_Mo_way_41 : decode b_Mo_way 41 = .ok (.iload_n 2, 1) := by decide +kernel
theorem d_Mo_way_42 : decode b_Mo_way 42 = .ok (.iload_n 3, 1) := by decide +kernel
theorem d_Mo_way_43 : decode b_Mo_way 43 = .ok (.invokestatic 120, 3) := by decide +kernel
theorem d_Mo_way_46 : decode b_Mo_way 46 = .ok (.istore 7, 2) := by decide +kernel
theorem d_Mo_way_48 : decode b_Mo_way 48 = .ok (.iconst 0, 1) := by decide +kernel
theorem d_Mo_way_49 : decode b_Mo_way 49 = .ok (.istore 8, 2) := by decide +kernel
theorem d_Mo_way_51 : decode b_Mo_way 51 = .ok (.iload 8, 2) := by decide +kernel
theorem d_Mo_way_53 : decode b_Mo_way 53 = .ok (.bipush 21, 2) := by decide +kernel
theorem d_Mo_way_55 : decode b_Mo_way 55 = .ok (.if_icmp .ge 74, 3) := by decide +kernel
theorem d_Mo_way_58 : decode b_Mo_way 58 = .ok (.iload 4, 2) := by decide +kernel
theorem d_Mo_way_60 : decode b_Mo_way 60 = .ok (.ifCond .lt 69, 3) := by decide +kernel
theorem d_Mo_way_63 : decode b_Mo_way 63 = .ok (.aload_n 0, 1) := by decide +kernel
theorem d_Mo_way_64 : decode b_Mo_way 64 = .ok (.getfield 14, 3) := by decide +kernel
theorem d_Mo_way_67 : decode b_Mo_way 67 = .ok (.iload 8, 2) := by decide +kernel
theorem d_Mo_way_69 : decode b_Mo_way 69 = .ok (.baload, 1) := by decide +kernel
theorem d_Mo_way_70 : decode b_Mo_way 70 = .ok (.ifCond .ne 53, 3) := by decide +kernel
theorem d_Mo_way_73 : decode b_Mo_way 73 = .ok (.aload_n 0, 1) := by decide +kernel
theorem d_Mo_way_74 : decode b_Mo_way 74 = .ok (.iload 8, 2) := by decide +kernel
theorem d_Mo_way_76 : decode b_Mo_way 76 = .ok (.invokevirtual 133, 3) := by decide +kernel
theorem d_Mo_way_79 : decode b_Mo_way 79 = .ok (.aload_n 0, 1) := by decide +kernel
theorem d_Mo_way_80 : decode b_Mo_way 80 = .ok (.invokevirtual 137, 3) := by decide +kernel
theorem d_Mo_way_83 : decode b_Mo_way 83 = .ok (.ifCond .eq 40, 3) := by decide +kernel
theorem d_Mo_way_86 : decode b_Mo_way 86 = .ok (.aload_n 0, 1) := by decide +kernel
theorem d_Mo_way_87 : decode b_Mo_way 87 = .ok (.invokevirtual 141, 3) := by decide +kernel
theorem d_Mo_way_90 : decode b_Mo_way 90 = .ok (.iload 7, 2) := by decide +kernel
theorem d_Mo_way_92 : decode b_Mo_way 92 = .ok (.if_icmp .ne (-13), 3) := by decide +kernel
theorem d_Mo_way_95 : decode b_Mo_way 95 = .ok (.iload 6, 2) := by decide +kernel
theorem d_Mo_way_97 : decode b_Mo_way 97 = .ok (.ifCond .ne 20, 3) := by decide +kernel
theorem d_Mo_way_100 : decode b_Mo_way 100 = .ok (.iload 5, 2) := by decide +kernel
theorem d_Mo_way_102 : decode b_Mo_way 102 = .ok (.ifCond .ne 8, 3) := by decide +kernel
theorem d_Mo_way_105 : decode b_Mo_way 105 = .ok (.iload 8, 2) := by decide +kernel
theorem d_Mo_way_107 : decode b_Mo_way 107 = .ok (.goto 9, 3) := by decide +kernel
theorem d_Mo_way_110 : decode b_Mo_way 110 = .ok (.aload_n 0, 1) := by decide +kernel
theorem d_Mo_way_111 : decode b_Mo_way 111 = .ok (.iload 5, 2) := by decide +kernel
theorem d_Mo_way_113 : decode b_Mo_way 113 = .ok (.invokevirtual 154, 3) := by decide +kernel
theorem d_Mo_way_116 : decode b_Mo_way 116 = .ok (.ireturn, 1) := by decide +kernel
theorem d_Mo_way_117 : decode b_Mo_way 117 = .ok (.iinc 6 (-1), 3) := by decide +kernel
theorem d_Mo_way_120 : decode b_Mo_way 120 = .ok (.goto (-41), 3) := by decide +kernel
theorem d_Mo_way_123 : decode b_Mo_way 123 = .ok (.iinc 8 1, 3) := by decide +kernel
theorem d_Mo_way_126 : decode b_Mo_way 126 = .ok (.goto (-75), 3) := by decide +kernel
theorem d_Mo_way_129 : decode b_Mo_way 129 = .ok (.bipush (-2), 2) := by decide +kernel
theorem d_Mo_way_131 : decode b_Mo_way 131 = .ok (.ireturn, 1) := by decide +kernel
theorem d_Mo_clashes_0 : decode b_Mo_clashes 0 = .ok (.aload_n 0, 1) := by decide +kernel
theorem d_Mo_clashes_1 : decode b_Mo_clashes 1 = .ok (.invokevirtual 151, 3) := by decide +kernel
theorem d_Mo_clashes_4 : decode b_Mo_clashes 4 = .ok (.aload_n 0, 1) := by decide +kernel
theorem d_Mo_clashes_5 : decode b_Mo_clashes 5 = .ok (.getfield 124, 3) := by decide +kernel
theorem d_Mo_clashes_8 : decode b_Mo_clashes 8 = .ok (.ifCond .eq 6, 3) := by decide +kernel
theorem d_Mo_clashes_11 : decode b_Mo_clashes 11 = .ok (.bipush (-4), 2) := by decide +kernel
theorem d_Mo_clashes_13 : decode b_Mo_clashes 13 = .ok (.ireturn, 1) := by decide +kernel
theorem d_Mo_clashes_14 : decode b_Mo_clashes 14 = .ok (.iconst 0, 1) := by decide +kernel
theorem d_Mo_clashes_15 : decode b_Mo_clashes 15 = .ok (.istore_n 1, 1) := by decide +kernel
theorem d_Mo_clashes_16 : decode b_Mo_clashes 16 = .ok (.bipush 21, 2) := by decide +kernel
theorem d_Mo_clashes_18 : decode b_Mo_clashes 18 = .ok (.istore_n 2, 1) := by decide +kernel
theorem d_Mo_clashes_19 : decode b_Mo_clashes 19 = .ok (.iload_n 2, 1) := by decide +kernel
theorem d_Mo_clashes_20 : decode b_Mo_clashes 20 = .ok (.bipush 24, 2) := by decide +kernel
theorem d_Mo_clashes_22 : decode b_Mo_clashes 22 = .ok (.if_icmp .ge 27, 3) := by decide +kernel
theorem d_Mo_clashes_25 : decode b_Mo_clashes 25 = .ok (.aload_n 0, 1) := by decide +kernel
theorem d_Mo_clashes_26 : decode b_Mo_clashes 26 = .ok (.iload_n 2, 1) := by decide +kernel
theorem d_Mo_clashes_27 : decode b_Mo_clashes 27 = .ok (.invokevirtual 133, 3) := by decide +kernel
theorem d_Mo_clashes_30 : decode b_Mo_clashes 30 = .ok (.aload_n 0, 1) := by decide +kernel
theorem d_Mo_clashes_31 : decode b_Mo_clashes 31 = .ok (.invokevirtual 137, 3) := by decide +kernel
theorem d_Mo_clashes_34 : decode b_Mo_clashes 34 = .ok (.ifCond .eq 9, 3) := by decide +kernel
theorem d_Mo_clashes_37 : decode b_Mo_clashes 37 = .ok (.iinc 1 1, 3) := by decide +kernel
theorem d_Mo_clashes_40 : decode b_Mo_clashes 40 = .ok (.goto (-10), 3) := by decide +kernel
theorem d_Mo_clashes_43 : decode b_Mo_clashes 43 = .ok (.iinc 2 1, 3) := by decide +kernel
theorem d_Mo_clashes_46 : decode b_Mo_clashes 46 = .ok (.goto (-27), 3) := by decide +kernel
theorem d_Mo_clashes_49 : decode b_Mo_clashes 49 = .ok (.iload_n 1, 1) := by decide +kernel
theorem d_Mo_clashes_50 : decode b_Mo_clashes 50 = .ok (.ireturn, 1) := by decide +kernel
end
section
theorem d_Mo_clash_0 : decode b_Mo_clash 0 = .ok (.iload_n 2, 1) := by decide +kernel
theorem d_Mo_clash_1 : decode b_Mo_clash 1 = .ok (.ifCond .lt 8, 3) := by decide +kernel
theorem d_Mo_clash_4 : decode b_Mo_clash 4 = .ok (.iload_n 2, 1) := by decide +kernel
theorem d_Mo_clash_5 : decode b_Mo_clash 5 = .ok (.iconst 3, 1) := by decide +kernel
theorem d_Mo_clash_6 : decode b_Mo_clash 6 = .ok (.if_icmp .le 5, 3) := by decide +kernel
theorem d_Mo_clash_9 : decode b_Mo_clash 9 = .ok (.iconst (-1), 1) := by decide +kernel
theorem d_Mo_clash_10 : decode b_Mo_clash 10 = .ok (.ireturn, 1) := by decide +kernel
theorem d_Mo_clash_11 : decode b_Mo_clash 11 = .ok (.aload_n 0, 1) := by decide +kernel
theorem d_Mo_clash_12 : decode b_Mo_clash 12 = .ok (.invokevirtual 151, 3) := by decide +kernel
theorem d_Mo_clash_15 : decode b_Mo_clash 15 = .ok (.aload_n 0, 1) := by decide +kernel
theorem d_Mo_clash_16 : decode b_Mo_clash 16 = .ok (.getfield 124, 3) := by decide +kernel
theorem d_Mo_clash_19 : decode b_Mo_clash 19 = .ok (.ifCond .eq 6, 3) := by decide +kernel
theorem d_Mo_clash_22 : decode b_Mo_clash 22 = .ok (.bipush (-4), 2) := by decide +kernel
theorem d_Mo_clash_24 : decode b_Mo_clash 24 = .ok (.ireturn, 1) := by decide +kernel
theorem d_Mo_clash_25 : decode b_Mo_clash 25 = .ok (.iload_n 1, 1) := by decide +kernel
theorem d_Mo_clash_26 : decode b_Mo_clash 26 = .ok (.istore_n 3, 1) := by decide +kernel
theorem d_Mo_clash_27 : decode b_Mo_clash 27 = .ok (.bipush 21, 2) := by decide +kernel
theorem d_Mo_clash_29 : decode b_Mo_clash 29 = .ok (.istore 4, 2) := by decide +kernel
theorem d_Mo_clash_31 : decode b_Mo_clash 31 = .ok (.iload 4, 2) := by decide +kernel
theorem d_Mo_clash_33 : decode b_Mo_clash 33 = .ok (.bipush 24, 2) := by decide +kernel
theorem d_Mo_clash_35 : decode b_Mo_clash 35 = .ok (.if_icmp .ge 54, 3) := by decide +kernel
theorem d_Mo_clash_38 : decode b_Mo_clash 38 = .ok (.iload_n 1, 1) := by decide +kernel
theorem d_Mo_clash_39 : decode b_Mo_clash 39 = .ok (.ifCond .lt 50, 3) := by decide +kernel
theorem d_Mo_clash_42 : decode b_Mo_clash 42 = .ok (.aload_n 0, 1) := by decide +kernel
theorem d_Mo_clash_43 : decode b_Mo_clash 43 = .ok (.iload 4, 2) := by decide +kernel
theorem d_Mo_clash_45 : decode b_Mo_clash 45 = .ok (.invokevirtual 133, 3) := by decide +kernel
theorem d_Mo_clash_48 : decode b_Mo_clash 48 = .ok (.aload_n 0, 1) := by decide +kernel
theorem d_Mo_clash_49 : decode b_Mo_clash 49 = .ok (.invokevirtual 137, 3) := by decide +kernel
theorem d_Mo_clash_52 : decode b_Mo_clash 52 = .ok (.ifCond .eq 31, 3) := by decide +kernel
theorem d_Mo_clash_55 : decode b_Mo_clash 55 = .ok (.iload_n 3, 1) := by decide +kernel
theorem d_Mo_clash_56 : decode b_Mo_clash 56 = .ok (.ifCond .ne 21, 3) := by decide +kernel
theorem d_Mo_clash_59 : decode b_Mo_clash 59 = .ok (.iload_n 2, 1) := by decide +kernel
theorem d_Mo_clash_60 : decode b_Mo_clash 60 = .ok (.ifCond .ne 11, 3) := by decide +kernel
theorem d_Mo_clash_63 : decode b_Mo_clash 63 = .ok (.iload 4, 2) := by decide +kernel
theorem d_Mo_clash_65 : decode b_Mo_clash 65 = .ok (.bipush 21, 2) := by decide +kernel
theorem d_Mo_clash_67 : decode b_Mo_clash 67 = .ok (.isub, 1) := by decide +kernel
theorem d_Mo_clash_68 : decode b_Mo_clash 68 = .ok (.goto 8, 3) := by decide +kernel
theorem d_Mo_clash_71 : decode b_Mo_clash 71 = .ok (.aload_n 0, 1) := by decide +kernel
theorem d_Mo_clash_72 : decode b_Mo_clash 72 = .ok (.iload_n 2, 1) := by decide +kernel
theorem d_Mo_clash_73 : decode b_Mo_clash 73 = .ok (.invokevirtual 154, 3) := by decide +kernel
theorem d_Mo_clash_76 : decode b_Mo_clash 76 = .ok (.ireturn, 1) := by decide +kernel
theorem d_Mo_clash_77 : decode b_Mo_clash 77 = .ok (.iinc 3 (-1), 3) := by decide +kernel
theorem d_Mo_clash_80 : decode b_Mo_clash 80 = .ok (.goto (-32), 3) := by decide +kernel
theorem d_Mo_clash_83 : decode b_Mo_clash 83 = .ok (.iinc 4 1, 3) := by decide +kernel
theorem d_Mo_clash_86 : decode b_Mo_clash 86 = .ok (.goto (-55), 3) := by decide +kernel
theorem d_Mo_clash_89 : decode b_Mo_clash 89 = .ok (.bipush (-2), 2) := by decide +kernel
theorem d_Mo_clash_91 : decode b_Mo_clash 91 = .ok (.ireturn, 1) := by decide +kernel
theorem d_Mo_group_0 : decode b_Mo_group 0 = .ok (.iload_n 1, 1) := by decide +kernel
theorem d_Mo_group_1 : decode b_Mo_group 1 = .ok (.invokestatic 40, 3) := by decide +kernel
theorem d_Mo_group_4 : decode b_Mo_group 4 = .ok (.ifCond .ne 5, 3) := by decide +kernel
theorem d_Mo_group_7 : decode b_Mo_group 7 = .ok (.iconst (-1), 1) := by decide +kernel
theorem d_Mo_group_8 : decode b_Mo_group 8 = .ok (.ireturn, 1) := by decide +kernel
theorem d_Mo_group_9 : decode b_Mo_group 9 = .ok (.aload_n 0, 1) := by decide +kernel
theorem d_Mo_group_10 : decode b_Mo_group 10 = .ok (.invokevirtual 151, 3) := by decide +kernel
theorem d_Mo_group_13 : decode b_Mo_group 13 = .ok (.aload_n 0, 1) := by decide +kernel
theorem d_Mo_group_14 : decode b_Mo_group 14 = .ok (.getfield 124, 3) := by decide +kernel
theorem d_Mo_group_17 : decode b_Mo_group 17 = .ok (.ifCond .eq 6, 3) := by decide +kernel
theorem d_Mo_group_20 : decode b_Mo_group 20 = .ok (.bipush (-4), 2) := by decide +kernel
theorem d_Mo_group_22 : decode b_Mo_group 22 = .ok (.ireturn, 1) := by decide +kernel
theorem d_Mo_group_23 : decode b_Mo_group 23 = .ok (.iload_n 1, 1) := by decide +kernel
theorem d_Mo_group_24 : decode b_Mo_group 24 = .ok (.istore_n 2, 1) := by decide +kernel
theorem d_Mo_group_25 : decode b_Mo_group 25 = .ok (.iconst 0, 1) := by decide +kernel
theorem d_Mo_group_26 : decode b_Mo_group 26 = .ok (.istore_n 3, 1) := by decide +kernel
theorem d_Mo_group_27 : decode b_Mo_group 27 = .ok (.iload_n 3, 1) := by decide +kernel
theorem d_Mo_group_28 : decode b_Mo_group 28 = .ok (.bipush 32, 2) := by decide +kernel
theorem d_Mo_group_30 : decode b_Mo_group 30 = .ok (.if_icmp .ge 35, 3) := by decide +kernel
theorem d_Mo_group_33 : decode b_Mo_group 33 = .ok (.iload_n 3, 1) := by decide +kernel
theorem d_Mo_group_34 : decode b_Mo_group 34 = .ok (.iload_n 2, 1) := by decide +kernel
theorem d_Mo_group_35 : decode b_Mo_group 35 = .ok (.if_icmp .ge 22, 3) := by decide +kernel
theorem d_Mo_group_38 : decode b_Mo_group 38 = .ok (.aload_n 0, 1) := by decide +kernel
theorem d_Mo_group_39 : decode b_Mo_group 39 = .ok (.getfield 17, 3) := by decide +kernel
theorem d_Mo_group_42 : decode b_Mo_group 42 = .ok (.iload_n 1, 1) := by decide +kernel
theorem d_Mo_group_43 : decode b_Mo_group 43 = .ok (.bipush 6, 2) := by decide +kernel
theorem d_Mo_group_45 : decode b_Mo_group 45 = .ok (.iload_n 3, 1) := by decide +kernel
theorem d_Mo_group_46 : decode b_Mo_group 46 = .ok (.invokestatic 120, 3) := by decide +kernel
theorem d_Mo_group_49 : decode b_Mo_group 49 = .ok (.iaload, 1) := by decide +kernel
theorem d_Mo_group_50 : decode b_Mo_group 50 = .ok (.ifCond .le 7, 3) := by decide +kernel
theorem d_Mo_group_53 : decode b_Mo_group 53 = .ok (.iload_n 3, 1) := by decide +kernel
theorem d_Mo_group_54 : decode b_Mo_group 54 = .ok (.goto 4, 3) := by decide +kernel
theorem d_Mo_group_57 : decode b_Mo_group 57 = .ok (.iload_n 2, 1) := by decide +kernel
theorem d_Mo_group_58 : decode b_Mo_group 58 = .ok (.istore_n 2, 1) := by decide +kernel
theorem d_Mo_group_59 : decode b_Mo_group 59 = .ok (.iinc 3 1, 3) := by decide +kernel
theorem d_Mo_group_62 : decode b_Mo_group 62 = .ok (.goto (-35), 3) := by decide +kernel
theorem d_Mo_group_65 : decode b_Mo_group 65 = .ok (.iload_n 2, 1) := by decide +kernel
theorem d_Mo_group_66 : decode b_Mo_group 66 = .ok (.ireturn, 1) := by decide +kernel
theorem d_Mo_said_0 : decode b_Mo_said 0 = .ok (.aload_n 0, 1) := by decide +kernel
theorem d_Mo_said_1 : decode b_Mo_said 1 = .ok (.getfield 148, 3) := by decide +kernel
theorem d_Mo_said_4 : decode b_Mo_said 4 = .ok (.ireturn, 1) := by decide +kernel
theorem d_De_init_0 : decode b_De_init 0 = .ok (.aload_n 0, 1) := by decide +kernel
theorem d_De_init_1 : decode b_De_init 1 = .ok (.aload_n 1, 1) := by decide +kernel
theorem d_De_init_2 : decode b_De_init 2 = .ok (.invokespecial 3, 3) := by decide +kernel
theorem d_De_init_5 : decode b_De_init 5 = .ok (.aload_n 0, 1) := by decide +kernel
theorem d_De_init_6 : decode b_De_init 6 = .ok (.new 9, 3) := by decide +kernel
theorem d_De_init_9 : decode b_De_init 9 = .ok (.dup, 1) := by decide +kernel
theorem d_De_init_10 : decode b_De_init 10 = .ok (.invokespecial 11, 3) := by decide +kernel
theorem d_De_init_13 : decode b_De_init 13 = .ok (.putfield 14, 3) := by decide +kernel
theorem d_De_init_16 : decode b_De_init 16 = .ok (.aload_n 0, 1) := by decide +kernel
theorem d_De_init_17 : decode b_De_init 17 = .ok (.sipush 400, 3) := by decide +kernel
theorem d_De_init_20 : decode b_De_init 20 = .ok (.newarray .int, 2) := by decide +kernel
theorem d_De_init_22 : decode b_De_init 22 = .ok (.putfield 20, 3) := by decide +kernel
theorem d_De_init_25 : decode b_De_init 25 = .ok (.aload_n 0, 1) := by decide +kernel
theorem d_De_init_26 : decode b_De_init 26 = .ok (.sipush 400, 3) := by decide +kernel
theorem d_De_init_29 : decode b_De_init 29 = .ok (.newarray .int, 2) := by decide +kernel
theorem d_De_init_31 : decode b_De_init 31 = .ok (.putfield 24, 3) := by decide +kernel
theorem d_De_init_34 : decode b_De_init 34 = .ok (.aload_n 0, 1) := by decide +kernel
theorem d_De_init_35 : decode b_De_init 35 = .ok (.iconst 0, 1) := by decide +kernel
theorem d_De_init_36 : decode b_De_init 36 = .ok (.putfield 27, 3) := by decide +kernel
theorem d_De_init_39 : decode b_De_init 39 = .ok (.aload_n 0, 1) := by decide +kernel
theorem d_De_init_40 : decode b_De_init 40 = .ok (.iconst 0, 1) := by decide +kernel
theorem d_De_init_41 : decode b_De_init 41 = .ok (.putfield 31, 3) := by decide +kernel
theorem d_De_init_44 : decode b_De_init 44 = .ok (.aload_n 0, 1) := by decide +kernel
theorem d_De_init_45 : decode b_De_init 45 = .ok (.iconst 0, 1) := by decide +kernel
theorem d_De_init_46 : decode b_De_init 46 = .ok (.putfield 34, 3) := by decide +kernel
theorem d_De_init_49 : decode b_De_init 49 = .ok (.return_, 1) := by decide +kernel
theorem d_De_derive_0 : decode b_De_derive 0 = .ok (.aload_n 0, 1) := by decide +kernel
theorem d_De_derive_1 : decode b_De_derive 1 = .ok (.getfield 38, 3) := by decide +kernel
theorem d_De_derive_4 : decode b_De_derive 4 = .ok (.invokevirtual 41, 3) := by decide +kernel
theorem d_De_derive_7 : decode b_De_derive 7 = .ok (.aload_n 0, 1) := by decide +kernel
theorem d_De_derive_8 : decode b_De_derive 8 = .ok (.getfield 14, 3) := by decide +kernel
theorem d_De_derive_11 : decode b_De_derive 11 = .ok (.invokevirtual 41, 3) := by decide +kernel
theorem d_De_derive_14 : decode b_De_derive 14 = .ok (.aload_n 0, 1) := by decide +kernel
theorem d_De_derive_15 : decode b_De_derive 15 = .ok (.iconst 0, 1) := by decide +kernel
theorem d_De_derive_16 : decode b_De_derive 16 = .ok (.putfield 31, 3) := by decide +kernel
theorem d_De_derive_19 : decode b_De_derive 19 = .ok (.aload_n 0, 1) := by decide +kernel
theorem d_De_derive_20 : decode b_De_derive 20 = .ok (.iconst 0, 1) := by decide +kernel
theorem d_De_derive_21 : decode b_De_derive 21 = .ok (.putfield 34, 3) := by decide +kernel
theorem d_De_derive_24 : decode b_De_derive 24 = .ok (.aload_n 0, 1) := by decide +kernel
theorem d_De_derive_25 : decode b_De_derive 25 = .ok (.iconst 0, 1) := by decide +kernel
theorem d_De_derive_26 : decode b_De_derive 26 = .ok (.putfield 27, 3) := by decide +kernel
theorem d_De_derive_29 : decode b_De_derive 29 = .ok (.iconst 0, 1) := by decide +kernel
theorem d_De_derive_30 : decode b_De_derive 30 = .ok (.istore 4, 2) := by decide +kernel
theorem d_De_derive_32 : decode b_De_derive 32 = .ok (.iload 4, 2) := by decide +kernel
theorem d_De_derive_34 : decode b_De_derive 34 = .ok (.iload_n 2, 1) := by decide +kernel
theorem d_De_derive_35 : decode b_De_derive 35 = .ok (.if_icmp .ge 24, 3) := by decide +kernel
theorem d_De_derive_38 : decode b_De_derive 38 = .ok (.iload 4, 2) := by decide +kernel
theorem d_De_derive_40 : decode b_De_derive 40 = .ok (.aload_n 1, 1) := by decide +kernel
theorem d_De_derive_41 : decode b_De_derive 41 = .ok (.arraylength, 1) := by decide +kernel
theorem d_De_derive_42 : decode b_De_derive 42 = .ok (.if_icmp .ge 17, 3) := by decide +kernel
theorem d_De_derive_45 : decode b_De_derive 45 = .ok (.aload_n 0, 1) := by decide +kernel
theorem d_De_derive_46 : decode b_De_derive 46 = .ok (.aload_n 1, 1) := by decide +kernel
theorem d_De_derive_47 : decode b_De_derive 47 = .ok (.iload 4, 2) := by decide +kernel
theorem d_De_derive_49 : decode b_De_derive 49 = .ok (.iaload, 1) := by decide +kernel
theorem d_De_derive_50 : decode b_De_derive 50 = .ok (.invokevirtual 44, 3) := by decide +kernel
theorem d_De_derive_53 : decode b_De_derive 53 = .ok (.iinc 4 1, 3) := by decide +kernel
theorem d_De_derive_56 : decode b_De_derive 56 = .ok (.goto (-24), 3) := by decide +kernel
theorem d_De_derive_59 : decode b_De_derive 59 = .ok (.iconst 0, 1) := by decide +kernel
theorem d_De_derive_60 : decode b_De_derive 60 = .ok (.istore 4, 2) := by decide +kernel
theorem d_De_derive_62 : decode b_De_derive 62 = .ok (.iconst 1, 1) := by decide +kernel
theorem d_De_derive_63 : decode b_De_derive 63 = .ok (.istore 5, 2) := by decide +kernel
theorem d_De_derive_65 : decode b_De_derive 65 = .ok (.iload 5, 2) := by decide +kernel
theorem d_De_derive_67 : decode b_De_derive 67 = .ok (.sipush 400, 3) := by decide +kernel
theorem d_De_derive_70 : decode b_De_derive 70 = .ok (.if_icmp .gt 117, 3) := by decide +kernel
theorem d_De_derive_73 : decode b_De_derive 73 = .ok (.iload 4, 2) := by decide +kernel
theorem d_De_derive_75 : decode b_De_derive 75 = .ok (.aload_n 0, 1) := by decide +kernel
theorem d_De_derive_76 : decode b_De_derive 76 = .ok (.getfield 31, 3) := by decide +kernel
theorem d_De_derive_79 : decode b_De_derive 79 = .ok (.if_icmp .ge 108, 3) := by decide +kernel
theorem d_De_derive_82 : decode b_De_derive 82 = .ok (.aload_n 0, 1) := by decide +kernel
theorem d_De_derive_83 : decode b_De_derive 83 = .ok (.getfield 34, 3) := by decide +kernel
theorem d_De_derive_86 : decode b_De_derive 86 = .ok (.ifCond .ne 101, 3) := by decide +kernel
theorem d_De_derive_89 : decode b_De_derive 89 = .ok (.aload_n 0, 1) := by decide +kernel
theorem d_De_derive_90 : decode b_De_derive 90 = .ok (.iload 5, 2) := by decide +kernel
theorem d_De_derive_92 : decode b_De_derive 92 = .ok (.putfield 27, 3) := by decide +kernel
theorem d_De_derive_95 : decode b_De_derive 95 = .ok (.aload_n 0, 1) := by decide +kernel
theorem d_De_derive_96 : decode b_De_derive 96 = .ok (.getfield 31, 3) := by decide +kernel
theorem d_De_derive_99 : decode b_De_derive 99 = .ok (.istore 6, 2) := by decide +kernel
theorem d_De_derive_101 : decode b_De_derive 101 = .ok (.iload 4, 2) := by decide +kernel
theorem d_De_derive_103 : decode b_De_derive 103 = .ok (.istore 7, 2) := by decide +kernel
theorem d_De_derive_105 : decode b_De_derive 105 = .ok (.iload 7, 2) := by decide +kernel
theorem d_De_derive_107 : decode b_De_derive 107 = .ok (.iload 6, 2) := by decide +kernel
theorem d_De_derive_109 : decode b_De_derive 109 = .ok (.if_icmp .ge 23, 3) := by decide +kernel
theorem d_De_derive_112 : decode b_De_derive 112 = .ok (.aload_n 0, 1) := by decide +kernel
theorem d_De_derive_113 : decode b_De_derive 113 = .ok (.getfield 38, 3) := by decide +kernel
theorem d_De_derive_116 : decode b_De_derive 116 = .ok (.aload_n 0, 1) := by decide +kernel
theorem d_De_derive_117 : decode b_De_derive 117 = .ok (.getfield 20, 3) := by decide +kernel
theorem d_De_derive_120 : decode b_De_derive 120 = .ok (.iload 7, 2) := by decide +kernel
theorem d_De_derive_122 : decode b_De_derive 122 = .ok (.iaload, 1) := by decide +kernel
theorem d_De_derive_123 : decode b_De_derive 123 = .ok (.invokevirtual 48, 3) := by decide +kernel
theorem d_De_derive_126 : decode b_De_derive 126 = .ok (.iinc 7 1, 3) := by decide +kernel
theorem d_De_derive_129 : decode b_De_derive 129 = .ok (.goto (-24), 3) := by decide +kernel
theorem d_De_derive_132 : decode b_De_derive 132 = .ok (.iload_n 3, 1) := by decide +kernel
theorem d_De_derive_133 : decode b_De_derive 133 = .ok (.aload_n 0, 1) := by decide +kernel
theorem d_De_derive_134 : decode b_De_derive 134 = .ok (.invokevirtual 51, 3) := by decide +kernel
theorem d_De_derive_137 : decode b_De_derive 137 = .ok (.iand, 1) := by decide +kernel
theorem d_De_derive_138 : decode b_De_derive 138 = .ok (.istore 7, 2) := by decide +kernel
theorem d_De_derive_140 : decode b_De_derive 140 = .ok (.iload 4, 2) := by decide +kernel
theorem d_De_derive_142 : decode b_De_derive 142 = .ok (.istore 8, 2) := by decide +kernel
theorem d_De_derive_144 : decode b_De_derive 144 = .ok (.iload 8, 2) := by decide +kernel
theorem d_De_derive_146 : decode b_De_derive 146 = .ok (.iload 6, 2) := by decide +kernel
theorem d_De_derive_148 : decode b_De_derive 148 = .ok (.if_icmp .ge 29, 3) := by decide +kernel
theorem d_De_derive_151 : decode b_De_derive 151 = .ok (.aload_n 0, 1) := by decide +kernel
theorem d_De_derive_152 : decode b_De_derive 152 = .ok (.getfield 34, 3) := by decide +kernel
theorem d_De_derive_155 : decode b_De_derive 155 = .ok (.ifCond .ne 22, 3) := by decide +kernel
theorem d_De_derive_158 : decode b_De_derive 158 = .ok (.aload_n 0, 1) := by decide +kernel
theorem d_De_derive_159 : decode b_De_derive 159 = .ok (.aload_n 0, 1) := by decide +kernel
theorem d_De_derive_160 : decode b_De_derive 160 = .ok (.getfield 20, 3) := by decide +kernel
theorem d_De_derive_163 : decode b_De_derive 163 = .ok (.iload 8, 2) := by decide +kernel
theorem d_De_derive_165 : decode b_De_derive 165 = .ok (.iaload, 1) := by decide +kernel
theorem d_De_derive_166 : decode b_De_derive 166 = .ok (.iload 7, 2) := by decide +kernel
theorem d_De_derive_168 : decode b_De_derive 168 = .ok (.invokevirtual 55, 3) := by decide +kernel
theorem d_De_derive_171 : decode b_De_derive 171 = .ok (.iinc 8 1, 3) := by decide +kernel
theorem d_De_derive_174 : decode b_De_derive 174 = .ok (.goto (-30), 3) := by decide +kernel
theorem d_De_derive_177 : decode b_De_derive 177 = .ok (.iload 6, 2) := by decide +kernel
theorem d_De_derive_179 : decode b_De_derive 179 = .ok (.istore 4, 2) := by decide +kernel
theorem d_De_derive_181 : decode b_De_derive 181 = .ok (.iinc 5 1, 3) := by decide +kernel
theorem d_De_derive_184 : decode b_De_derive 184 = .ok (.goto (-119), 3) := by decide +kernel
theorem d_De_derive_187 : decode b_De_derive 187 = .ok (.return_, 1) := by decide +kernel
theorem d_De_rulesInReach_0 : decode b_De_rulesInReach 0 = .ok (.iconst 0, 1) := by decide +kernel
theorem d_De_rulesInReach_1 : decode b_De_rulesInReach 1 = .ok (.istore_n 1, 1) := by decide +kernel
theorem d_De_rulesInReach_2 : decode b_De_rulesInReach 2 = .ok (.iconst 0, 1) := by decide +kernel
theorem d_De_rulesInReach_3 : decode b_De_rulesInReach 3 = .ok (.istore_n 2, 1) := by decide +kernel
theorem d_De_rulesInReach_4 : decode b_De_rulesInReach 4 = .ok (.iload_n 2, 1) := by decide +kernel
theorem d_De_rulesInReach_5 : decode b_De_rulesInReach 5 = .ok (.bipush 21, 2) := by decide +kernel
theorem d_De_rulesInReach_7 : decode b_De_rulesInReach 7 = .ok (.if_icmp .ge 39, 3) := by decide +kernel
theorem d_De_rulesInReach_10 : decode b_De_rulesInReach 10 = .ok (.getstatic 59, 3) := by decide +kernel
theorem d_De_rulesInReach_13 : decode b_De_rulesInReach 13 = .ok (.iload_n 2, 1) := by decide +kernel
theorem d_De_rulesInReach_14 : decode b_De_rulesInReach 14 = .ok (.iconst 0, 1) := by decide +kernel
theorem d_De_rulesInReach_15 : decode b_De_rulesInReach 15 = .ok (.invokestatic 64, 3) := by decide +kernel
theorem d_De_rulesInReach_18 : decode b_De_rulesInReach 18 = .ok (.iconst 1, 1) := by decide +kernel
theorem d_De_rulesInReach_19 : decode b_De_rulesInReach 19 = .ok (.iadd, 1) := by decide +kernel
theorem d_De_rulesInReach_20 : decode b_De_rulesInReach 20 = .ok (.iaload, 1) := by decide +kernel
theorem d_De_rulesInReach_21 : decode b_De_rulesInReach 21 = .ok (.istore_n 3, 1) := by decide +kernel
theorem d_De_rulesInReach_22 : decode b_De_rulesInReach 22 = .ok (.aload_n 0, 1) := by decide +kernel
theorem d_De_rulesInReach_23 : decode b_De_rulesInReach 23 = .ok (.getfield 38, 3) := by decide +kernel
theorem d_De_rulesInReach_26 : decode b_De_rulesInReach 26 = .ok (.iconst (-1), 1) := by decide +kernel
theorem d_De_rulesInReach_27 : decode b_De_rulesInReach 27 = .ok (.iload_n 3, 1) := by decide +kernel
theorem d_De_rulesInReach_28 : decode b_De_rulesInReach 28 = .ok (.invokevirtual 68, 3) := by decide +kernel
theorem d_De_rulesInReach_31 : decode b_De_rulesInReach 31 = .ok (.ifCond .eq 9, 3) := by decide +kernel
theorem d_De_rulesInReach_34 : decode b_De_rulesInReach 34 = .ok (.iload_n 1, 1) := by decide +kernel
theorem d_De_rulesInReach_35 : decode b_De_rulesInReach 35 = .ok (.iconst 1, 1) := by decide +kernel
theorem d_De_rulesInReach_36 : decode b_De_rulesInReach 36 = .ok (.iload_n 2, 1) := by decide +kernel
theorem d_De_rulesInReach_37 : decode b_De_rulesInReach 37 = .ok (.ishl, 1) := by decide +kernel
theorem d_De_rulesInReach_38 : decode b_De_rulesInReach 38 = .ok (.ior, 1) := by decide +kernel
theorem d_De_rulesInReach_39 : decode b_De_rulesInReach 39 = .ok (.istore_n 1, 1) := by decide +kernel
theorem d_De_rulesInReach_40 : decode b_De_rulesInReach 40 = .ok (.iinc 2 1, 3) := by decide +kernel
theorem d_De_rulesInReach_43 : decode b_De_rulesInReach 43 = .ok (.goto (-39), 3) := by decide +kernel
theorem d_De_rulesInReach_46 : decode b_De_rulesInReach 46 = .ok (.iload_n 1, 1) := by decide +kernel
theorem d_De_rulesInReach_47 : decode b_De_rulesInReach 47 = .ok (.ireturn, 1) := by decide +kernel
theorem d_De_applyRules_0 : decode b_De_applyRules 0 = .ok (.iconst 0, 1) := by decide +kernel
theorem d_De_applyRules_1 : decode b_De_applyRules 1 = .ok (.istore_n 3, 1) := by decide +kernel
theorem d_De_applyRules_2 : decode b_De_applyRules 2 = .ok (.iload_n 3, 1) := by decide +kernel
theorem d_De_applyRules_3 : decode b_De_applyRules 3 = .ok (.bipush 21, 2) := by decide +kernel
theorem d_De_applyRules_5 : decode b_De_applyRules 5 = .ok (.if_icmp .ge 86, 3) := by decide +kernel
theorem d_De_applyRules_8 : decode b_De_applyRules 8 = .ok (.iload_n 2, 1) := by decide +kernel
theorem d_De_applyRules_9 : decode b_De_applyRules 9 = .ok (.iload_n 3, 1) := by decide +kernel
theorem d_De_applyRules_10 : decode b_De_applyRules 10 = .ok (.invokestatic 71, 3) := by decide +kernel
theorem d_De_applyRules_13 : decode b_De_applyRules 13 = .ok (.ifCond .eq 10, 3) := by decide +kernel
theorem d_De_applyRules_16 : decode b_De_applyRules 16 = .ok (.iload_n 3, 1) := by decide +kernel
theorem d_De_applyRules_17 : decode b_De_applyRules 17 = .ok (.invokestatic 75, 3) := by decide +kernel
theorem d_De_applyRules_20 : decode b_De_applyRules 20 = .ok (.goto 4, 3) := by decide +kernel
theorem d_De_applyRules_23 : decode b_De_applyRules 23 = .ok (.iconst 0, 1) := by decide +kernel
theorem d_De_applyRules_24 : decode b_De_applyRules 24 = .ok (.istore 4, 2) := by decide +kernel
theorem d_De_applyRules_26 : decode b_De_applyRules 26 = .ok (.iconst 0, 1) := by decide +kernel
theorem d_De_applyRules_27 : decode b_De_applyRules 27 = .ok (.istore 5, 2) := by decide +kernel
theorem d_De_applyRules_29 : decode b_De_applyRules 29 = .ok (.iload 5, 2) := by decide +kernel
theorem d_De_applyRules_31 : decode b_De_applyRules 31 = .ok (.iload 4, 2) := by decide +kernel
theorem d_De_applyRules_33 : decode b_De_applyRules 33 = .ok (.if_icmp .ge 52, 3) := by decide +kernel
theorem d_De_applyRules_36 : decode b_De_applyRules 36 = .ok (.iload_n 3, 1) := by decide +kernel
theorem d_De_applyRules_37 : decode b_De_applyRules 37 = .ok (.iload 5, 2) := by decide +kernel
theorem d_De_applyRules_39 : decode b_De_applyRules 39 = .ok (.invokestatic 64, 3) := by decide +kernel
theorem d_De_applyRules_42 : decode b_De_applyRules 42 = .ok (.istore 6, 2) := by decide +kernel
theorem d_De_applyRules_44 : decode b_De_applyRules 44 = .ok (.getstatic 59, 3) := by decide +kernel
theorem d_De_applyRules_47 : decode b_De_applyRules 47 = .ok (.iload 6, 2) := by decide +kernel
theorem d_De_applyRules_49 : decode b_De_applyRules 49 = .ok (.iload_n 1, 1) := by decide +kernel
theorem d_De_applyRules_50 : decode b_De_applyRules 50 = .ok (.lconst 0, 1) := by decide +kernel
theorem d_De_applyRules_51 : decode b_De_applyRules 51 = .ok (.invokestatic 81, 3) := by decide +kernel
theorem d_De_applyRules_54 : decode b_De_applyRules 54 = .ok (.lstore 7, 2) := by decide +kernel
theorem d_De_applyRules_56 : decode b_De_applyRules 56 = .ok (.lload 7, 2) := by decide +kernel
theorem d_De_applyRules_58 : decode b_De_applyRules 58 = .ok (.ldc2_w 85, 3) := by decide +kernel
theorem d_De_applyRules_61 : decode b_De_applyRules 61 = .ok (.lcmp, 1) := by decide +kernel
theorem d_De_applyRules_62 : decode b_De_applyRules 62 = .ok (.ifCond .eq 17, 3) := by decide +kernel
theorem d_De_applyRules_65 : decode b_De_applyRules 65 = .ok (.aload_n 0, 1) := by decide +kernel
theorem d_De_applyRules_66 : decode b_De_applyRules 66 = .ok (.iload_n 3, 1) := by decide +kernel
theorem d_De_applyRules_67 : decode b_De_applyRules 67 = .ok (.iconst 0, 1) := by decide +kernel
theorem d_De_applyRules_68 : decode b_De_applyRules 68 = .ok (.iload 5, 2) := by decide +kernel
theorem d_De_applyRules_70 : decode b_De_applyRules 70 = .ok (.lload 7, 2) := by decide +kernel
theorem d_De_applyRules_72 : decode b_De_applyRules 72 = .ok (.invokestatic 87, 3) := by decide +kernel
theorem d_De_applyRules_75 : decode b_De_applyRules 75 = .ok (.ifCond .eq 4, 3) := by decide +kernel
theorem d_De_applyRules_78 : decode b_De_applyRules 78 = .ok (.return_, 1) := by decide +kernel
theorem d_De_applyRules_79 : decode b_De_applyRules 79 = .ok (.iinc 5 1, 3) := by decide +kernel
theorem d_De_applyRules_82 : decode b_De_applyRules 82 = .ok (.goto (-53), 3) := by decide +kernel
theorem d_De_applyRules_85 : decode b_De_applyRules 85 = .ok (.iinc 3 1, 3) := by decide +kernel
theorem d_De_applyRules_88 : decode b_De_applyRules 88 = .ok (.goto (-86), 3) := by decide +kernel
theorem d_De_applyRules_91 : decode b_De_applyRules 91 = .ok (.return_, 1) := by decide +kernel
theorem d_De_meet_0 : decode b_De_meet 0 = .ok (.aload_n 0, 1) := by decide +kernel
theorem d_De_meet_1 : decode b_De_meet 1 = .ok (.iload_n 1, 1) := by decide +kernel
theorem d_De_meet_2 : decode b_De_meet 2 = .ok (.lload_n 2, 1) := by decide +kernel
theorem d_De_meet_3 : decode b_De_meet 3 = .ok (.invokestatic 91, 3) := by decide +kernel
theorem d_De_meet_6 : decode b_De_meet 6 = .ok (.invokevirtual 44, 3) := by decide +kernel
theorem d_De_meet_9 : decode b_De_meet 9 = .ok (.aload_n 0, 1) := by decide +kernel
theorem d_De_meet_10 : decode b_De_meet 10 = .ok (.getfield 34, 3) := by decide +kernel
theorem d_De_meet_13 : decode b_De_meet 13 = .ok (.ireturn, 1) := by decide +kernel
theorem d_De_add_0 : decode b_De_add 0 = .ok (.aload_n 0, 1) := by decide +kernel
theorem d_De_add_1 : decode b_De_add 1 = .ok (.getfield 14, 3) := by decide +kernel
theorem d_De_add_4 : decode b_De_add 4 = .ok (.iload_n 1, 1) := by decide +kernel
theorem d_De_add_5 : decode b_De_add 5 = .ok (.invokevirtual 95, 3) := by decide +kernel
theorem d_De_add_8 : decode b_De_add 8 = .ok (.ifCond .eq 4, 3) := by decide +kernel
theorem d_De_add_11 : decode b_De_add 11 = .ok (.return_, 1) := by decide +kernel
theorem d_De_add_12 : decode b_De_add 12 = .ok (.aload_n 0, 1) := by decide +kernel
theorem d_De_add_13 : decode b_De_add 13 = .ok (.getfield 31, 3) := by decide +kernel
theorem d_De_add_16 : decode b_De_add 16 = .ok (.sipush 400, 3) := by decide +kernel
theorem d_De_add_19 : decode b_De_add 19 = .ok (.if_icmp .lt 9, 3) := by decide +kernel
theorem d_De_add_22 : decode b_De_add 22 = .ok (.aload_n 0, 1) := by decide +kernel
theorem d_De_add_23 : decode b_De_add 23 = .ok (.iconst 1, 1) := by decide +kernel
theorem d_De_add_24 : decode b_De_add 24 = .ok (.putfield 34, 3) := by decide +kernel
theorem d_De_add_27 : decode b_De_add 27 = .ok (.return_, 1) := by decide +kernel
theorem d_De_add_28 : decode b_De_add 28 = .ok (.aload_n 0, 1) := by decide +kernel
theorem d_De_add_29 : decode b_De_add 29 = .ok (.getfield 14, 3) := by decide +kernel
theorem d_De_add_32 : decode b_De_add 32 = .ok (.iload_n 1, 1) := by decide +kernel
theorem d_De_add_33 : decode b_De_add 33 = .ok (.invokevirtual 48, 3) := by decide +kernel
theorem d_De_add_36 : decode b_De_add 36 = .ok (.aload_n 0, 1) := by decide +kernel
theorem d_De_add_37 : decode b_De_add 37 = .ok (.getfield 20, 3) := by decide +kernel
theorem d_De_add_40 : decode b_De_add 40 = .ok (.aload_n 0, 1) := by decide +kernel
theorem d_De_add_41 : decode b_De_add 41 = .ok (.getfield 31, 3) := by decide +kernel
theorem d_De_add_44 : decode b_De_add 44 = .ok (.iload_n 1, 1) := by decide +kernel
theorem d_De_add_45 : decode b_De_add 45 = .ok (.iastore, 1) := by decide +kernel
theorem d_De_add_46 : decode b_De_add 46 = .ok (.aload_n 0, 1) := by decide +kernel
theorem d_De_add_47 : decode b_De_add 47 = .ok (.getfield 24, 3) := by decide +kernel
theorem d_De_add_50 : decode b_De_add 50 = .ok (.aload_n 0, 1) := by decide +kernel
theorem d_De_add_51 : decode b_De_add 51 = .ok (.getfield 31, 3) := by decide +kernel
theorem d_De_add_54 : decode b_De_add 54 = .ok (.aload_n 0, 1) := by decide +kernel
theorem d_De_add_55 : decode b_De_add 55 = .ok (.getfield 27, 3) := by decide +kernel
theorem d_De_add_58 : decode b_De_add 58 = .ok (.iastore, 1) := by decide +kernel
theorem d_De_add_59 : decode b_De_add 59 = .ok (.aload_n 0, 1) := by decide +kernel
theorem d_De_add_60 : decode b_De_add 60 = .ok (.dup, 1) := by decide +kernel
theorem d_De_add_61 : decode b_De_add 61 = .ok (.getfield 31, 3) := by decide +kernel
theorem d_De_add_64 : decode b_De_add 64 = .ok (.iconst 1, 1) := by decide +kernel
theorem d_De_add_65 : decode b_De_add 65 = .ok (.iadd, 1) := by decide +kernel
theorem d_De_add_66 : decode b_De_add 66 = .ok (.putfield 31, 3) := by decide +kernel
theorem d_De_add_69 : decode b_De_add 69 = .ok (.return_, 1) := by decide +kernel
theorem d_De_lastRound_0 : decode b_De_lastRound 0 = .ok (.aload_n 0, 1) := by decide +kernel
theorem d_De_lastRound_1 : decode b_De_lastRound 1 = .ok (.getfield 31, 3) := by decide +kernel
theorem d_De_lastRound_4 : decode b_De_lastRound 4 = .ok (.ifCond .le 27, 3) := by decide +kernel
theorem d_De_lastRound_7 : decode b_De_lastRound 7 = .ok (.aload_n 0, 1) := by decide +kernel
theorem d_De_lastRound_8 : decode b_De_lastRound 8 = .ok (.getfield 31, 3) := by decide +kernel
theorem d_De_lastRound_11 : decode b_De_lastRound 11 = .ok (.sipush 400, 3) := by decide +kernel
theorem d_De_lastRound_14 : decode b_De_lastRound 14 = .ok (.if_icmp .gt 17, 3) := by decide +kernel
theorem d_De_lastRound_17 : decode b_De_lastRound 17 = .ok (.aload_n 0, 1) := by decide +kernel
theorem d_De_lastRound_18 : decode b_De_lastRound 18 = .ok (.getfield 24, 3) := by decide +kernel
theorem d_De_lastRound_21 : decode b_De_lastRound 21 = .ok (.aload_n 0, 1) := by decide +kernel
theorem d_De_lastRound_22 : decode b_De_lastRound 22 = .ok (.getfield 31, 3) := by decide +kernel
theorem d_De_lastRound_25 : decode b_De_lastRound 25 = .ok (.iconst 1, 1) := by decide +kernel
theorem d_De_lastRound_26 : decode b_De_lastRound 26 = .ok (.isub, 1) := by decide +kernel
theorem d_De_lastRound_27 : decode b_De_lastRound 27 = .ok (.iaload, 1) := by decide +kernel
theorem d_De_lastRound_28 : decode b_De_lastRound 28 = .ok (.goto 4, 3) := by decide +kernel
theorem d_De_lastRound_31 : decode b_De_lastRound 31 = .ok (.iconst 0, 1) := by decide +kernel
theorem d_De_lastRound_32 : decode b_De_lastRound 32 = .ok (.ireturn, 1) := by decide +kernel
end
section
theorem d_De_roundOf_0 : decode b_De_roundOf 0 = .ok (.iconst 0, 1) := by decide +kernel
theorem d_De_roundOf_1 : decode b_De_roundOf 1 = .ok (.istore_n 2, 1) := by decide +kernel
theorem d_De_roundOf_2 : decode b_De_roundOf 2 = .ok (.iload_n 2, 1) := by decide +kernel
theorem d_De_roundOf_3 : decode b_De_roundOf 3 = .ok (.aload_n 0, 1) := by decide +kernel
theorem d_De_roundOf_4 : decode b_De_roundOf 4 = .ok (.getfield 31, 3) := by decide +kernel
theorem d_De_roundOf_7 : decode b_De_roundOf 7 = .ok (.if_icmp .ge 26, 3) := by decide +kernel
theorem d_De_roundOf_10 : decode b_De_roundOf 10 = .ok (.aload_n 0, 1) := by decide +kernel
theorem d_De_roundOf_11 : decode b_De_roundOf 11 = .ok (.getfield 20, 3) := by decide +kernel
theorem d_De_roundOf_14 : decode b_De_roundOf 14 = .ok (.iload_n 2, 1) := by decide +kernel
theorem d_De_roundOf_15 : decode b_De_roundOf 15 = .ok (.iaload, 1) := by decide +kernel
theorem d_De_roundOf_16 : decode b_De_roundOf 16 = .ok (.iload_n 1, 1) := by decide +kernel
theorem d_De_roundOf_17 : decode b_De_roundOf 17 = .ok (.if_icmp .ne 10, 3) := by decide +kernel
theorem d_De_roundOf_20 : decode b_De_roundOf 20 = .ok (.aload_n 0, 1) := by decide +kernel
theorem d_De_roundOf_21 : decode b_De_roundOf 21 = .ok (.getfield 24, 3) := by decide +kernel
theorem d_De_roundOf_24 : decode b_De_roundOf 24 = .ok (.iload_n 2, 1) := by decide +kernel
theorem d_De_roundOf_25 : decode b_De_roundOf 25 = .ok (.iaload, 1) := by decide +kernel
theorem d_De_roundOf_26 : decode b_De_roundOf 26 = .ok (.ireturn, 1) := by decide +kernel
theorem d_De_roundOf_27 : decode b_De_roundOf 27 = .ok (.iinc 2 1, 3) := by decide +kernel
theorem d_De_roundOf_30 : decode b_De_roundOf 30 = .ok (.goto (-28), 3) := by decide +kernel
theorem d_De_roundOf_33 : decode b_De_roundOf 33 = .ok (.bipush (-2), 2) := by decide +kernel
theorem d_De_roundOf_35 : decode b_De_roundOf 35 = .ok (.ireturn, 1) := by decide +kernel
theorem d_Le_termOf_0 : decode b_Le_termOf 0 = .ok (.iload_n 0, 1) := by decide +kernel
theorem d_Le_termOf_1 : decode b_Le_termOf 1 = .ok (.bipush 32, 2) := by decide +kernel
theorem d_Le_termOf_3 : decode b_Le_termOf 3 = .ok (.if_icmp .ge 5, 3) := by decide +kernel
theorem d_Le_termOf_6 : decode b_Le_termOf 6 = .ok (.iload_n 0, 1) := by decide +kernel
theorem d_Le_termOf_7 : decode b_Le_termOf 7 = .ok (.ireturn, 1) := by decide +kernel
theorem d_Le_termOf_8 : decode b_Le_termOf 8 = .ok (.lload_n 1, 1) := by decide +kernel
theorem d_Le_termOf_9 : decode b_Le_termOf 9 = .ok (.bipush 6, 2) := by decide +kernel
theorem d_Le_termOf_11 : decode b_Le_termOf 11 = .ok (.iload_n 0, 1) := by decide +kernel
theorem d_Le_termOf_12 : decode b_Le_termOf 12 = .ok (.bipush 32, 2) := by decide +kernel
theorem d_Le_termOf_14 : decode b_Le_termOf 14 = .ok (.isub, 1) := by decide +kernel
theorem d_Le_termOf_15 : decode b_Le_termOf 15 = .ok (.imul, 1) := by decide +kernel
theorem d_Le_termOf_16 : decode b_Le_termOf 16 = .ok (.lushr, 1) := by decide +kernel
theorem d_Le_termOf_17 : decode b_Le_termOf 17 = .ok (.ldc2_w 11, 3) := by decide +kernel
theorem d_Le_termOf_20 : decode b_Le_termOf 20 = .ok (.land, 1) := by decide +kernel
theorem d_Le_termOf_21 : decode b_Le_termOf 21 = .ok (.l2i, 1) := by decide +kernel
theorem d_Le_termOf_22 : decode b_Le_termOf 22 = .ok (.iconst 1, 1) := by decide +kernel
theorem d_Le_termOf_23 : decode b_Le_termOf 23 = .ok (.isub, 1) := by decide +kernel
theorem d_Le_termOf_24 : decode b_Le_termOf 24 = .ok (.ireturn, 1) := by decide +kernel
theorem d_Le_bind_0 : decode b_Le_bind 0 = .ok (.iload_n 0, 1) := by decide +kernel
theorem d_Le_bind_1 : decode b_Le_bind 1 = .ok (.lload_n 2, 1) := by decide +kernel
theorem d_Le_bind_2 : decode b_Le_bind 2 = .ok (.invokestatic 13, 3) := by decide +kernel
theorem d_Le_bind_5 : decode b_Le_bind 5 = .ok (.istore 4, 2) := by decide +kernel
theorem d_Le_bind_7 : decode b_Le_bind 7 = .ok (.iload 4, 2) := by decide +kernel
theorem d_Le_bind_9 : decode b_Le_bind 9 = .ok (.iconst (-1), 1) := by decide +kernel
theorem d_Le_bind_10 : decode b_Le_bind 10 = .ok (.if_icmp .ne 18, 3) := by decide +kernel
theorem d_Le_bind_13 : decode b_Le_bind 13 = .ok (.lload_n 2, 1) := by decide +kernel
theorem d_Le_bind_14 : decode b_Le_bind 14 = .ok (.iload_n 1, 1) := by decide +kernel
theorem d_Le_bind_15 : decode b_Le_bind 15 = .ok (.iconst 1, 1) := by decide +kernel
theorem d_Le_bind_16 : decode b_Le_bind 16 = .ok (.iadd, 1) := by decide +kernel
theorem d_Le_bind_17 : decode b_Le_bind 17 = .ok (.i2l, 1) := by decide +kernel
theorem d_Le_bind_18 : decode b_Le_bind 18 = .ok (.bipush 6, 2) := by decide +kernel
theorem d_Le_bind_20 : decode b_Le_bind 20 = .ok (.iload_n 0, 1) := by decide +kernel
theorem d_Le_bind_21 : decode b_Le_bind 21 = .ok (.bipush 32, 2) := by decide +kernel
theorem d_Le_bind_23 : decode b_Le_bind 23 = .ok (.isub, 1) := by decide +kernel
theorem d_Le_bind_24 : decode b_Le_bind 24 = .ok (.imul, 1) := by decide +kernel
theorem d_Le_bind_25 : decode b_Le_bind 25 = .ok (.lshl, 1) := by decide +kernel
theorem d_Le_bind_26 : decode b_Le_bind 26 = .ok (.lor, 1) := by decide +kernel
theorem d_Le_bind_27 : decode b_Le_bind 27 = .ok (.lreturn, 1) := by decide +kernel
theorem d_Le_bind_28 : decode b_Le_bind 28 = .ok (.iload 4, 2) := by decide +kernel
theorem d_Le_bind_30 : decode b_Le_bind 30 = .ok (.iload_n 1, 1) := by decide +kernel
theorem d_Le_bind_31 : decode b_Le_bind 31 = .ok (.if_icmp .ne 7, 3) := by decide +kernel
theorem d_Le_bind_34 : decode b_Le_bind 34 = .ok (.lload_n 2, 1) := by decide +kernel
theorem d_Le_bind_35 : decode b_Le_bind 35 = .ok (.goto 6, 3) := by decide +kernel
theorem d_Le_bind_38 : decode b_Le_bind 38 = .ok (.ldc2_w 17, 3) := by decide +kernel
theorem d_Le_bind_41 : decode b_Le_bind 41 = .ok (.lreturn, 1) := by decide +kernel
theorem d_Le_fit_0 : decode b_Le_fit 0 = .ok (.iload_n 1, 1) := by decide +kernel
theorem d_Le_fit_1 : decode b_Le_fit 1 = .ok (.ifCond .lt 11, 3) := by decide +kernel
theorem d_Le_fit_4 : decode b_Le_fit 4 = .ok (.iload_n 1, 1) := by decide +kernel
theorem d_Le_fit_5 : decode b_Le_fit 5 = .ok (.iconst 2, 1) := by decide +kernel
theorem d_Le_fit_6 : decode b_Le_fit 6 = .ok (.iadd, 1) := by decide +kernel
theorem d_Le_fit_7 : decode b_Le_fit 7 = .ok (.aload_n 0, 1) := by decide +kernel
theorem d_Le_fit_8 : decode b_Le_fit 8 = .ok (.arraylength, 1) := by decide +kernel
theorem d_Le_fit_9 : decode b_Le_fit 9 = .ok (.if_icmp .lt 7, 3) := by decide +kernel
theorem d_Le_fit_12 : decode b_Le_fit 12 = .ok (.ldc2_w 17, 3) := by decide +kernel
theorem d_Le_fit_15 : decode b_Le_fit 15 = .ok (.lreturn, 1) := by decide +kernel
theorem d_Le_fit_16 : decode b_Le_fit 16 = .ok (.aload_n 0, 1) := by decide +kernel
theorem d_Le_fit_17 : decode b_Le_fit 17 = .ok (.iload_n 1, 1) := by decide +kernel
theorem d_Le_fit_18 : decode b_Le_fit 18 = .ok (.iconst 1, 1) := by decide +kernel
theorem d_Le_fit_19 : decode b_Le_fit 19 = .ok (.iadd, 1) := by decide +kernel
theorem d_Le_fit_20 : decode b_Le_fit 20 = .ok (.iaload, 1) := by decide +kernel
theorem d_Le_fit_21 : decode b_Le_fit 21 = .ok (.iload_n 2, 1) := by decide +kernel
theorem d_Le_fit_22 : decode b_Le_fit 22 = .ok (.bipush 32, 2) := by decide +kernel
theorem d_Le_fit_24 : decode b_Le_fit 24 = .ok (.idiv, 1) := by decide +kernel
theorem d_Le_fit_25 : decode b_Le_fit 25 = .ok (.bipush 32, 2) := by decide +kernel
theorem d_Le_fit_27 : decode b_Le_fit 27 = .ok (.irem, 1) := by decide +kernel
theorem d_Le_fit_28 : decode b_Le_fit 28 = .ok (.lload_n 3, 1) := by decide +kernel
theorem d_Le_fit_29 : decode b_Le_fit 29 = .ok (.invokestatic 19, 3) := by decide +kernel
theorem d_Le_fit_32 : decode b_Le_fit 32 = .ok (.lstore 5, 2) := by decide +kernel
theorem d_Le_fit_34 : decode b_Le_fit 34 = .ok (.lload 5, 2) := by decide +kernel
theorem d_Le_fit_36 : decode b_Le_fit 36 = .ok (.ldc2_w 17, 3) := by decide +kernel
theorem d_Le_fit_39 : decode b_Le_fit 39 = .ok (.lcmp, 1) := by decide +kernel
theorem d_Le_fit_40 : decode b_Le_fit 40 = .ok (.ifCond .eq 20, 3) := by decide +kernel
theorem d_Le_fit_43 : decode b_Le_fit 43 = .ok (.aload_n 0, 1) := by decide +kernel
theorem d_Le_fit_44 : decode b_Le_fit 44 = .ok (.iload_n 1, 1) := by decide +kernel
theorem d_Le_fit_45 : decode b_Le_fit 45 = .ok (.iaload, 1) := by decide +kernel
theorem d_Le_fit_46 : decode b_Le_fit 46 = .ok (.iload_n 2, 1) := by decide +kernel
theorem d_Le_fit_47 : decode b_Le_fit 47 = .ok (.bipush 32, 2) := by decide +kernel
theorem d_Le_fit_49 : decode b_Le_fit 49 = .ok (.idiv, 1) := by decide +kernel
theorem d_Le_fit_50 : decode b_Le_fit 50 = .ok (.bipush 32, 2) := by decide +kernel
theorem d_Le_fit_52 : decode b_Le_fit 52 = .ok (.idiv, 1) := by decide +kernel
theorem d_Le_fit_53 : decode b_Le_fit 53 = .ok (.lload 5, 2) := by decide +kernel
theorem d_Le_fit_55 : decode b_Le_fit 55 = .ok (.invokestatic 19, 3) := by decide +kernel
theorem d_Le_fit_58 : decode b_Le_fit 58 = .ok (.lstore 5, 2) := by decide +kernel
theorem d_Le_fit_60 : decode b_Le_fit 60 = .ok (.lload 5, 2) := by decide +kernel
theorem d_Le_fit_62 : decode b_Le_fit 62 = .ok (.ldc2_w 17, 3) := by decide +kernel
theorem d_Le_fit_65 : decode b_Le_fit 65 = .ok (.lcmp, 1) := by decide +kernel
theorem d_Le_fit_66 : decode b_Le_fit 66 = .ok (.ifCond .eq 19, 3) := by decide +kernel
theorem d_Le_fit_69 : decode b_Le_fit 69 = .ok (.aload_n 0, 1) := by decide +kernel
theorem d_Le_fit_70 : decode b_Le_fit 70 = .ok (.iload_n 1, 1) := by decide +kernel
theorem d_Le_fit_71 : decode b_Le_fit 71 = .ok (.iconst 2, 1) := by decide +kernel
theorem d_Le_fit_72 : decode b_Le_fit 72 = .ok (.iadd, 1) := by decide +kernel
theorem d_Le_fit_73 : decode b_Le_fit 73 = .ok (.iaload, 1) := by decide +kernel
theorem d_Le_fit_74 : decode b_Le_fit 74 = .ok (.iload_n 2, 1) := by decide +kernel
theorem d_Le_fit_75 : decode b_Le_fit 75 = .ok (.bipush 32, 2) := by decide +kernel
theorem d_Le_fit_77 : decode b_Le_fit 77 = .ok (.irem, 1) := by decide +kernel
theorem d_Le_fit_78 : decode b_Le_fit 78 = .ok (.lload 5, 2) := by decide +kernel
theorem d_Le_fit_80 : decode b_Le_fit 80 = .ok (.invokestatic 19, 3) := by decide +kernel
theorem d_Le_fit_83 : decode b_Le_fit 83 = .ok (.lstore 5, 2) := by decide +kernel
theorem d_Le_fit_85 : decode b_Le_fit 85 = .ok (.lload 5, 2) := by decide +kernel
theorem d_Le_fit_87 : decode b_Le_fit 87 = .ok (.lreturn, 1) := by decide +kernel
theorem d_Ma_init_0 : decode b_Ma_init 0 = .ok (.aload_n 0, 1) := by decide +kernel
theorem d_Ma_init_1 : decode b_Ma_init 1 = .ok (.invokespecial 3, 3) := by decide +kernel
theorem d_Ma_init_4 : decode b_Ma_init 4 = .ok (.aload_n 0, 1) := by decide +kernel
theorem d_Ma_init_5 : decode b_Ma_init 5 = .ok (.aload_n 1, 1) := by decide +kernel
theorem d_Ma_init_6 : decode b_Ma_init 6 = .ok (.putfield 9, 3) := by decide +kernel
theorem d_Ma_init_9 : decode b_Ma_init 9 = .ok (.aload_n 0, 1) := by decide +kernel
theorem d_Ma_init_10 : decode b_Ma_init 10 = .ok (.iconst 4, 1) := by decide +kernel
theorem d_Ma_init_11 : decode b_Ma_init 11 = .ok (.newarray .int, 2) := by decide +kernel
theorem d_Ma_init_13 : decode b_Ma_init 13 = .ok (.putfield 15, 3) := by decide +kernel
theorem d_Ma_init_16 : decode b_Ma_init 16 = .ok (.return_, 1) := by decide +kernel
theorem d_Ma_join_0 : decode b_Ma_join 0 = .ok (.iload_n 2, 1) := by decide +kernel
theorem d_Ma_join_1 : decode b_Ma_join 1 = .ok (.iload_n 1, 1) := by decide +kernel
theorem d_Ma_join_2 : decode b_Ma_join 2 = .ok (.invokestatic 19, 3) := by decide +kernel
theorem d_Ma_join_5 : decode b_Ma_join 5 = .ok (.if_icmp .ge 8, 3) := by decide +kernel
theorem d_Ma_join_8 : decode b_Ma_join 8 = .ok (.iload_n 2, 1) := by decide +kernel
theorem d_Ma_join_9 : decode b_Ma_join 9 = .ok (.iconst 4, 1) := by decide +kernel
theorem d_Ma_join_10 : decode b_Ma_join 10 = .ok (.if_icmp .lt 11, 3) := by decide +kernel
theorem d_Ma_join_13 : decode b_Ma_join 13 = .ok (.aload_n 0, 1) := by decide +kernel
theorem d_Ma_join_14 : decode b_Ma_join 14 = .ok (.iload_n 1, 1) := by decide +kernel
theorem d_Ma_join_15 : decode b_Ma_join 15 = .ok (.lload 4, 2) := by decide +kernel
theorem d_Ma_join_17 : decode b_Ma_join 17 = .ok (.invokevirtual 25, 3) := by decide +kernel
theorem d_Ma_join_20 : decode b_Ma_join 20 = .ok (.ireturn, 1) := by decide +kernel
theorem d_Ma_join_21 : decode b_Ma_join 21 = .ok (.iload_n 2, 1) := by decide +kernel
theorem d_Ma_join_22 : decode b_Ma_join 22 = .ok (.iload_n 3, 1) := by decide +kernel
theorem d_Ma_join_23 : decode b_Ma_join 23 = .ok (.if_icmp .ne 15, 3) := by decide +kernel
theorem d_Ma_join_26 : decode b_Ma_join 26 = .ok (.aload_n 0, 1) := by decide +kernel
theorem d_Ma_join_27 : decode b_Ma_join 27 = .ok (.iload_n 1, 1) := by decide +kernel
theorem d_Ma_join_28 : decode b_Ma_join 28 = .ok (.iload_n 2, 1) := by decide +kernel
theorem d_Ma_join_29 : decode b_Ma_join 29 = .ok (.iconst 1, 1) := by decide +kernel
theorem d_Ma_join_30 : decode b_Ma_join 30 = .ok (.iadd, 1) := by decide +kernel
theorem d_Ma_join_31 : decode b_Ma_join 31 = .ok (.iload_n 3, 1) := by decide +kernel
theorem d_Ma_join_32 : decode b_Ma_join 32 = .ok (.lload 4, 2) := by decide +kernel
theorem d_Ma_join_34 : decode b_Ma_join 34 = .ok (.invokestatic 29, 3) := by decide +kernel
theorem d_Ma_join_37 : decode b_Ma_join 37 = .ok (.ireturn, 1) := by decide +kernel
theorem d_Ma_join_38 : decode b_Ma_join 38 = .ok (.iload_n 1, 1) := by decide +kernel
theorem d_Ma_join_39 : decode b_Ma_join 39 = .ok (.iload_n 2, 1) := by decide +kernel
theorem d_Ma_join_40 : decode b_Ma_join 40 = .ok (.invokestatic 33, 3) := by decide +kernel
theorem d_Ma_join_43 : decode b_Ma_join 43 = .ok (.istore 6, 2) := by decide +kernel
theorem d_Ma_join_45 : decode b_Ma_join 45 = .ok (.getstatic 37, 3) := by decide +kernel
theorem d_Ma_join_48 : decode b_Ma_join 48 = .ok (.iload 6, 2) := by decide +kernel
theorem d_Ma_join_50 : decode b_Ma_join 50 = .ok (.iaload, 1) := by decide +kernel
theorem d_Ma_join_51 : decode b_Ma_join 51 = .ok (.lload 4, 2) := by decide +kernel
theorem d_Ma_join_53 : decode b_Ma_join 53 = .ok (.invokestatic 40, 3) := by decide +kernel
theorem d_Ma_join_56 : decode b_Ma_join 56 = .ok (.istore 7, 2) := by decide +kernel
theorem d_Ma_join_58 : decode b_Ma_join 58 = .ok (.getstatic 37, 3) := by decide +kernel
theorem d_Ma_join_61 : decode b_Ma_join 61 = .ok (.iload 6, 2) := by decide +kernel
theorem d_Ma_join_63 : decode b_Ma_join 63 = .ok (.iconst 1, 1) := by decide +kernel
theorem d_Ma_join_64 : decode b_Ma_join 64 = .ok (.iadd, 1) := by decide +kernel
theorem d_Ma_join_65 : decode b_Ma_join 65 = .ok (.iaload, 1) := by decide +kernel
theorem d_Ma_join_66 : decode b_Ma_join 66 = .ok (.lload 4, 2) := by decide +kernel
theorem d_Ma_join_68 : decode b_Ma_join 68 = .ok (.invokestatic 40, 3) := by decide +kernel
theorem d_Ma_join_71 : decode b_Ma_join 71 = .ok (.istore 8, 2) := by decide +kernel
theorem d_Ma_join_73 : decode b_Ma_join 73 = .ok (.getstatic 37, 3) := by decide +kernel
theorem d_Ma_join_76 : decode b_Ma_join 76 = .ok (.iload 6, 2) := by decide +kernel
theorem d_Ma_join_78 : decode b_Ma_join 78 = .ok (.iconst 2, 1) := by decide +kernel
theorem d_Ma_join_79 : decode b_Ma_join 79 = .ok (.iadd, 1) := by decide +kernel
theorem d_Ma_join_80 : decode b_Ma_join 80 = .ok (.iaload, 1) := by decide +kernel
theorem d_Ma_join_81 : decode b_Ma_join 81 = .ok (.lload 4, 2) := by decide +kernel
theorem d_Ma_join_83 : decode b_Ma_join 83 = .ok (.invokestatic 40, 3) := by decide +kernel
theorem d_Ma_join_86 : decode b_Ma_join 86 = .ok (.istore 9, 2) := by decide +kernel
theorem d_Ma_join_88 : decode b_Ma_join 88 = .ok (.aload_n 0, 1) := by decide +kernel
theorem d_Ma_join_89 : decode b_Ma_join 89 = .ok (.getfield 9, 3) := by decide +kernel
theorem d_Ma_join_92 : decode b_Ma_join 92 = .ok (.iload 7, 2) := by decide +kernel
theorem d_Ma_join_94 : decode b_Ma_join 94 = .ok (.iload 8, 2) := by decide +kernel
theorem d_Ma_join_96 : decode b_Ma_join 96 = .ok (.invokevirtual 46, 3) := by decide +kernel
theorem d_Ma_join_99 : decode b_Ma_join 99 = .ok (.istore 10, 2) := by decide +kernel
theorem d_Ma_join_101 : decode b_Ma_join 101 = .ok (.iload 10, 2) := by decide +kernel
theorem d_Ma_join_103 : decode b_Ma_join 103 = .ok (.invokestatic 51, 3) := by decide +kernel
theorem d_Ma_join_106 : decode b_Ma_join 106 = .ok (.istore 11, 2) := by decide +kernel
theorem d_Ma_join_108 : decode b_Ma_join 108 = .ok (.iload 11, 2) := by decide +kernel
theorem d_Ma_join_110 : decode b_Ma_join 110 = .ok (.ifCond .le 169, 3) := by decide +kernel
theorem d_Ma_join_113 : decode b_Ma_join 113 = .ok (.iload 10, 2) := by decide +kernel
theorem d_Ma_join_115 : decode b_Ma_join 115 = .ok (.invokestatic 56, 3) := by decide +kernel
theorem d_Ma_join_118 : decode b_Ma_join 118 = .ok (.istore 12, 2) := by decide +kernel
theorem d_Ma_join_120 : decode b_Ma_join 120 = .ok (.iload 10, 2) := by decide +kernel
theorem d_Ma_join_122 : decode b_Ma_join 122 = .ok (.invokestatic 59, 3) := by decide +kernel
theorem d_Ma_join_125 : decode b_Ma_join 125 = .ok (.istore 10, 2) := by decide +kernel
theorem d_Ma_join_127 : decode b_Ma_join 127 = .ok (.aload_n 0, 1) := by decide +kernel
theorem d_Ma_join_128 : decode b_Ma_join 128 = .ok (.getfield 9, 3) := by decide +kernel
theorem d_Ma_join_131 : decode b_Ma_join 131 = .ok (.iload 12, 2) := by decide +kernel
theorem d_Ma_join_133 : decode b_Ma_join 133 = .ok (.iload 8, 2) := by decide +kernel
theorem d_Ma_join_135 : decode b_Ma_join 135 = .ok (.invokevirtual 62, 3) := by decide +kernel
theorem d_Ma_join_138 : decode b_Ma_join 138 = .ok (.istore 13, 2) := by decide +kernel
theorem d_Ma_join_140 : decode b_Ma_join 140 = .ok (.iload 13, 2) := by decide +kernel
theorem d_Ma_join_142 : decode b_Ma_join 142 = .ok (.invokestatic 51, 3) := by decide +kernel
theorem d_Ma_join_145 : decode b_Ma_join 145 = .ok (.istore 14, 2) := by decide +kernel
theorem d_Ma_join_147 : decode b_Ma_join 147 = .ok (.iload 14, 2) := by decide +kernel
theorem d_Ma_join_149 : decode b_Ma_join 149 = .ok (.ifCond .le 124, 3) := by decide +kernel
theorem d_Ma_join_152 : decode b_Ma_join 152 = .ok (.iload 13, 2) := by decide +kernel
theorem d_Ma_join_154 : decode b_Ma_join 154 = .ok (.invokestatic 56, 3) := by decide +kernel
theorem d_Ma_join_157 : decode b_Ma_join 157 = .ok (.istore 15, 2) := by decide +kernel
theorem d_Ma_join_159 : decode b_Ma_join 159 = .ok (.iload 13, 2) := by decide +kernel
theorem d_Ma_join_161 : decode b_Ma_join 161 = .ok (.invokestatic 59, 3) := by decide +kernel
theorem d_Ma_join_164 : decode b_Ma_join 164 = .ok (.istore 13, 2) := by decide +kernel
theorem d_Ma_join_166 : decode b_Ma_join 166 = .ok (.aload_n 0, 1) := by decide +kernel
theorem d_Ma_join_167 : decode b_Ma_join 167 = .ok (.getfield 9, 3) := by decide +kernel
theorem d_Ma_join_170 : decode b_Ma_join 170 = .ok (.iload 12, 2) := by decide +kernel
theorem d_Ma_join_172 : decode b_Ma_join 172 = .ok (.iload 15, 2) := by decide +kernel
theorem d_Ma_join_174 : decode b_Ma_join 174 = .ok (.iload 9, 2) := by decide +kernel
theorem d_Ma_join_176 : decode b_Ma_join 176 = .ok (.invokevirtual 65, 3) := by decide +kernel
theorem d_Ma_join_179 : decode b_Ma_join 179 = .ok (.istore 16, 2) := by decide +kernel
theorem d_Ma_join_181 : decode b_Ma_join 181 = .ok (.iload 16, 2) := by decide +kernel
theorem d_Ma_join_183 : decode b_Ma_join 183 = .ok (.invokestatic 51, 3) := by decide +kernel
theorem d_Ma_join_186 : decode b_Ma_join 186 = .ok (.istore 17, 2) := by decide +kernel
theorem d_Ma_join_188 : decode b_Ma_join 188 = .ok (.iload 17, 2) := by decide +kernel
theorem d_Ma_join_190 : decode b_Ma_join 190 = .ok (.ifCond .le 77, 3) := by decide +kernel
theorem d_Ma_join_193 : decode b_Ma_join 193 = .ok (.iload 12, 2) := by decide +kernel
theorem d_Ma_join_195 : decode b_Ma_join 195 = .ok (.iload 15, 2) := by decide +kernel
theorem d_Ma_join_197 : decode b_Ma_join 197 = .ok (.iload 16, 2) := by decide +kernel
theorem d_Ma_join_199 : decode b_Ma_join 199 = .ok (.invokestatic 56, 3) := by decide +kernel
theorem d_Ma_join_202 : decode b_Ma_join 202 = .ok (.invokestatic 69, 3) := by decide +kernel
theorem d_Ma_join_205 : decode b_Ma_join 205 = .ok (.istore 18, 2) := by decide +kernel
theorem d_Ma_join_207 : decode b_Ma_join 207 = .ok (.iload 16, 2) := by decide +kernel
theorem d_Ma_join_209 : decode b_Ma_join 209 = .ok (.invokestatic 59, 3) := by decide +kernel
theorem d_Ma_join_212 : decode b_Ma_join 212 = .ok (.istore 16, 2) := by decide +kernel
theorem d_Ma_join_214 : decode b_Ma_join 214 = .ok (.aload_n 0, 1) := by decide +kernel
theorem d_Ma_join_215 : decode b_Ma_join 215 = .ok (.getfield 15, 3) := by decide +kernel
theorem d_Ma_join_218 : decode b_Ma_join 218 = .ok (.iload_n 2, 1) := by decide +kernel
theorem d_Ma_join_219 : decode b_Ma_join 219 = .ok (.iload 18, 2) := by decide +kernel
theorem d_Ma_join_221 : decode b_Ma_join 221 = .ok (.iastore, 1) := by decide +kernel
theorem d_Ma_join_222 : decode b_Ma_join 222 = .ok (.getstatic 37, 3) := by decide +kernel
theorem d_Ma_join_225 : decode b_Ma_join 225 = .ok (.iload 6, 2) := by decide +kernel
theorem d_Ma_join_227 : decode b_Ma_join 227 = .ok (.iload 18, 2) := by decide +kernel
theorem d_Ma_join_229 : decode b_Ma_join 229 = .ok (.lload 4, 2) := by decide +kernel
theorem d_Ma_join_231 : decode b_Ma_join 231 = .ok (.invokestatic 72, 3) := by decide +kernel
theorem d_Ma_join_234 : decode b_Ma_join 234 = .ok (.lstore 19, 2) := by decide +kernel
theorem d_Ma_join_236 : decode b_Ma_join 236 = .ok (.lload 19, 2) := by decide +kernel
theorem d_Ma_join_238 : decode b_Ma_join 238 = .ok (.ldc2_w 76, 3) := by decide +kernel
theorem d_Ma_join_241 : decode b_Ma_join 241 = .ok (.lcmp, 1) := by decide +kernel
theorem d_Ma_join_242 : decode b_Ma_join 242 = .ok (.ifCond .eq 19, 3) := by decide +kernel
theorem d_Ma_join_245 : decode b_Ma_join 245 = .ok (.aload_n 0, 1) := by decide +kernel
theorem d_Ma_join_246 : decode b_Ma_join 246 = .ok (.iload_n 1, 1) := by decide +kernel
theorem d_Ma_join_247 : decode b_Ma_join 247 = .ok (.iload_n 2, 1) := by decide +kernel
theorem d_Ma_join_248 : decode b_Ma_join 248 = .ok (.iconst 1, 1) := by decide +kernel
theorem d_Ma_join_249 : decode b_Ma_join 249 = .ok (.iadd, 1) := by decide +kernel
theorem d_Ma_join_250 : decode b_Ma_join 250 = .ok (.iload_n 3, 1) := by decide +kernel
theorem d_Ma_join_251 : decode b_Ma_join 251 = .ok (.lload 19, 2) := by decide +kernel
theorem d_Ma_join_253 : decode b_Ma_join 253 = .ok (.invokestatic 29, 3) := by decide +kernel
theorem d_Ma_join_256 : decode b_Ma_join 256 = .ok (.ifCond .eq 5, 3) := by decide +kernel
theorem d_Ma_join_259 : decode b_Ma_join 259 = .ok (.iconst 1, 1) := by decide +kernel
theorem d_Ma_join_260 : decode b_Ma_join 260 = .ok (.ireturn, 1) := by decide +kernel
theorem d_Ma_join_261 : decode b_Ma_join 261 = .ok (.iinc 17 (-1), 3) := by decide +kernel
theorem d_Ma_join_264 : decode b_Ma_join 264 = .ok (.goto (-76), 3) := by decide +kernel
theorem d_Ma_join_267 : decode b_Ma_join 267 = .ok (.iinc 14 (-1), 3) := by decide +kernel
theorem d_Ma_join_270 : decode b_Ma_join 270 = .ok (.goto (-123), 3) := by decide +kernel
theorem d_Ma_join_273 : decode b_Ma_join 273 = .ok (.iinc 11 (-1), 3) := by decide +kernel
theorem d_Ma_join_276 : decode b_Ma_join 276 = .ok (.goto (-168), 3) := by decide +kernel
theorem d_Ma_join_279 : decode b_Ma_join 279 = .ok (.iconst 0, 1) := by decide +kernel
theorem d_Ma_join_280 : decode b_Ma_join 280 = .ok (.ireturn, 1) := by decide +kernel
theorem d_Se_init_0 : decode b_Se_init 0 = .ok (.aload_n 0, 1) := by decide +kernel
theorem d_Se_init_1 : decode b_Se_init 1 = .ok (.aload_n 1, 1) := by decide +kernel
theorem d_Se_init_2 : decode b_Se_init 2 = .ok (.invokespecial 3, 3) := by decide +kernel
theorem d_Se_init_5 : decode b_Se_init 5 = .ok (.aload_n 0, 1) := by decide +kernel
theorem d_Se_init_6 : decode b_Se_init 6 = .ok (.iconst (-1), 1) := by decide +kernel
theorem d_Se_init_7 : decode b_Se_init 7 = .ok (.putfield 9, 3) := by decide +kernel
theorem d_Se_init_10 : decode b_Se_init 10 = .ok (.aload_n 0, 1) := by decide +kernel
theorem d_Se_init_11 : decode b_Se_init 11 = .ok (.iconst 0, 1) := by decide +kernel
theorem d_Se_init_12 : decode b_Se_init 12 = .ok (.putfield 15, 3) := by decide +kernel
theorem d_Se_init_15 : decode b_Se_init 15 = .ok (.aload_n 0, 1) := by decide +kernel
theorem d_Se_init_16 : decode b_Se_init 16 = .ok (.iconst 0, 1) := by decide +kernel
theorem d_Se_init_17 : decode b_Se_init 17 = .ok (.putfield 18, 3) := by decide +kernel
theorem d_Se_init_20 : decode b_Se_init 20 = .ok (.return_, 1) := by decide +kernel
theorem d_Se_countWays_0 : decode b_Se_countWays 0 = .ok (.aload_n 0, 1) := by decide +kernel
theorem d_Se_countWays_1 : decode b_Se_countWays 1 = .ok (.iload_n 1, 1) := by decide +kernel
theorem d_Se_countWays_2 : decode b_Se_countWays 2 = .ok (.iload_n 2, 1) := by decide +kernel
theorem d_Se_countWays_3 : decode b_Se_countWays 3 = .ok (.iconst (-1), 1) := by decide +kernel
theorem d_Se_countWays_4 : decode b_Se_countWays 4 = .ok (.invokevirtual 21, 3) := by decide +kernel
theorem d_Se_countWays_7 : decode b_Se_countWays 7 = .ok (.pop, 1) := by decide +kernel
theorem d_Se_countWays_8 : decode b_Se_countWays 8 = .ok (.aload_n 0, 1) := by decide +kernel
theorem d_Se_countWays_9 : decode b_Se_countWays 9 = .ok (.getfield 15, 3) := by decide +kernel
theorem d_Se_countWays_12 : decode b_Se_countWays 12 = .ok (.ireturn, 1) := by decide +kernel
theorem d_Se_seekWay_0 : decode b_Se_seekWay 0 = .ok (.aload_n 0, 1) := by decide +kernel
theorem d_Se_seekWay_1 : decode b_Se_seekWay 1 = .ok (.iload_n 3, 1) := by decide +kernel
theorem d_Se_seekWay_2 : decode b_Se_seekWay 2 = .ok (.putfield 9, 3) := by decide +kernel
theorem d_Se_seekWay_5 : decode b_Se_seekWay 5 = .ok (.aload_n 0, 1) := by decide +kernel
theorem d_Se_seekWay_6 : decode b_Se_seekWay 6 = .ok (.iconst 0, 1) := by decide +kernel
theorem d_Se_seekWay_7 : decode b_Se_seekWay 7 = .ok (.putfield 15, 3) := by decide +kernel
theorem d_Se_seekWay_10 : decode b_Se_seekWay 10 = .ok (.iconst 0, 1) := by decide +kernel
theorem d_Se_seekWay_11 : decode b_Se_seekWay 11 = .ok (.istore 4, 2) := by decide +kernel
theorem d_Se_seekWay_13 : decode b_Se_seekWay 13 = .ok (.iload 4, 2) := by decide +kernel
theorem d_Se_seekWay_15 : decode b_Se_seekWay 15 = .ok (.bipush 21, 2) := by decide +kernel
theorem d_Se_seekWay_17 : decode b_Se_seekWay 17 = .ok (.if_icmp .ge 60, 3) := by decide +kernel
theorem d_Se_seekWay_20 : decode b_Se_seekWay 20 = .ok (.iload_n 2, 1) := by decide +kernel
theorem d_Se_seekWay_21 : decode b_Se_seekWay 21 = .ok (.iload 4, 2) := by decide +kernel
theorem d_Se_seekWay_23 : decode b_Se_seekWay 23 = .ok (.invokestatic 25, 3) := by decide +kernel
theorem d_Se_seekWay_26 : decode b_Se_seekWay 26 = .ok (.ifCond .ne 6, 3) := by decide +kernel
theorem d_Se_seekWay_29 : decode b_Se_seekWay 29 = .ok (.goto 42, 3) := by decide +kernel
theorem d_Se_seekWay_32 : decode b_Se_seekWay 32 = .ok (.getstatic 29, 3) := by decide +kernel
theorem d_Se_seekWay_35 : decode b_Se_seekWay 35 = .ok (.iload 4, 2) := by decide +kernel
theorem d_Se_seekWay_37 : decode b_Se_seekWay 37 = .ok (.invokestatic 35, 3) := by decide +kernel
theorem d_Se_seekWay_40 : decode b_Se_seekWay 40 = .ok (.iload_n 1, 1) := by decide +kernel
theorem d_Se_seekWay_41 : decode b_Se_seekWay 41 = .ok (.lconst 0, 1) := by decide +kernel
theorem d_Se_seekWay_42 : decode b_Se_seekWay 42 = .ok (.invokestatic 41, 3) := by decide +kernel
theorem d_Se_seekWay_45 : decode b_Se_seekWay 45 = .ok (.lstore 5, 2) := by decide +kernel
theorem d_Se_seekWay_47 : decode b_Se_seekWay 47 = .ok (.lload 5, 2) := by decide +kernel
theorem d_Se_seekWay_49 : decode b_Se_seekWay 49 = .ok (.ldc2_w 45, 3) := by decide +kernel
theorem d_Se_seekWay_52 : decode b_Se_seekWay 52 = .ok (.lcmp, 1) := by decide +kernel
theorem d_Se_seekWay_53 : decode b_Se_seekWay 53 = .ok (.ifCond .eq 18, 3) := by decide +kernel
theorem d_Se_seekWay_56 : decode b_Se_seekWay 56 = .ok (.aload_n 0, 1) := by decide +kernel
theorem d_Se_seekWay_57 : decode b_Se_seekWay 57 = .ok (.iload 4, 2) := by decide +kernel
theorem d_Se_seekWay_59 : decode b_Se_seekWay 59 = .ok (.iconst 0, 1) := by decide +kernel
theorem d_Se_seekWay_60 : decode b_Se_seekWay 60 = .ok (.iconst (-1), 1) := by decide +kernel
theorem d_Se_seekWay_61 : decode b_Se_seekWay 61 = .ok (.lload 5, 2) := by decide +kernel
theorem d_Se_seekWay_63 : decode b_Se_seekWay 63 = .ok (.invokestatic 47, 3) := by decide +kernel
theorem d_Se_seekWay_66 : decode b_Se_seekWay 66 = .ok (.ifCond .eq 5, 3) := by decide +kernel
theorem d_Se_seekWay_69 : decode b_Se_seekWay 69 = .ok (.iconst 1, 1) := by decide +kernel
theorem d_Se_seekWay_70 : decode b_Se_seekWay 70 = .ok (.ireturn, 1) := by decide +kernel
theorem d_Se_seekWay_71 : decode b_Se_seekWay 71 = .ok (.iinc 4 1, 3) := by decide +kernel
theorem d_Se_seekWay_74 : decode b_Se_seekWay 74 = .ok (.goto (-61), 3) := by decide +kernel
theorem d_Se_seekWay_77 : decode b_Se_seekWay 77 = .ok (.iconst 0, 1) := by decide +kernel
theorem d_Se_seekWay_78 : decode b_Se_seekWay 78 = .ok (.ireturn, 1) := by decide +kernel
end
section
theorem d_Se_countClashes_0 : decode b_Se_countClashes 0 = .ok (.aload_n 0, 1) := by decide +kernel
theorem d_Se_countClashes_1 : decode b_Se_countClashes 1 = .ok (.iconst (-1), 1) := by decide +kernel
theorem d_Se_countClashes_2 : decode b_Se_countClashes 2 = .ok (.invokevirtual 51, 3) := by decide +kernel
theorem d_Se_countClashes_5 : decode b_Se_countClashes 5 = .ok (.pop, 1) := by decide +kernel
theorem d_Se_countClashes_6 : decode b_Se_countClashes 6 = .ok (.aload_n 0, 1) := by decide +kernel
theorem d_Se_countClashes_7 : decode b_Se_countClashes 7 = .ok (.getfield 15, 3) := by decide +kernel
theorem d_Se_countClashes_10 : decode b_Se_countClashes 10 = .ok (.ireturn, 1) := by decide +kernel
theorem d_Se_seekClash_0 : decode b_Se_seekClash 0 = .ok (.aload_n 0, 1) := by decide +kernel
theorem d_Se_seekClash_1 : decode b_Se_seekClash 1 = .ok (.iload_n 1, 1) := by decide +kernel
theorem d_Se_seekClash_2 : decode b_Se_seekClash 2 = .ok (.putfield 9, 3) := by decide +kernel
theorem d_Se_seekClash_5 : decode b_Se_seekClash 5 = .ok (.aload_n 0, 1) := by decide +kernel
theorem d_Se_seekClash_6 : decode b_Se_seekClash 6 = .ok (.iconst 0, 1) := by decide +kernel
theorem d_Se_seekClash_7 : decode b_Se_seekClash 7 = .ok (.putfield 15, 3) := by decide +kernel
theorem d_Se_seekClash_10 : decode b_Se_seekClash 10 = .ok (.iconst 0, 1) := by decide +kernel
theorem d_Se_seekClash_11 : decode b_Se_seekClash 11 = .ok (.istore_n 2, 1) := by decide +kernel
theorem d_Se_seekClash_12 : decode b_Se_seekClash 12 = .ok (.iload_n 2, 1) := by decide +kernel
theorem d_Se_seekClash_13 : decode b_Se_seekClash 13 = .ok (.iconst 3, 1) := by decide +kernel
theorem d_Se_seekClash_14 : decode b_Se_seekClash 14 = .ok (.if_icmp .ge 25, 3) := by decide +kernel
theorem d_Se_seekClash_17 : decode b_Se_seekClash 17 = .ok (.aload_n 0, 1) := by decide +kernel
theorem d_Se_seekClash_18 : decode b_Se_seekClash 18 = .ok (.bipush 21, 2) := by decide +kernel
theorem d_Se_seekClash_20 : decode b_Se_seekClash 20 = .ok (.iload_n 2, 1) := by decide +kernel
theorem d_Se_seekClash_21 : decode b_Se_seekClash 21 = .ok (.iadd, 1) := by decide +kernel
theorem d_Se_seekClash_22 : decode b_Se_seekClash 22 = .ok (.iconst 0, 1) := by decide +kernel
theorem d_Se_seekClash_23 : decode b_Se_seekClash 23 = .ok (.iconst (-1), 1) := by decide +kernel
theorem d_Se_seekClash_24 : decode b_Se_seekClash 24 = .ok (.lconst 0, 1) := by decide +kernel
theorem d_Se_seekClash_25 : decode b_Se_seekClash 25 = .ok (.invokestatic 47, 3) := by decide +kernel
theorem d_Se_seekClash_28 : decode b_Se_seekClash 28 = .ok (.ifCond .eq 5, 3) := by decide +kernel
theorem d_Se_seekClash_31 : decode b_Se_seekClash 31 = .ok (.iconst 1, 1) := by decide +kernel
theorem d_Se_seekClash_32 : decode b_Se_seekClash 32 = .ok (.ireturn, 1) := by decide +kernel
theorem d_Se_seekClash_33 : decode b_Se_seekClash 33 = .ok (.iinc 2 1, 3) := by decide +kernel
theorem d_Se_seekClash_36 : decode b_Se_seekClash 36 = .ok (.goto (-24), 3) := by decide +kernel
theorem d_Se_seekClash_39 : decode b_Se_seekClash 39 = .ok (.iconst 0, 1) := by decide +kernel
theorem d_Se_seekClash_40 : decode b_Se_seekClash 40 = .ok (.ireturn, 1) := by decide +kernel
theorem d_Se_meet_0 : decode b_Se_meet 0 = .ok (.aload_n 0, 1) := by decide +kernel
theorem d_Se_meet_1 : decode b_Se_meet 1 = .ok (.getfield 15, 3) := by decide +kernel
theorem d_Se_meet_4 : decode b_Se_meet 4 = .ok (.aload_n 0, 1) := by decide +kernel
theorem d_Se_meet_5 : decode b_Se_meet 5 = .ok (.getfield 9, 3) := by decide +kernel
theorem d_Se_meet_8 : decode b_Se_meet 8 = .ok (.if_icmp .ne 7, 3) := by decide +kernel
theorem d_Se_meet_11 : decode b_Se_meet 11 = .ok (.iconst 1, 1) := by decide +kernel
theorem d_Se_meet_12 : decode b_Se_meet 12 = .ok (.goto 4, 3) := by decide +kernel
theorem d_Se_meet_15 : decode b_Se_meet 15 = .ok (.iconst 0, 1) := by decide +kernel
theorem d_Se_meet_16 : decode b_Se_meet 16 = .ok (.istore 4, 2) := by decide +kernel
theorem d_Se_meet_18 : decode b_Se_meet 18 = .ok (.iload 4, 2) := by decide +kernel
theorem d_Se_meet_20 : decode b_Se_meet 20 = .ok (.ifCond .eq 8, 3) := by decide +kernel
theorem d_Se_meet_23 : decode b_Se_meet 23 = .ok (.aload_n 0, 1) := by decide +kernel
theorem d_Se_meet_24 : decode b_Se_meet 24 = .ok (.iload_n 1, 1) := by decide +kernel
theorem d_Se_meet_25 : decode b_Se_meet 25 = .ok (.putfield 18, 3) := by decide +kernel
theorem d_Se_meet_28 : decode b_Se_meet 28 = .ok (.aload_n 0, 1) := by decide +kernel
theorem d_Se_meet_29 : decode b_Se_meet 29 = .ok (.dup, 1) := by decide +kernel
theorem d_Se_meet_30 : decode b_Se_meet 30 = .ok (.getfield 15, 3) := by decide +kernel
theorem d_Se_meet_33 : decode b_Se_meet 33 = .ok (.iconst 1, 1) := by decide +kernel
theorem d_Se_meet_34 : decode b_Se_meet 34 = .ok (.iadd, 1) := by decide +kernel
theorem d_Se_meet_35 : decode b_Se_meet 35 = .ok (.putfield 15, 3) := by decide +kernel
theorem d_Se_meet_38 : decode b_Se_meet 38 = .ok (.iload 4, 2) := by decide +kernel
theorem d_Se_meet_40 : decode b_Se_meet 40 = .ok (.ireturn, 1) := by decide +kernel
theorem d_Se_foundPremise_0 : decode b_Se_foundPremise 0 = .ok (.iload_n 1, 1) := by decide +kernel
theorem d_Se_foundPremise_1 : decode b_Se_foundPremise 1 = .ok (.iconst 1, 1) := by decide +kernel
theorem d_Se_foundPremise_2 : decode b_Se_foundPremise 2 = .ok (.if_icmp .lt 19, 3) := by decide +kernel
theorem d_Se_foundPremise_5 : decode b_Se_foundPremise 5 = .ok (.iload_n 1, 1) := by decide +kernel
theorem d_Se_foundPremise_6 : decode b_Se_foundPremise 6 = .ok (.aload_n 0, 1) := by decide +kernel
theorem d_Se_foundPremise_7 : decode b_Se_foundPremise 7 = .ok (.getfield 18, 3) := by decide +kernel
theorem d_Se_foundPremise_10 : decode b_Se_foundPremise 10 = .ok (.invokestatic 55, 3) := by decide +kernel
theorem d_Se_foundPremise_13 : decode b_Se_foundPremise 13 = .ok (.if_icmp .gt 8, 3) := by decide +kernel
theorem d_Se_foundPremise_16 : decode b_Se_foundPremise 16 = .ok (.iload_n 1, 1) := by decide +kernel
theorem d_Se_foundPremise_17 : decode b_Se_foundPremise 17 = .ok (.iconst 4, 1) := by decide +kernel
theorem d_Se_foundPremise_18 : decode b_Se_foundPremise 18 = .ok (.if_icmp .le 6, 3) := by decide +kernel
theorem d_Se_foundPremise_21 : decode b_Se_foundPremise 21 = .ok (.bipush (-2), 2) := by decide +kernel
theorem d_Se_foundPremise_23 : decode b_Se_foundPremise 23 = .ok (.ireturn, 1) := by decide +kernel
theorem d_Se_foundPremise_24 : decode b_Se_foundPremise 24 = .ok (.aload_n 0, 1) := by decide +kernel
theorem d_Se_foundPremise_25 : decode b_Se_foundPremise 25 = .ok (.getfield 58, 3) := by decide +kernel
theorem d_Se_foundPremise_28 : decode b_Se_foundPremise 28 = .ok (.iload_n 1, 1) := by decide +kernel
theorem d_Se_foundPremise_29 : decode b_Se_foundPremise 29 = .ok (.iconst 1, 1) := by decide +kernel
theorem d_Se_foundPremise_30 : decode b_Se_foundPremise 30 = .ok (.isub, 1) := by decide +kernel
theorem d_Se_foundPremise_31 : decode b_Se_foundPremise 31 = .ok (.iaload, 1) := by decide +kernel
theorem d_Se_foundPremise_32 : decode b_Se_foundPremise 32 = .ok (.ireturn, 1) := by decide +kernel
theorem d_Tb_premiseCount_0 : decode b_Tb_premiseCount 0 = .ok (.iload_n 0, 1) := by decide +kernel
theorem d_Tb_premiseCount_1 : decode b_Tb_premiseCount 1 = .ok (.ifCond .lt 19, 3) := by decide +kernel
theorem d_Tb_premiseCount_4 : decode b_Tb_premiseCount 4 = .ok (.iload_n 0, 1) := by decide +kernel
theorem d_Tb_premiseCount_5 : decode b_Tb_premiseCount 5 = .ok (.getstatic 11, 3) := by decide +kernel
theorem d_Tb_premiseCount_8 : decode b_Tb_premiseCount 8 = .ok (.arraylength, 1) := by decide +kernel
theorem d_Tb_premiseCount_9 : decode b_Tb_premiseCount 9 = .ok (.if_icmp .ge 11, 3) := by decide +kernel
theorem d_Tb_premiseCount_12 : decode b_Tb_premiseCount 12 = .ok (.getstatic 11, 3) := by decide +kernel
theorem d_Tb_premiseCount_15 : decode b_Tb_premiseCount 15 = .ok (.iload_n 0, 1) := by decide +kernel
theorem d_Tb_premiseCount_16 : decode b_Tb_premiseCount 16 = .ok (.iaload, 1) := by decide +kernel
theorem d_Tb_premiseCount_17 : decode b_Tb_premiseCount 17 = .ok (.goto 4, 3) := by decide +kernel
theorem d_Tb_premiseCount_20 : decode b_Tb_premiseCount 20 = .ok (.iconst 0, 1) := by decide +kernel
theorem d_Tb_premiseCount_21 : decode b_Tb_premiseCount 21 = .ok (.ireturn, 1) := by decide +kernel
theorem d_Tb_premiseAt_0 : decode b_Tb_premiseAt 0 = .ok (.bipush 12, 2) := by decide +kernel
theorem d_Tb_premiseAt_2 : decode b_Tb_premiseAt 2 = .ok (.iload_n 0, 1) := by decide +kernel
theorem d_Tb_premiseAt_3 : decode b_Tb_premiseAt 3 = .ok (.imul, 1) := by decide +kernel
theorem d_Tb_premiseAt_4 : decode b_Tb_premiseAt 4 = .ok (.iconst 3, 1) := by decide +kernel
theorem d_Tb_premiseAt_5 : decode b_Tb_premiseAt 5 = .ok (.iload_n 1, 1) := by decide +kernel
theorem d_Tb_premiseAt_6 : decode b_Tb_premiseAt 6 = .ok (.imul, 1) := by decide +kernel
theorem d_Tb_premiseAt_7 : decode b_Tb_premiseAt 7 = .ok (.iadd, 1) := by decide +kernel
theorem d_Tb_premiseAt_8 : decode b_Tb_premiseAt 8 = .ok (.ireturn, 1) := by decide +kernel
theorem d_Tb_givenAt_0 : decode b_Tb_givenAt 0 = .ok (.iconst 3, 1) := by decide +kernel
theorem d_Tb_givenAt_1 : decode b_Tb_givenAt 1 = .ok (.iload_n 0, 1) := by decide +kernel
theorem d_Tb_givenAt_2 : decode b_Tb_givenAt 2 = .ok (.imul, 1) := by decide +kernel
theorem d_Tb_givenAt_3 : decode b_Tb_givenAt 3 = .ok (.ireturn, 1) := by decide +kernel
theorem d_Tb_givenCode_0 : decode b_Tb_givenCode 0 = .ok (.iload_n 0, 1) := by decide +kernel
theorem d_Tb_givenCode_1 : decode b_Tb_givenCode 1 = .ok (.invokestatic 15, 3) := by decide +kernel
theorem d_Tb_givenCode_4 : decode b_Tb_givenCode 4 = .ok (.istore_n 3, 1) := by decide +kernel
theorem d_Tb_givenCode_5 : decode b_Tb_givenCode 5 = .ok (.getstatic 19, 3) := by decide +kernel
theorem d_Tb_givenCode_8 : decode b_Tb_givenCode 8 = .ok (.iload_n 3, 1) := by decide +kernel
theorem d_Tb_givenCode_9 : decode b_Tb_givenCode 9 = .ok (.iaload, 1) := by decide +kernel
theorem d_Tb_givenCode_10 : decode b_Tb_givenCode 10 = .ok (.lload_n 1, 1) := by decide +kernel
theorem d_Tb_givenCode_11 : decode b_Tb_givenCode 11 = .ok (.invokestatic 22, 3) := by decide +kernel
theorem d_Tb_givenCode_14 : decode b_Tb_givenCode 14 = .ok (.getstatic 19, 3) := by decide +kernel
theorem d_Tb_givenCode_17 : decode b_Tb_givenCode 17 = .ok (.iload_n 3, 1) := by decide +kernel
theorem d_Tb_givenCode_18 : decode b_Tb_givenCode 18 = .ok (.iconst 1, 1) := by decide +kernel
theorem d_Tb_givenCode_19 : decode b_Tb_givenCode 19 = .ok (.iadd, 1) := by decide +kernel
theorem d_Tb_givenCode_20 : decode b_Tb_givenCode 20 = .ok (.iaload, 1) := by decide +kernel
theorem d_Tb_givenCode_21 : decode b_Tb_givenCode 21 = .ok (.lload_n 1, 1) := by decide +kernel
theorem d_Tb_givenCode_22 : decode b_Tb_givenCode 22 = .ok (.invokestatic 22, 3) := by decide +kernel
theorem d_Tb_givenCode_25 : decode b_Tb_givenCode 25 = .ok (.getstatic 19, 3) := by decide +kernel
theorem d_Tb_givenCode_28 : decode b_Tb_givenCode 28 = .ok (.iload_n 3, 1) := by decide +kernel
theorem d_Tb_givenCode_29 : decode b_Tb_givenCode 29 = .ok (.iconst 2, 1) := by decide +kernel
theorem d_Tb_givenCode_30 : decode b_Tb_givenCode 30 = .ok (.iadd, 1) := by decide +kernel
theorem d_Tb_givenCode_31 : decode b_Tb_givenCode 31 = .ok (.iaload, 1) := by decide +kernel
theorem d_Tb_givenCode_32 : decode b_Tb_givenCode 32 = .ok (.lload_n 1, 1) := by decide +kernel
theorem d_Tb_givenCode_33 : decode b_Tb_givenCode 33 = .ok (.invokestatic 22, 3) := by decide +kernel
theorem d_Tb_givenCode_36 : decode b_Tb_givenCode 36 = .ok (.invokestatic 28, 3) := by decide +kernel
theorem d_Tb_givenCode_39 : decode b_Tb_givenCode 39 = .ok (.ireturn, 1) := by decide +kernel
theorem d_Tr_init_0 : decode b_Tr_init 0 = .ok (.aload_n 0, 1) := by decide +kernel
theorem d_Tr_init_1 : decode b_Tr_init 1 = .ok (.invokespecial 3, 3) := by decide +kernel
theorem d_Tr_init_4 : decode b_Tr_init 4 = .ok (.aload_n 0, 1) := by decide +kernel
theorem d_Tr_init_5 : decode b_Tr_init 5 = .ok (.sipush 1024, 3) := by decide +kernel
theorem d_Tr_init_8 : decode b_Tr_init 8 = .ok (.newarray .int, 2) := by decide +kernel
theorem d_Tr_init_10 : decode b_Tr_init 10 = .ok (.putfield 9, 3) := by decide +kernel
theorem d_Tr_init_13 : decode b_Tr_init 13 = .ok (.aload_n 0, 1) := by decide +kernel
theorem d_Tr_init_14 : decode b_Tr_init 14 = .ok (.bipush 32, 2) := by decide +kernel
theorem d_Tr_init_16 : decode b_Tr_init 16 = .ok (.newarray .int, 2) := by decide +kernel
theorem d_Tr_init_18 : decode b_Tr_init 18 = .ok (.putfield 15, 3) := by decide +kernel
theorem d_Tr_init_21 : decode b_Tr_init 21 = .ok (.aload_n 0, 1) := by decide +kernel
theorem d_Tr_init_22 : decode b_Tr_init 22 = .ok (.bipush 32, 2) := by decide +kernel
theorem d_Tr_init_24 : decode b_Tr_init 24 = .ok (.newarray .int, 2) := by decide +kernel
theorem d_Tr_init_26 : decode b_Tr_init 26 = .ok (.putfield 18, 3) := by decide +kernel
theorem d_Tr_init_29 : decode b_Tr_init 29 = .ok (.aload_n 0, 1) := by decide +kernel
theorem d_Tr_init_30 : decode b_Tr_init 30 = .ok (.iconst 0, 1) := by decide +kernel
theorem d_Tr_init_31 : decode b_Tr_init 31 = .ok (.putfield 21, 3) := by decide +kernel
theorem d_Tr_init_34 : decode b_Tr_init 34 = .ok (.return_, 1) := by decide +kernel
theorem d_Tr_clear_0 : decode b_Tr_clear 0 = .ok (.aload_n 0, 1) := by decide +kernel
theorem d_Tr_clear_1 : decode b_Tr_clear 1 = .ok (.getfield 9, 3) := by decide +kernel
theorem d_Tr_clear_4 : decode b_Tr_clear 4 = .ok (.iconst 0, 1) := by decide +kernel
theorem d_Tr_clear_5 : decode b_Tr_clear 5 = .ok (.invokestatic 25, 3) := by decide +kernel
theorem d_Tr_clear_8 : decode b_Tr_clear 8 = .ok (.aload_n 0, 1) := by decide +kernel
theorem d_Tr_clear_9 : decode b_Tr_clear 9 = .ok (.getfield 15, 3) := by decide +kernel
theorem d_Tr_clear_12 : decode b_Tr_clear 12 = .ok (.iconst 0, 1) := by decide +kernel
theorem d_Tr_clear_13 : decode b_Tr_clear 13 = .ok (.invokestatic 25, 3) := by decide +kernel
theorem d_Tr_clear_16 : decode b_Tr_clear 16 = .ok (.aload_n 0, 1) := by decide +kernel
theorem d_Tr_clear_17 : decode b_Tr_clear 17 = .ok (.getfield 18, 3) := by decide +kernel
theorem d_Tr_clear_20 : decode b_Tr_clear 20 = .ok (.iconst 0, 1) := by decide +kernel
theorem d_Tr_clear_21 : decode b_Tr_clear 21 = .ok (.invokestatic 25, 3) := by decide +kernel
theorem d_Tr_clear_24 : decode b_Tr_clear 24 = .ok (.aload_n 0, 1) := by decide +kernel
theorem d_Tr_clear_25 : decode b_Tr_clear 25 = .ok (.iconst 0, 1) := by decide +kernel
theorem d_Tr_clear_26 : decode b_Tr_clear 26 = .ok (.putfield 21, 3) := by decide +kernel
theorem d_Tr_clear_29 : decode b_Tr_clear 29 = .ok (.return_, 1) := by decide +kernel
theorem d_Tr_put_0 : decode b_Tr_put 0 = .ok (.iload_n 1, 1) := by decide +kernel
theorem d_Tr_put_1 : decode b_Tr_put 1 = .ok (.ifCond .lt 9, 3) := by decide +kernel
theorem d_Tr_put_4 : decode b_Tr_put 4 = .ok (.iload_n 1, 1) := by decide +kernel
theorem d_Tr_put_5 : decode b_Tr_put 5 = .ok (.ldc 31, 2) := by decide +kernel
theorem d_Tr_put_7 : decode b_Tr_put 7 = .ok (.if_icmp .lt 4, 3) := by decide +kernel
theorem d_Tr_put_10 : decode b_Tr_put 10 = .ok (.return_, 1) := by decide +kernel
theorem d_Tr_put_11 : decode b_Tr_put 11 = .ok (.iload_n 1, 1) := by decide +kernel
theorem d_Tr_put_12 : decode b_Tr_put 12 = .ok (.bipush 32, 2) := by decide +kernel
theorem d_Tr_put_14 : decode b_Tr_put 14 = .ok (.idiv, 1) := by decide +kernel
theorem d_Tr_put_15 : decode b_Tr_put 15 = .ok (.bipush 32, 2) := by decide +kernel
theorem d_Tr_put_17 : decode b_Tr_put 17 = .ok (.idiv, 1) := by decide +kernel
theorem d_Tr_put_18 : decode b_Tr_put 18 = .ok (.istore_n 2, 1) := by decide +kernel
theorem d_Tr_put_19 : decode b_Tr_put 19 = .ok (.iload_n 1, 1) := by decide +kernel
theorem d_Tr_put_20 : decode b_Tr_put 20 = .ok (.bipush 32, 2) := by decide +kernel
theorem d_Tr_put_22 : decode b_Tr_put 22 = .ok (.idiv, 1) := by decide +kernel
theorem d_Tr_put_23 : decode b_Tr_put 23 = .ok (.bipush 32, 2) := by decide +kernel
theorem d_Tr_put_25 : decode b_Tr_put 25 = .ok (.irem, 1) := by decide +kernel
theorem d_Tr_put_26 : decode b_Tr_put 26 = .ok (.istore_n 3, 1) := by decide +kernel
theorem d_Tr_put_27 : decode b_Tr_put 27 = .ok (.aload_n 0, 1) := by decide +kernel
theorem d_Tr_put_28 : decode b_Tr_put 28 = .ok (.getfield 9, 3) := by decide +kernel
theorem d_Tr_put_31 : decode b_Tr_put 31 = .ok (.iload_n 1, 1) := by decide +kernel
theorem d_Tr_put_32 : decode b_Tr_put 32 = .ok (.bipush 32, 2) := by decide +kernel
theorem d_Tr_put_34 : decode b_Tr_put 34 = .ok (.idiv, 1) := by decide +kernel
theorem d_Tr_put_35 : decode b_Tr_put 35 = .ok (.dup2, 1) := by decide +kernel
theorem d_Tr_put_36 : decode b_Tr_put 36 = .ok (.iaload, 1) := by decide +kernel
theorem d_Tr_put_37 : decode b_Tr_put 37 = .ok (.iconst 1, 1) := by decide +kernel
theorem d_Tr_put_38 : decode b_Tr_put 38 = .ok (.iload_n 1, 1) := by decide +kernel
theorem d_Tr_put_39 : decode b_Tr_put 39 = .ok (.bipush 32, 2) := by decide +kernel
theorem d_Tr_put_41 : decode b_Tr_put 41 = .ok (.irem, 1) := by decide +kernel
theorem d_Tr_put_42 : decode b_Tr_put 42 = .ok (.ishl, 1) := by decide +kernel
theorem d_Tr_put_43 : decode b_Tr_put 43 = .ok (.ior, 1) := by decide +kernel
theorem d_Tr_put_44 : decode b_Tr_put 44 = .ok (.iastore, 1) := by decide +kernel
theorem d_Tr_put_45 : decode b_Tr_put 45 = .ok (.aload_n 0, 1) := by decide +kernel
theorem d_Tr_put_46 : decode b_Tr_put 46 = .ok (.getfield 15, 3) := by decide +kernel
theorem d_Tr_put_49 : decode b_Tr_put 49 = .ok (.iload_n 3, 1) := by decide +kernel
theorem d_Tr_put_50 : decode b_Tr_put 50 = .ok (.dup2, 1) := by decide +kernel
theorem d_Tr_put_51 : decode b_Tr_put 51 = .ok (.iaload, 1) := by decide +kernel
theorem d_Tr_put_52 : decode b_Tr_put 52 = .ok (.iconst 1, 1) := by decide +kernel
theorem d_Tr_put_53 : decode b_Tr_put 53 = .ok (.iload_n 2, 1) := by decide +kernel
theorem d_Tr_put_54 : decode b_Tr_put 54 = .ok (.ishl, 1) := by decide +kernel
theorem d_Tr_put_55 : decode b_Tr_put 55 = .ok (.ior, 1) := by decide +kernel
theorem d_Tr_put_56 : decode b_Tr_put 56 = .ok (.iastore, 1) := by decide +kernel
theorem d_Tr_put_57 : decode b_Tr_put 57 = .ok (.aload_n 0, 1) := by decide +kernel
theorem d_Tr_put_58 : decode b_Tr_put 58 = .ok (.getfield 18, 3) := by decide +kernel
theorem d_Tr_put_61 : decode b_Tr_put 61 = .ok (.iload_n 2, 1) := by decide +kernel
theorem d_Tr_put_62 : decode b_Tr_put 62 = .ok (.dup2, 1) := by decide +kernel
theorem d_Tr_put_63 : decode b_Tr_put 63 = .ok (.iaload, 1) := by decide +kernel
theorem d_Tr_put_64 : decode b_Tr_put 64 = .ok (.iconst 1, 1) := by decide +kernel
theorem d_Tr_put_65 : decode b_Tr_put 65 = .ok (.iload_n 3, 1) := by decide +kernel
theorem d_Tr_put_66 : decode b_Tr_put 66 = .ok (.ishl, 1) := by decide +kernel
theorem d_Tr_put_67 : decode b_Tr_put 67 = .ok (.ior, 1) := by decide +kernel
theorem d_Tr_put_68 : decode b_Tr_put 68 = .ok (.iastore, 1) := by decide +kernel
theorem d_Tr_put_69 : decode b_Tr_put 69 = .ok (.aload_n 0, 1) := by decide +kernel
theorem d_Tr_put_70 : decode b_Tr_put 70 = .ok (.dup, 1) := by decide +kernel
theorem d_Tr_put_71 : decode b_Tr_put 71 = .ok (.getfield 21, 3) := by decide +kernel
theorem d_Tr_put_74 : decode b_Tr_put 74 = .ok (.iconst 1, 1) := by decide +kernel
theorem d_Tr_put_75 : decode b_Tr_put 75 = .ok (.iload_n 2, 1) := by decide +kernel
theorem d_Tr_put_76 : decode b_Tr_put 76 = .ok (.ishl, 1) := by decide +kernel
theorem d_Tr_put_77 : decode b_Tr_put 77 = .ok (.ior, 1) := by decide +kernel
theorem d_Tr_put_78 : decode b_Tr_put 78 = .ok (.putfield 21, 3) := by decide +kernel
theorem d_Tr_put_81 : decode b_Tr_put 81 = .ok (.return_, 1) := by decide +kernel
theorem d_Tr_has_0 : decode b_Tr_has 0 = .ok (.iload_n 1, 1) := by decide +kernel
theorem d_Tr_has_1 : decode b_Tr_has 1 = .ok (.ifCond .lt 32, 3) := by decide +kernel
theorem d_Tr_has_4 : decode b_Tr_has 4 = .ok (.iload_n 1, 1) := by decide +kernel
theorem d_Tr_has_5 : decode b_Tr_has 5 = .ok (.ldc 31, 2) := by decide +kernel
theorem d_Tr_has_7 : decode b_Tr_has 7 = .ok (.if_icmp .ge 26, 3) := by decide +kernel
theorem d_Tr_has_10 : decode b_Tr_has 10 = .ok (.aload_n 0, 1) := by decide +kernel
theorem d_Tr_has_11 : decode b_Tr_has 11 = .ok (.getfield 9, 3) := by decide +kernel
theorem d_Tr_has_14 : decode b_Tr_has 14 = .ok (.iload_n 1, 1) := by decide +kernel
theorem d_Tr_has_15 : decode b_Tr_has 15 = .ok (.bipush 32, 2) := by decide +kernel
theorem d_Tr_has_17 : decode b_Tr_has 17 = .ok (.idiv, 1) := by decide +kernel
theorem d_Tr_has_18 : decode b_Tr_has 18 = .ok (.iaload, 1) := by decide +kernel
theorem d_Tr_has_19 : decode b_Tr_has 19 = .ok (.iconst 1, 1) := by decide +kernel
theorem d_Tr_has_20 : decode b_Tr_has 20 = .ok (.iload_n 1, 1) := by decide +kernel
theorem d_Tr_has_21 : decode b_Tr_has 21 = .ok (.bipush 32, 2) := by decide +kernel
theorem d_Tr_has_23 : decode b_Tr_has 23 = .ok (.irem, 1) := by decide +kernel
theorem d_Tr_has_24 : decode b_Tr_has 24 = .ok (.ishl, 1) := by decide +kernel
theorem d_Tr_has_25 : decode b_Tr_has 25 = .ok (.iand, 1) := by decide +kernel
theorem d_Tr_has_26 : decode b_Tr_has 26 = .ok (.ifCond .eq 7, 3) := by decide +kernel
theorem d_Tr_has_29 : decode b_Tr_has 29 = .ok (.iconst 1, 1) := by decide +kernel
theorem d_Tr_has_30 : decode b_Tr_has 30 = .ok (.goto 4, 3) := by decide +kernel
theorem d_Tr_has_33 : decode b_Tr_has 33 = .ok (.iconst 0, 1) := by decide +kernel
theorem d_Tr_has_34 : decode b_Tr_has 34 = .ok (.ireturn, 1) := by decide +kernel
theorem d_Tr_subjectsFor_0 : decode b_Tr_subjectsFor 0 = .ok (.iload_n 1, 1) := by decide +kernel
theorem d_Tr_subjectsFor_1 : decode b_Tr_subjectsFor 1 = .ok (.invokestatic 32, 3) := by decide +kernel
theorem d_Tr_subjectsFor_4 : decode b_Tr_subjectsFor 4 = .ok (.ifCond .eq 7, 3) := by decide +kernel
theorem d_Tr_subjectsFor_7 : decode b_Tr_subjectsFor 7 = .ok (.iconst 1, 1) := by decide +kernel
theorem d_Tr_subjectsFor_8 : decode b_Tr_subjectsFor 8 = .ok (.iload_n 1, 1) := by decide +kernel
theorem d_Tr_subjectsFor_9 : decode b_Tr_subjectsFor 9 = .ok (.ishl, 1) := by decide +kernel
theorem d_Tr_subjectsFor_10 : decode b_Tr_subjectsFor 10 = .ok (.ireturn, 1) := by decide +kernel
theorem d_Tr_subjectsFor_11 : decode b_Tr_subjectsFor 11 = .ok (.iload_n 2, 1) := by decide +kernel
theorem d_Tr_subjectsFor_12 : decode b_Tr_subjectsFor 12 = .ok (.invokestatic 32, 3) := by decide +kernel
theorem d_Tr_subjectsFor_15 : decode b_Tr_subjectsFor 15 = .ok (.ifCond .eq 12, 3) := by decide +kernel
theorem d_Tr_subjectsFor_18 : decode b_Tr_subjectsFor 18 = .ok (.aload_n 0, 1) := by decide +kernel
theorem d_Tr_subjectsFor_19 : decode b_Tr_subjectsFor 19 = .ok (.getfield 15, 3) := by decide +kernel
theorem d_Tr_subjectsFor_22 : decode b_Tr_subjectsFor 22 = .ok (.iload_n 2, 1) := by decide +kernel
theorem d_Tr_subjectsFor_23 : decode b_Tr_subjectsFor 23 = .ok (.iaload, 1) := by decide +kernel
theorem d_Tr_subjectsFor_24 : decode b_Tr_subjectsFor 24 = .ok (.goto 7, 3) := by decide +kernel
theorem d_Tr_subjectsFor_27 : decode b_Tr_subjectsFor 27 = .ok (.aload_n 0, 1) := by decide +kernel
theorem d_Tr_subjectsFor_28 : decode b_Tr_subjectsFor 28 = .ok (.getfield 21, 3) := by decide +kernel
theorem d_Tr_subjectsFor_31 : decode b_Tr_subjectsFor 31 = .ok (.ireturn, 1) := by decide +kernel
theorem d_Tr_predicatesFor_0 : decode b_Tr_predicatesFor 0 = .ok (.iload_n 2, 1) := by decide +kernel
theorem d_Tr_predicatesFor_1 : decode b_Tr_predicatesFor 1 = .ok (.invokestatic 32, 3) := by decide +kernel
theorem d_Tr_predicatesFor_4 : decode b_Tr_predicatesFor 4 = .ok (.ifCond .eq 7, 3) := by decide +kernel
theorem d_Tr_predicatesFor_7 : decode b_Tr_predicatesFor 7 = .ok (.iconst 1, 1) := by decide +kernel
theorem d_Tr_predicatesFor_8 : decode b_Tr_predicatesFor 8 = .ok (.iload_n 2, 1) := by decide +kernel
theorem d_Tr_predicatesFor_9 : decode b_Tr_predicatesFor 9 = .ok (.ishl, 1) := by decide +kernel
theorem d_Tr_predicatesFor_10 : decode b_Tr_predicatesFor 10 = .ok (.ireturn, 1) := by decide +kernel
theorem d_Tr_predicatesFor_11 : decode b_Tr_predicatesFor 11 = .ok (.iload_n 1, 1) := by decide +kernel
theorem d_Tr_predicatesFor_12 : decode b_Tr_predicatesFor 12 = .ok (.invokestatic 32, 3) := by decide +kernel
theorem d_Tr_predicatesFor_15 : decode b_Tr_predicatesFor 15 = .ok (.ifCond .eq 12, 3) := by decide +kernel
theorem d_Tr_predicatesFor_18 : decode b_Tr_predicatesFor 18 = .ok (.aload_n 0, 1) := by decide +kernel
theorem d_Tr_predicatesFor_19 : decode b_Tr_predicatesFor 19 = .ok (.getfield 18, 3) := by decide +kernel
theorem d_Tr_predicatesFor_22 : decode b_Tr_predicatesFor 22 = .ok (.iload_n 1, 1) := by decide +kernel
theorem d_Tr_predicatesFor_23 : decode b_Tr_predicatesFor 23 = .ok (.iaload, 1) := by decide +kernel
theorem d_Tr_predicatesFor_24 : decode b_Tr_predicatesFor 24 = .ok (.goto 4, 3) := by decide +kernel
theorem d_Tr_predicatesFor_27 : decode b_Tr_predicatesFor 27 = .ok (.iconst 0, 1) := by decide +kernel
theorem d_Tr_predicatesFor_28 : decode b_Tr_predicatesFor 28 = .ok (.ireturn, 1) := by decide +kernel
theorem d_Tr_objectsFor_0 : decode b_Tr_objectsFor 0 = .ok (.iload_n 1, 1) := by decide +kernel
theorem d_Tr_objectsFor_1 : decode b_Tr_objectsFor 1 = .ok (.invokestatic 32, 3) := by decide +kernel
theorem d_Tr_objectsFor_4 : decode b_Tr_objectsFor 4 = .ok (.ifCond .eq 10, 3) := by decide +kernel
theorem d_Tr_objectsFor_7 : decode b_Tr_objectsFor 7 = .ok (.iload_n 2, 1) := by decide +kernel
theorem d_Tr_objectsFor_8 : decode b_Tr_objectsFor 8 = .ok (.invokestatic 32, 3) := by decide +kernel
theorem d_Tr_objectsFor_11 : decode b_Tr_objectsFor 11 = .ok (.ifCond .ne 5, 3) := by decide +kernel
theorem d_Tr_objectsFor_14 : decode b_Tr_objectsFor 14 = .ok (.iconst 0, 1) := by decide +kernel
theorem d_Tr_objectsFor_15 : decode b_Tr_objectsFor 15 = .ok (.ireturn, 1) := by decide +kernel
theorem d_Tr_objectsFor_16 : decode b_Tr_objectsFor 16 = .ok (.aload_n 0, 1) := by decide +kernel
theorem d_Tr_objectsFor_17 : decode b_Tr_objectsFor 17 = .ok (.getfield 9, 3) := by decide +kernel
theorem d_Tr_objectsFor_20 : decode b_Tr_objectsFor 20 = .ok (.iload_n 1, 1) := by decide +kernel
theorem d_Tr_objectsFor_21 : decode b_Tr_objectsFor 21 = .ok (.bipush 32, 2) := by decide +kernel
theorem d_Tr_objectsFor_23 : decode b_Tr_objectsFor 23 = .ok (.imul, 1) := by decide +kernel
theorem d_Tr_objectsFor_24 : decode b_Tr_objectsFor 24 = .ok (.iload_n 2, 1) := by decide +kernel
theorem d_Tr_objectsFor_25 : decode b_Tr_objectsFor 25 = .ok (.iadd, 1) := by decide +kernel
theorem d_Tr_objectsFor_26 : decode b_Tr_objectsFor 26 = .ok (.iaload, 1) := by decide +kernel
theorem d_Tr_objectsFor_27 : decode b_Tr_objectsFor 27 = .ok (.istore 4, 2) := by decide +kernel
theorem d_Tr_objectsFor_29 : decode b_Tr_objectsFor 29 = .ok (.iload_n 3, 1) := by decide +kernel
theorem d_Tr_objectsFor_30 : decode b_Tr_objectsFor 30 = .ok (.invokestatic 32, 3) := by decide +kernel
theorem d_Tr_objectsFor_33 : decode b_Tr_objectsFor 33 = .ok (.ifCond .eq 12, 3) := by decide +kernel
theorem d_Tr_objectsFor_36 : decode b_Tr_objectsFor 36 = .ok (.iload 4, 2) := by decide +kernel
theorem d_Tr_objectsFor_38 : decode b_Tr_objectsFor 38 = .ok (.iconst 1, 1) := by decide +kernel
theorem d_Tr_objectsFor_39 : decode b_Tr_objectsFor 39 = .ok (.iload_n 3, 1) := by decide +kernel
theorem d_Tr_objectsFor_40 : decode b_Tr_objectsFor 40 = .ok (.ishl, 1) := by decide +kernel
theorem d_Tr_objectsFor_41 : decode b_Tr_objectsFor 41 = .ok (.iand, 1) := by decide +kernel
theorem d_Tr_objectsFor_42 : decode b_Tr_objectsFor 42 = .ok (.goto 5, 3) := by decide +kernel
theorem d_Tr_objectsFor_45 : decode b_Tr_objectsFor 45 = .ok (.iload 4, 2) := by decide +kernel
theorem d_Tr_objectsFor_47 : decode b_Tr_objectsFor 47 = .ok (.ireturn, 1) := by decide +kernel
theorem d_Tr_codeAt_0 : decode b_Tr_codeAt 0 = .ok (.iload_n 1, 1) := by decide +kernel
theorem d_Tr_codeAt_1 : decode b_Tr_codeAt 1 = .ok (.istore_n 2, 1) := by decide +kernel
theorem d_Tr_codeAt_2 : decode b_Tr_codeAt 2 = .ok (.iconst 0, 1) := by decide +kernel
theorem d_Tr_codeAt_3 : decode b_Tr_codeAt 3 = .ok (.istore_n 3, 1) := by decide +kernel
theorem d_Tr_codeAt_4 : decode b_Tr_codeAt 4 = .ok (.iload_n 3, 1) := by decide +kernel
theorem d_Tr_codeAt_5 : decode b_Tr_codeAt 5 = .ok (.sipush 1024, 3) := by decide +kernel
theorem d_Tr_codeAt_8 : decode b_Tr_codeAt 8 = .ok (.if_icmp .ge 47, 3) := by decide +kernel
theorem d_Tr_codeAt_11 : decode b_Tr_codeAt 11 = .ok (.aload_n 0, 1) := by decide +kernel
theorem d_Tr_codeAt_12 : decode b_Tr_codeAt 12 = .ok (.getfield 9, 3) := by decide +kernel
theorem d_Tr_codeAt_15 : decode b_Tr_codeAt 15 = .ok (.iload_n 3, 1) := by decide +kernel
theorem d_Tr_codeAt_16 : decode b_Tr_codeAt 16 = .ok (.iaload, 1) := by decide +kernel
theorem d_Tr_codeAt_17 : decode b_Tr_codeAt 17 = .ok (.invokestatic 36, 3) := by decide +kernel
theorem d_Tr_codeAt_20 : decode b_Tr_codeAt 20 = .ok (.istore 4, 2) := by decide +kernel
theorem d_Tr_codeAt_22 : decode b_Tr_codeAt 22 = .ok (.iload_n 2, 1) := by decide +kernel
theorem d_Tr_codeAt_23 : decode b_Tr_codeAt 23 = .ok (.iload 4, 2) := by decide +kernel
theorem d_Tr_codeAt_25 : decode b_Tr_codeAt 25 = .ok (.if_icmp .ge 19, 3) := by decide +kernel
theorem d_Tr_codeAt_28 : decode b_Tr_codeAt 28 = .ok (.iload_n 3, 1) := by decide +kernel
theorem d_Tr_codeAt_29 : decode b_Tr_codeAt 29 = .ok (.bipush 32, 2) := by decide +kernel
theorem d_Tr_codeAt_31 : decode b_Tr_codeAt 31 = .ok (.imul, 1) := by decide +kernel
theorem d_Tr_codeAt_32 : decode b_Tr_codeAt 32 = .ok (.aload_n 0, 1) := by decide +kernel
theorem d_Tr_codeAt_33 : decode b_Tr_codeAt 33 = .ok (.getfield 9, 3) := by decide +kernel
theorem d_Tr_codeAt_36 : decode b_Tr_codeAt 36 = .ok (.iload_n 3, 1) := by decide +kernel
theorem d_Tr_codeAt_37 : decode b_Tr_codeAt 37 = .ok (.iaload, 1) := by decide +kernel
theorem d_Tr_codeAt_38 : decode b_Tr_codeAt 38 = .ok (.iload_n 2, 1) := by decide +kernel
theorem d_Tr_codeAt_39 : decode b_Tr_codeAt 39 = .ok (.invokestatic 42, 3) := by decide +kernel
theorem d_Tr_codeAt_42 : decode b_Tr_codeAt 42 = .ok (.iadd, 1) := by decide +kernel
theorem d_Tr_codeAt_43 : decode b_Tr_codeAt 43 = .ok (.ireturn, 1) := by decide +kernel
theorem d_Tr_codeAt_44 : decode b_Tr_codeAt 44 = .ok (.iload_n 2, 1) := by decide +kernel
theorem d_Tr_codeAt_45 : decode b_Tr_codeAt 45 = .ok (.iload 4, 2) := by decide +kernel
theorem d_Tr_codeAt_47 : decode b_Tr_codeAt 47 = .ok (.isub, 1) := by decide +kernel
theorem d_Tr_codeAt_48 : decode b_Tr_codeAt 48 = .ok (.istore_n 2, 1) := by decide +kernel
theorem d_Tr_codeAt_49 : decode b_Tr_codeAt 49 = .ok (.iinc 3 1, 3) := by decide +kernel
theorem d_Tr_codeAt_52 : decode b_Tr_codeAt 52 = .ok (.goto (-48), 3) := by decide +kernel
theorem d_Tr_codeAt_55 : decode b_Tr_codeAt 55 = .ok (.bipush (-2), 2) := by decide +kernel
theorem d_Tr_codeAt_57 : decode b_Tr_codeAt 57 = .ok (.ireturn, 1) := by decide +kernel
end
section
theorem d_Tr_elementAt_0 : decode b_Tr_elementAt 0 = .ok (.iload_n 0, 1) := by decide +kernel
theorem d_Tr_elementAt_1 : decode b_Tr_elementAt 1 = .ok (.istore_n 2, 1) := by decide +kernel
theorem d_Tr_elementAt_2 : decode b_Tr_elementAt 2 = .ok (.iconst 0, 1) := by decide +kernel
theorem d_Tr_elementAt_3 : decode b_Tr_elementAt 3 = .ok (.istore_n 3, 1) := by decide +kernel
theorem d_Tr_elementAt_4 : decode b_Tr_elementAt 4 = .ok (.iload_n 3, 1) := by decide +kernel
theorem d_Tr_elementAt_5 : decode b_Tr_elementAt 5 = .ok (.iload_n 1, 1) := by decide +kernel
theorem d_Tr_elementAt_6 : decode b_Tr_elementAt 6 = .ok (.if_icmp .ge 14, 3) := by decide +kernel
theorem d_Tr_elementAt_9 : decode b_Tr_elementAt 9 = .ok (.iload_n 2, 1) := by decide +kernel
theorem d_Tr_elementAt_10 : decode b_Tr_elementAt 10 = .ok (.invokestatic 46, 3) := by decide +kernel
theorem d_Tr_elementAt_13 : decode b_Tr_elementAt 13 = .ok (.istore_n 2, 1) := by decide +kernel
theorem d_Tr_elementAt_14 : decode b_Tr_elementAt 14 = .ok (.iinc 3 1, 3) := by decide +kernel
theorem d_Tr_elementAt_17 : decode b_Tr_elementAt 17 = .ok (.goto (-13), 3) := by decide +kernel
theorem d_Tr_elementAt_20 : decode b_Tr_elementAt 20 = .ok (.iload_n 2, 1) := by decide +kernel
theorem d_Tr_elementAt_21 : decode b_Tr_elementAt 21 = .ok (.invokestatic 49, 3) := by decide +kernel
theorem d_Tr_elementAt_24 : decode b_Tr_elementAt 24 = .ok (.ireturn, 1) := by decide +kernel
theorem d_Lw_law_0 : decode code 0 = .ok (.new 7, 3) := by decide +kernel
theorem d_Lw_law_3 : decode code 3 = .ok (.dup, 1) := by decide +kernel
theorem d_Lw_law_4 : decode code 4 = .ok (.invokespecial 9, 3) := by decide +kernel
theorem d_Lw_law_7 : decode code 7 = .ok (.astore_n 1, 1) := by decide +kernel
theorem d_Lw_law_8 : decode code 8 = .ok (.new 10, 3) := by decide +kernel
theorem d_Lw_law_11 : decode code 11 = .ok (.dup, 1) := by decide +kernel
theorem d_Lw_law_12 : decode code 12 = .ok (.invokespecial 12, 3) := by decide +kernel
theorem d_Lw_law_15 : decode code 15 = .ok (.astore_n 2, 1) := by decide +kernel
theorem d_Lw_law_16 : decode code 16 = .ok (.iconst 0, 1) := by decide +kernel
theorem d_Lw_law_17 : decode code 17 = .ok (.istore_n 3, 1) := by decide +kernel
theorem d_Lw_law_18 : decode code 18 = .ok (.iload_n 3, 1) := by decide +kernel
theorem d_Lw_law_19 : decode code 19 = .ok (.aload_n 0, 1) := by decide +kernel
theorem d_Lw_law_20 : decode code 20 = .ok (.arraylength, 1) := by decide +kernel
theorem d_Lw_law_21 : decode code 21 = .ok (.bipush 6, 2) := by decide +kernel
theorem d_Lw_law_23 : decode code 23 = .ok (.isub, 1) := by decide +kernel
theorem d_Lw_law_24 : decode code 24 = .ok (.if_icmp .gt 497, 3) := by decide +kernel
theorem d_Lw_law_27 : decode code 27 = .ok (.aload_n 0, 1) := by decide +kernel
theorem d_Lw_law_28 : decode code 28 = .ok (.iload_n 3, 1) := by decide +kernel
theorem d_Lw_law_29 : decode code 29 = .ok (.iaload, 1) := by decide +kernel
theorem d_Lw_law_30 : decode code 30 = .ok (.bipush 15, 2) := by decide +kernel
theorem d_Lw_law_32 : decode code 32 = .ok (.iand, 1) := by decide +kernel
theorem d_Lw_law_33 : decode code 33 = .ok (.tableswitch 482 0 12 #[67, 110, 153, 202, 215, 228, 251, 294, 337, 400, 413, 446, 469], 67) := by decide +kernel
theorem d_Lw_law_100 : decode code 100 = .ok (.aload_n 1, 1) := by decide +kernel
theorem d_Lw_law_101 : decode code 101 = .ok (.aload_n 0, 1) := by decide +kernel
theorem d_Lw_law_102 : decode code 102 = .ok (.iload_n 3, 1) := by decide +kernel
theorem d_Lw_law_103 : decode code 103 = .ok (.iconst 1, 1) := by decide +kernel
theorem d_Lw_law_104 : decode code 104 = .ok (.iadd, 1) := by decide +kernel
theorem d_Lw_law_105 : decode code 105 = .ok (.iaload, 1) := by decide +kernel
theorem d_Lw_law_106 : decode code 106 = .ok (.aload_n 0, 1) := by decide +kernel
theorem d_Lw_law_107 : decode code 107 = .ok (.iload_n 3, 1) := by decide +kernel
theorem d_Lw_law_108 : decode code 108 = .ok (.iconst 2, 1) := by decide +kernel
theorem d_Lw_law_109 : decode code 109 = .ok (.iadd, 1) := by decide +kernel
theorem d_Lw_law_110 : decode code 110 = .ok (.iaload, 1) := by decide +kernel
theorem d_Lw_law_111 : decode code 111 = .ok (.aload_n 0, 1) := by decide +kernel
theorem d_Lw_law_112 : decode code 112 = .ok (.iload_n 3, 1) := by decide +kernel
theorem d_Lw_law_113 : decode code 113 = .ok (.iconst 3, 1) := by decide +kernel
theorem d_Lw_law_114 : decode code 114 = .ok (.iadd, 1) := by decide +kernel
theorem d_Lw_law_115 : decode code 115 = .ok (.iaload, 1) := by decide +kernel
theorem d_Lw_law_116 : decode code 116 = .ok (.invokevirtual 13, 3) := by decide +kernel
theorem d_Lw_law_119 : decode code 119 = .ok (.aload_n 2, 1) := by decide +kernel
theorem d_Lw_law_120 : decode code 120 = .ok (.aload_n 0, 1) := by decide +kernel
theorem d_Lw_law_121 : decode code 121 = .ok (.iload_n 3, 1) := by decide +kernel
theorem d_Lw_law_122 : decode code 122 = .ok (.iconst 1, 1) := by decide +kernel
theorem d_Lw_law_123 : decode code 123 = .ok (.iadd, 1) := by decide +kernel
theorem d_Lw_law_124 : decode code 124 = .ok (.iaload, 1) := by decide +kernel
theorem d_Lw_law_125 : decode code 125 = .ok (.aload_n 0, 1) := by decide +kernel
theorem d_Lw_law_126 : decode code 126 = .ok (.iload_n 3, 1) := by decide +kernel
theorem d_Lw_law_127 : decode code 127 = .ok (.iconst 2, 1) := by decide +kernel
theorem d_Lw_law_128 : decode code 128 = .ok (.iadd, 1) := by decide +kernel
theorem d_Lw_law_129 : decode code 129 = .ok (.iaload, 1) := by decide +kernel
theorem d_Lw_law_130 : decode code 130 = .ok (.aload_n 0, 1) := by decide +kernel
theorem d_Lw_law_131 : decode code 131 = .ok (.iload_n 3, 1) := by decide +kernel
theorem d_Lw_law_132 : decode code 132 = .ok (.iconst 3, 1) := by decide +kernel
theorem d_Lw_law_133 : decode code 133 = .ok (.iadd, 1) := by decide +kernel
theorem d_Lw_law_134 : decode code 134 = .ok (.iaload, 1) := by decide +kernel
theorem d_Lw_law_135 : decode code 135 = .ok (.invokevirtual 17, 3) := by decide +kernel
theorem d_Lw_law_138 : decode code 138 = .ok (.if_icmp .eq 377, 3) := by decide +kernel
theorem d_Lw_law_141 : decode code 141 = .ok (.iconst 0, 1) := by decide +kernel
theorem d_Lw_law_142 : decode code 142 = .ok (.ireturn, 1) := by decide +kernel
theorem d_Lw_law_143 : decode code 143 = .ok (.aload_n 1, 1) := by decide +kernel
theorem d_Lw_law_144 : decode code 144 = .ok (.aload_n 0, 1) := by decide +kernel
theorem d_Lw_law_145 : decode code 145 = .ok (.iload_n 3, 1) := by decide +kernel
theorem d_Lw_law_146 : decode code 146 = .ok (.iconst 1, 1) := by decide +kernel
theorem d_Lw_law_147 : decode code 147 = .ok (.iadd, 1) := by decide +kernel
theorem d_Lw_law_148 : decode code 148 = .ok (.iaload, 1) := by decide +kernel
theorem d_Lw_law_149 : decode code 149 = .ok (.aload_n 0, 1) := by decide +kernel
theorem d_Lw_law_150 : decode code 150 = .ok (.iload_n 3, 1) := by decide +kernel
theorem d_Lw_law_151 : decode code 151 = .ok (.iconst 2, 1) := by decide +kernel
theorem d_Lw_law_152 : decode code 152 = .ok (.iadd, 1) := by decide +kernel
theorem d_Lw_law_153 : decode code 153 = .ok (.iaload, 1) := by decide +kernel
theorem d_Lw_law_154 : decode code 154 = .ok (.aload_n 0, 1) := by decide +kernel
theorem d_Lw_law_155 : decode code 155 = .ok (.iload_n 3, 1) := by decide +kernel
theorem d_Lw_law_156 : decode code 156 = .ok (.iconst 3, 1) := by decide +kernel
theorem d_Lw_law_157 : decode code 157 = .ok (.iadd, 1) := by decide +kernel
theorem d_Lw_law_158 : decode code 158 = .ok (.iaload, 1) := by decide +kernel
theorem d_Lw_law_159 : decode code 159 = .ok (.invokevirtual 18, 3) := by decide +kernel
theorem d_Lw_law_162 : decode code 162 = .ok (.aload_n 2, 1) := by decide +kernel
theorem d_Lw_law_163 : decode code 163 = .ok (.aload_n 0, 1) := by decide +kernel
theorem d_Lw_law_164 : decode code 164 = .ok (.iload_n 3, 1) := by decide +kernel
theorem d_Lw_law_165 : decode code 165 = .ok (.iconst 1, 1) := by decide +kernel
theorem d_Lw_law_166 : decode code 166 = .ok (.iadd, 1) := by decide +kernel
theorem d_Lw_law_167 : decode code 167 = .ok (.iaload, 1) := by decide +kernel
theorem d_Lw_law_168 : decode code 168 = .ok (.aload_n 0, 1) := by decide +kernel
theorem d_Lw_law_169 : decode code 169 = .ok (.iload_n 3, 1) := by decide +kernel
theorem d_Lw_law_170 : decode code 170 = .ok (.iconst 2, 1) := by decide +kernel
theorem d_Lw_law_171 : decode code 171 = .ok (.iadd, 1) := by decide +kernel
theorem d_Lw_law_172 : decode code 172 = .ok (.iaload, 1) := by decide +kernel
theorem d_Lw_law_173 : decode code 173 = .ok (.aload_n 0, 1) := by decide +kernel
theorem d_Lw_law_174 : decode code 174 = .ok (.iload_n 3, 1) := by decide +kernel
theorem d_Lw_law_175 : decode code 175 = .ok (.iconst 3, 1) := by decide +kernel
theorem d_Lw_law_176 : decode code 176 = .ok (.iadd, 1) := by decide +kernel
theorem d_Lw_law_177 : decode code 177 = .ok (.iaload, 1) := by decide +kernel
theorem d_Lw_law_178 : decode code 178 = .ok (.invokevirtual 21, 3) := by decide +kernel
theorem d_Lw_law_181 : decode code 181 = .ok (.if_icmp .eq 334, 3) := by decide +kernel
theorem d_Lw_law_184 : decode code 184 = .ok (.iconst 0, 1) := by decide +kernel
theorem d_Lw_law_185 : decode code 185 = .ok (.ireturn, 1) := by decide +kernel
theorem d_Lw_law_186 : decode code 186 = .ok (.aload_n 1, 1) := by decide +kernel
theorem d_Lw_law_187 : decode code 187 = .ok (.aload_n 0, 1) := by decide +kernel
theorem d_Lw_law_188 : decode code 188 = .ok (.iload_n 3, 1) := by decide +kernel
theorem d_Lw_law_189 : decode code 189 = .ok (.iconst 1, 1) := by decide +kernel
theorem d_Lw_law_190 : decode code 190 = .ok (.iadd, 1) := by decide +kernel
theorem d_Lw_law_191 : decode code 191 = .ok (.iaload, 1) := by decide +kernel
theorem d_Lw_law_192 : decode code 192 = .ok (.aload_n 0, 1) := by decide +kernel
theorem d_Lw_law_193 : decode code 193 = .ok (.iload_n 3, 1) := by decide +kernel
theorem d_Lw_law_194 : decode code 194 = .ok (.iconst 2, 1) := by decide +kernel
theorem d_Lw_law_195 : decode code 195 = .ok (.iadd, 1) := by decide +kernel
theorem d_Lw_law_196 : decode code 196 = .ok (.iaload, 1) := by decide +kernel
theorem d_Lw_law_197 : decode code 197 = .ok (.ifCond .eq 7, 3) := by decide +kernel
theorem d_Lw_law_200 : decode code 200 = .ok (.iconst 1, 1) := by decide +kernel
theorem d_Lw_law_201 : decode code 201 = .ok (.goto 4, 3) := by decide +kernel
theorem d_Lw_law_204 : decode code 204 = .ok (.iconst 0, 1) := by decide +kernel
theorem d_Lw_law_205 : decode code 205 = .ok (.invokevirtual 22, 3) := by decide +kernel
theorem d_Lw_law_208 : decode code 208 = .ok (.aload_n 2, 1) := by decide +kernel
theorem d_Lw_law_209 : decode code 209 = .ok (.aload_n 0, 1) := by decide +kernel
theorem d_Lw_law_210 : decode code 210 = .ok (.iload_n 3, 1) := by decide +kernel
theorem d_Lw_law_211 : decode code 211 = .ok (.iconst 1, 1) := by decide +kernel
theorem d_Lw_law_212 : decode code 212 = .ok (.iadd, 1) := by decide +kernel
theorem d_Lw_law_213 : decode code 213 = .ok (.iaload, 1) := by decide +kernel
theorem d_Lw_law_214 : decode code 214 = .ok (.aload_n 0, 1) := by decide +kernel
theorem d_Lw_law_215 : decode code 215 = .ok (.iload_n 3, 1) := by decide +kernel
theorem d_Lw_law_216 : decode code 216 = .ok (.iconst 2, 1) := by decide +kernel
theorem d_Lw_law_217 : decode code 217 = .ok (.iadd, 1) := by decide +kernel
theorem d_Lw_law_218 : decode code 218 = .ok (.iaload, 1) := by decide +kernel
theorem d_Lw_law_219 : decode code 219 = .ok (.ifCond .eq 7, 3) := by decide +kernel
theorem d_Lw_law_222 : decode code 222 = .ok (.iconst 1, 1) := by decide +kernel
theorem d_Lw_law_223 : decode code 223 = .ok (.goto 4, 3) := by decide +kernel
theorem d_Lw_law_226 : decode code 226 = .ok (.iconst 0, 1) := by decide +kernel
theorem d_Lw_law_227 : decode code 227 = .ok (.invokevirtual 26, 3) := by decide +kernel
theorem d_Lw_law_230 : decode code 230 = .ok (.if_icmp .eq 285, 3) := by decide +kernel
theorem d_Lw_law_233 : decode code 233 = .ok (.iconst 0, 1) := by decide +kernel
theorem d_Lw_law_234 : decode code 234 = .ok (.ireturn, 1) := by decide +kernel
theorem d_Lw_law_235 : decode code 235 = .ok (.aload_n 1, 1) := by decide +kernel
theorem d_Lw_law_236 : decode code 236 = .ok (.invokevirtual 27, 3) := by decide +kernel
theorem d_Lw_law_239 : decode code 239 = .ok (.aload_n 2, 1) := by decide +kernel
theorem d_Lw_law_240 : decode code 240 = .ok (.invokevirtual 31, 3) := by decide +kernel
theorem d_Lw_law_243 : decode code 243 = .ok (.if_icmp .eq 272, 3) := by decide +kernel
theorem d_Lw_law_246 : decode code 246 = .ok (.iconst 0, 1) := by decide +kernel
theorem d_Lw_law_247 : decode code 247 = .ok (.ireturn, 1) := by decide +kernel
theorem d_Lw_law_248 : decode code 248 = .ok (.aload_n 1, 1) := by decide +kernel
theorem d_Lw_law_249 : decode code 249 = .ok (.invokevirtual 32, 3) := by decide +kernel
theorem d_Lw_law_252 : decode code 252 = .ok (.aload_n 2, 1) := by decide +kernel
theorem d_Lw_law_253 : decode code 253 = .ok (.invokevirtual 35, 3) := by decide +kernel
theorem d_Lw_law_256 : decode code 256 = .ok (.if_icmp .eq 259, 3) := by decide +kernel
theorem d_Lw_law_259 : decode code 259 = .ok (.iconst 0, 1) := by decide +kernel
theorem d_Lw_law_260 : decode code 260 = .ok (.ireturn, 1) := by decide +kernel
theorem d_Lw_law_261 : decode code 261 = .ok (.aload_n 1, 1) := by decide +kernel
theorem d_Lw_law_262 : decode code 262 = .ok (.aload_n 0, 1) := by decide +kernel
theorem d_Lw_law_263 : decode code 263 = .ok (.iload_n 3, 1) := by decide +kernel
theorem d_Lw_law_264 : decode code 264 = .ok (.iconst 1, 1) := by decide +kernel
theorem d_Lw_law_265 : decode code 265 = .ok (.iadd, 1) := by decide +kernel
theorem d_Lw_law_266 : decode code 266 = .ok (.iaload, 1) := by decide +kernel
theorem d_Lw_law_267 : decode code 267 = .ok (.invokevirtual 36, 3) := by decide +kernel
theorem d_Lw_law_270 : decode code 270 = .ok (.aload_n 2, 1) := by decide +kernel
theorem d_Lw_law_271 : decode code 271 = .ok (.aload_n 0, 1) := by decide +kernel
theorem d_Lw_law_272 : decode code 272 = .ok (.iload_n 3, 1) := by decide +kernel
theorem d_Lw_law_273 : decode code 273 = .ok (.iconst 1, 1) := by decide +kernel
theorem d_Lw_law_274 : decode code 274 = .ok (.iadd, 1) := by decide +kernel
theorem d_Lw_law_275 : decode code 275 = .ok (.iaload, 1) := by decide +kernel
theorem d_Lw_law_276 : decode code 276 = .ok (.invokevirtual 40, 3) := by decide +kernel
theorem d_Lw_law_279 : decode code 279 = .ok (.if_icmp .eq 236, 3) := by decide +kernel
theorem d_Lw_law_282 : decode code 282 = .ok (.iconst 0, 1) := by decide +kernel
theorem d_Lw_law_283 : decode code 283 = .ok (.ireturn, 1) := by decide +kernel
theorem d_Lw_law_284 : decode code 284 = .ok (.aload_n 1, 1) := by decide +kernel
theorem d_Lw_law_285 : decode code 285 = .ok (.aload_n 0, 1) := by decide +kernel
theorem d_Lw_law_286 : decode code 286 = .ok (.iload_n 3, 1) := by decide +kernel
theorem d_Lw_law_287 : decode code 287 = .ok (.iconst 1, 1) := by decide +kernel
theorem d_Lw_law_288 : decode code 288 = .ok (.iadd, 1) := by decide +kernel
theorem d_Lw_law_289 : decode code 289 = .ok (.iaload, 1) := by decide +kernel
theorem d_Lw_law_290 : decode code 290 = .ok (.aload_n 0, 1) := by decide +kernel
theorem d_Lw_law_291 : decode code 291 = .ok (.iload_n 3, 1) := by decide +kernel
theorem d_Lw_law_292 : decode code 292 = .ok (.iconst 2, 1) := by decide +kernel
theorem d_Lw_law_293 : decode code 293 = .ok (.iadd, 1) := by decide +kernel
theorem d_Lw_law_294 : decode code 294 = .ok (.iaload, 1) := by decide +kernel
theorem d_Lw_law_295 : decode code 295 = .ok (.aload_n 0, 1) := by decide +kernel
theorem d_Lw_law_296 : decode code 296 = .ok (.iload_n 3, 1) := by decide +kernel
theorem d_Lw_law_297 : decode code 297 = .ok (.iconst 3, 1) := by decide +kernel
theorem d_Lw_law_298 : decode code 298 = .ok (.iadd, 1) := by decide +kernel
theorem d_Lw_law_299 : decode code 299 = .ok (.iaload, 1) := by decide +kernel
theorem d_Lw_law_300 : decode code 300 = .ok (.invokevirtual 41, 3) := by decide +kernel
theorem d_Lw_law_303 : decode code 303 = .ok (.aload_n 2, 1) := by decide +kernel
theorem d_Lw_law_304 : decode code 304 = .ok (.aload_n 0, 1) := by decide +kernel
theorem d_Lw_law_305 : decode code 305 = .ok (.iload_n 3, 1) := by decide +kernel
theorem d_Lw_law_306 : decode code 306 = .ok (.iconst 1, 1) := by decide +kernel
theorem d_Lw_law_307 : decode code 307 = .ok (.iadd, 1) := by decide +kernel
theorem d_Lw_law_308 : decode code 308 = .ok (.iaload, 1) := by decide +kernel
theorem d_Lw_law_309 : decode code 309 = .ok (.aload_n 0, 1) := by decide +kernel
theorem d_Lw_law_310 : decode code 310 = .ok (.iload_n 3, 1) := by decide +kernel
theorem d_Lw_law_311 : decode code 311 = .ok (.iconst 2, 1) := by decide +kernel
theorem d_Lw_law_312 : decode code 312 = .ok (.iadd, 1) := by decide +kernel
theorem d_Lw_law_313 : decode code 313 = .ok (.iaload, 1) := by decide +kernel
theorem d_Lw_law_314 : decode code 314 = .ok (.aload_n 0, 1) := by decide +kernel
theorem d_Lw_law_315 : decode code 315 = .ok (.iload_n 3, 1) := by decide +kernel
theorem d_Lw_law_316 : decode code 316 = .ok (.iconst 3, 1) := by decide +kernel
theorem d_Lw_law_317 : decode code 317 = .ok (.iadd, 1) := by decide +kernel
theorem d_Lw_law_318 : decode code 318 = .ok (.iaload, 1) := by decide +kernel
theorem d_Lw_law_319 : decode code 319 = .ok (.invokevirtual 44, 3) := by decide +kernel
theorem d_Lw_law_322 : decode code 322 = .ok (.if_icmp .eq 193, 3) := by decide +kernel
theorem d_Lw_law_325 : decode code 325 = .ok (.iconst 0, 1) := by decide +kernel
theorem d_Lw_law_326 : decode code 326 = .ok (.ireturn, 1) := by decide +kernel
theorem d_Lw_law_327 : decode code 327 = .ok (.aload_n 1, 1) := by decide +kernel
theorem d_Lw_law_328 : decode code 328 = .ok (.aload_n 0, 1) := by decide +kernel
theorem d_Lw_law_329 : decode code 329 = .ok (.iload_n 3, 1) := by decide +kernel
theorem d_Lw_law_330 : decode code 330 = .ok (.iconst 1, 1) := by decide +kernel
theorem d_Lw_law_331 : decode code 331 = .ok (.iadd, 1) := by decide +kernel
theorem d_Lw_law_332 : decode code 332 = .ok (.iaload, 1) := by decide +kernel
theorem d_Lw_law_333 : decode code 333 = .ok (.aload_n 0, 1) := by decide +kernel
theorem d_Lw_law_334 : decode code 334 = .ok (.iload_n 3, 1) := by decide +kernel
theorem d_Lw_law_335 : decode code 335 = .ok (.iconst 2, 1) := by decide +kernel
theorem d_Lw_law_336 : decode code 336 = .ok (.iadd, 1) := by decide +kernel
theorem d_Lw_law_337 : decode code 337 = .ok (.iaload, 1) := by decide +kernel
theorem d_Lw_law_338 : decode code 338 = .ok (.aload_n 0, 1) := by decide +kernel
theorem d_Lw_law_339 : decode code 339 = .ok (.iload_n 3, 1) := by decide +kernel
theorem d_Lw_law_340 : decode code 340 = .ok (.iconst 3, 1) := by decide +kernel
theorem d_Lw_law_341 : decode code 341 = .ok (.iadd, 1) := by decide +kernel
theorem d_Lw_law_342 : decode code 342 = .ok (.iaload, 1) := by decide +kernel
theorem d_Lw_law_343 : decode code 343 = .ok (.invokevirtual 45, 3) := by decide +kernel
theorem d_Lw_law_346 : decode code 346 = .ok (.aload_n 2, 1) := by decide +kernel
theorem d_Lw_law_347 : decode code 347 = .ok (.aload_n 0, 1) := by decide +kernel
theorem d_Lw_law_348 : decode code 348 = .ok (.iload_n 3, 1) := by decide +kernel
theorem d_Lw_law_349 : decode code 349 = .ok (.iconst 1, 1) := by decide +kernel
theorem d_Lw_law_350 : decode code 350 = .ok (.iadd, 1) := by decide +kernel
theorem d_Lw_law_351 : decode code 351 = .ok (.iaload, 1) := by decide +kernel
theorem d_Lw_law_352 : decode code 352 = .ok (.aload_n 0, 1) := by decide +kernel
theorem d_Lw_law_353 : decode code 353 = .ok (.iload_n 3, 1) := by decide +kernel
theorem d_Lw_law_354 : decode code 354 = .ok (.iconst 2, 1) := by decide +kernel
theorem d_Lw_law_355 : decode code 355 = .ok (.iadd, 1) := by decide +kernel
theorem d_Lw_law_356 : decode code 356 = .ok (.iaload, 1) := by decide +kernel
theorem d_Lw_law_357 : decode code 357 = .ok (.aload_n 0, 1) := by decide +kernel
theorem d_Lw_law_358 : decode code 358 = .ok (.iload_n 3, 1) := by decide +kernel
theorem d_Lw_law_359 : decode code 359 = .ok (.iconst 3, 1) := by decide +kernel
theorem d_Lw_law_360 : decode code 360 = .ok (.iadd, 1) := by decide +kernel
theorem d_Lw_law_361 : decode code 361 = .ok (.iaload, 1) := by decide +kernel
theorem d_Lw_law_362 : decode code 362 = .ok (.invokevirtual 48, 3) := by decide +kernel
theorem d_Lw_law_365 : decode code 365 = .ok (.if_icmp .eq 150, 3) := by decide +kernel
theorem d_Lw_law_368 : decode code 368 = .ok (.iconst 0, 1) := by decide +kernel
theorem d_Lw_law_369 : decode code 369 = .ok (.ireturn, 1) := by decide +kernel
theorem d_Lw_law_370 : decode code 370 = .ok (.aload_n 1, 1) := by decide +kernel
theorem d_Lw_law_371 : decode code 371 = .ok (.aload_n 0, 1) := by decide +kernel
theorem d_Lw_law_372 : decode code 372 = .ok (.iload_n 3, 1) := by decide +kernel
theorem d_Lw_law_373 : decode code 373 = .ok (.iconst 1, 1) := by decide +kernel
theorem d_Lw_law_374 : decode code 374 = .ok (.iadd, 1) := by decide +kernel
theorem d_Lw_law_375 : decode code 375 = .ok (.iaload, 1) := by decide +kernel
theorem d_Lw_law_376 : decode code 376 = .ok (.aload_n 0, 1) := by decide +kernel
theorem d_Lw_law_377 : decode code 377 = .ok (.iload_n 3, 1) := by decide +kernel
theorem d_Lw_law_378 : decode code 378 = .ok (.iconst 2, 1) := by decide +kernel
theorem d_Lw_law_379 : decode code 379 = .ok (.iadd, 1) := by decide +kernel
theorem d_Lw_law_380 : decode code 380 = .ok (.iaload, 1) := by decide +kernel
theorem d_Lw_law_381 : decode code 381 = .ok (.aload_n 0, 1) := by decide +kernel
theorem d_Lw_law_382 : decode code 382 = .ok (.iload_n 3, 1) := by decide +kernel
theorem d_Lw_law_383 : decode code 383 = .ok (.iconst 3, 1) := by decide +kernel
theorem d_Lw_law_384 : decode code 384 = .ok (.iadd, 1) := by decide +kernel
theorem d_Lw_law_385 : decode code 385 = .ok (.iaload, 1) := by decide +kernel
theorem d_Lw_law_386 : decode code 386 = .ok (.aload_n 0, 1) := by decide +kernel
theorem d_Lw_law_387 : decode code 387 = .ok (.iload_n 3, 1) := by decide +kernel
theorem d_Lw_law_388 : decode code 388 = .ok (.iconst 4, 1) := by decide +kernel
theorem d_Lw_law_389 : decode code 389 = .ok (.iadd, 1) := by decide +kernel
theorem d_Lw_law_390 : decode code 390 = .ok (.iaload, 1) := by decide +kernel
theorem d_Lw_law_391 : decode code 391 = .ok (.aload_n 0, 1) := by decide +kernel
theorem d_Lw_law_392 : decode code 392 = .ok (.iload_n 3, 1) := by decide +kernel
theorem d_Lw_law_393 : decode code 393 = .ok (.iconst 5, 1) := by decide +kernel
theorem d_Lw_law_394 : decode code 394 = .ok (.iadd, 1) := by decide +kernel
theorem d_Lw_law_395 : decode code 395 = .ok (.iaload, 1) := by decide +kernel
theorem d_Lw_law_396 : decode code 396 = .ok (.invokevirtual 49, 3) := by decide +kernel
theorem d_Lw_law_399 : decode code 399 = .ok (.aload_n 2, 1) := by decide +kernel
theorem d_Lw_law_400 : decode code 400 = .ok (.aload_n 0, 1) := by decide +kernel
theorem d_Lw_law_401 : decode code 401 = .ok (.iload_n 3, 1) := by decide +kernel
theorem d_Lw_law_402 : decode code 402 = .ok (.iconst 1, 1) := by decide +kernel
theorem d_Lw_law_403 : decode code 403 = .ok (.iadd, 1) := by decide +kernel
theorem d_Lw_law_404 : decode code 404 = .ok (.iaload, 1) := by decide +kernel
theorem d_Lw_law_405 : decode code 405 = .ok (.aload_n 0, 1) := by decide +kernel
theorem d_Lw_law_406 : decode code 406 = .ok (.iload_n 3, 1) := by decide +kernel
theorem d_Lw_law_407 : decode code 407 = .ok (.iconst 2, 1) := by decide +kernel
theorem d_Lw_law_408 : decode code 408 = .ok (.iadd, 1) := by decide +kernel
theorem d_Lw_law_409 : decode code 409 = .ok (.iaload, 1) := by decide +kernel
theorem d_Lw_law_410 : decode code 410 = .ok (.aload_n 0, 1) := by decide +kernel
theorem d_Lw_law_411 : decode code 411 = .ok (.iload_n 3, 1) := by decide +kernel
theorem d_Lw_law_412 : decode code 412 = .ok (.iconst 3, 1) := by decide +kernel
theorem d_Lw_law_413 : decode code 413 = .ok (.iadd, 1) := by decide +kernel
theorem d_Lw_law_414 : decode code 414 = .ok (.iaload, 1) := by decide +kernel
theorem d_Lw_law_415 : decode code 415 = .ok (.aload_n 0, 1) := by decide +kernel
theorem d_Lw_law_416 : decode code 416 = .ok (.iload_n 3, 1) := by decide +kernel
theorem d_Lw_law_417 : decode code 417 = .ok (.iconst 4, 1) := by decide +kernel
theorem d_Lw_law_418 : decode code 418 = .ok (.iadd, 1) := by decide +kernel
theorem d_Lw_law_419 : decode code 419 = .ok (.iaload, 1) := by decide +kernel
theorem d_Lw_law_420 : decode code 420 = .ok (.aload_n 0, 1) := by decide +kernel
theorem d_Lw_law_421 : decode code 421 = .ok (.iload_n 3, 1) := by decide +kernel
theorem d_Lw_law_422 : decode code 422 = .ok (.iconst 5, 1) := by decide +kernel
theorem d_Lw_law_423 : decode code 423 = .ok (.iadd, 1) := by decide +kernel
theorem d_Lw_law_424 : decode code 424 = .ok (.iaload, 1) := by decide +kernel
theorem d_Lw_law_425 : decode code 425 = .ok (.invokevirtual 53, 3) := by decide +kernel
theorem d_Lw_law_428 : decode code 428 = .ok (.if_icmp .eq 87, 3) := by decide +kernel
theorem d_Lw_law_431 : decode code 431 = .ok (.iconst 0, 1) := by decide +kernel
theorem d_Lw_law_432 : decode code 432 = .ok (.ireturn, 1) := by decide +kernel
theorem d_Lw_law_433 : decode code 433 = .ok (.aload_n 1, 1) := by decide +kernel
theorem d_Lw_law_434 : decode code 434 = .ok (.invokevirtual 54, 3) := by decide +kernel
theorem d_Lw_law_437 : decode code 437 = .ok (.aload_n 2, 1) := by decide +kernel
theorem d_Lw_law_438 : decode code 438 = .ok (.invokevirtual 57, 3) := by decide +kernel
theorem d_Lw_law_441 : decode code 441 = .ok (.if_icmp .eq 74, 3) := by decide +kernel
theorem d_Lw_law_444 : decode code 444 = .ok (.iconst 0, 1) := by decide +kernel
theorem d_Lw_law_445 : decode code 445 = .ok (.ireturn, 1) := by decide +kernel
theorem d_Lw_law_446 : decode code 446 = .ok (.aload_n 1, 1) := by decide +kernel
theorem d_Lw_law_447 : decode code 447 = .ok (.aload_n 0, 1) := by decide +kernel
theorem d_Lw_law_448 : decode code 448 = .ok (.iload_n 3, 1) := by decide +kernel
theorem d_Lw_law_449 : decode code 449 = .ok (.iconst 1, 1) := by decide +kernel
theorem d_Lw_law_450 : decode code 450 = .ok (.iadd, 1) := by decide +kernel
theorem d_Lw_law_451 : decode code 451 = .ok (.iaload, 1) := by decide +kernel
theorem d_Lw_law_452 : decode code 452 = .ok (.aload_n 0, 1) := by decide +kernel
theorem d_Lw_law_453 : decode code 453 = .ok (.iload_n 3, 1) := by decide +kernel
theorem d_Lw_law_454 : decode code 454 = .ok (.iconst 2, 1) := by decide +kernel
theorem d_Lw_law_455 : decode code 455 = .ok (.iadd, 1) := by decide +kernel
theorem d_Lw_law_456 : decode code 456 = .ok (.iaload, 1) := by decide +kernel
theorem d_Lw_law_457 : decode code 457 = .ok (.invokevirtual 58, 3) := by decide +kernel
theorem d_Lw_law_460 : decode code 460 = .ok (.aload_n 2, 1) := by decide +kernel
theorem d_Lw_law_461 : decode code 461 = .ok (.aload_n 0, 1) := by decide +kernel
theorem d_Lw_law_462 : decode code 462 = .ok (.iload_n 3, 1) := by decide +kernel
theorem d_Lw_law_463 : decode code 463 = .ok (.iconst 1, 1) := by decide +kernel
theorem d_Lw_law_464 : decode code 464 = .ok (.iadd, 1) := by decide +kernel
theorem d_Lw_law_465 : decode code 465 = .ok (.iaload, 1) := by decide +kernel
theorem d_Lw_law_466 : decode code 466 = .ok (.aload_n 0, 1) := by decide +kernel
theorem d_Lw_law_467 : decode code 467 = .ok (.iload_n 3, 1) := by decide +kernel
theorem d_Lw_law_468 : decode code 468 = .ok (.iconst 2, 1) := by decide +kernel
theorem d_Lw_law_469 : decode code 469 = .ok (.iadd, 1) := by decide +kernel
theorem d_Lw_law_470 : decode code 470 = .ok (.iaload, 1) := by decide +kernel
theorem d_Lw_law_471 : decode code 471 = .ok (.invokevirtual 62, 3) := by decide +kernel
theorem d_Lw_law_474 : decode code 474 = .ok (.if_icmp .eq 41, 3) := by decide +kernel
theorem d_Lw_law_477 : decode code 477 = .ok (.iconst 0, 1) := by decide +kernel
theorem d_Lw_law_478 : decode code 478 = .ok (.ireturn, 1) := by decide +kernel
theorem d_Lw_law_479 : decode code 479 = .ok (.aload_n 1, 1) := by decide +kernel
theorem d_Lw_law_480 : decode code 480 = .ok (.aload_n 0, 1) := by decide +kernel
theorem d_Lw_law_481 : decode code 481 = .ok (.iload_n 3, 1) := by decide +kernel
theorem d_Lw_law_482 : decode code 482 = .ok (.iconst 1, 1) := by decide +kernel
theorem d_Lw_law_483 : decode code 483 = .ok (.iadd, 1) := by decide +kernel
theorem d_Lw_law_484 : decode code 484 = .ok (.iaload, 1) := by decide +kernel
theorem d_Lw_law_485 : decode code 485 = .ok (.invokevirtual 63, 3) := by decide +kernel
theorem d_Lw_law_488 : decode code 488 = .ok (.aload_n 2, 1) := by decide +kernel
theorem d_Lw_law_489 : decode code 489 = .ok (.aload_n 0, 1) := by decide +kernel
theorem d_Lw_law_490 : decode code 490 = .ok (.iload_n 3, 1) := by decide +kernel
theorem d_Lw_law_491 : decode code 491 = .ok (.iconst 1, 1) := by decide +kernel
theorem d_Lw_law_492 : decode code 492 = .ok (.iadd, 1) := by decide +kernel
theorem d_Lw_law_493 : decode code 493 = .ok (.iaload, 1) := by decide +kernel
theorem d_Lw_law_494 : decode code 494 = .ok (.invokevirtual 66, 3) := by decide +kernel
theorem d_Lw_law_497 : decode code 497 = .ok (.if_icmp .eq 18, 3) := by decide +kernel
theorem d_Lw_law_500 : decode code 500 = .ok (.iconst 0, 1) := by decide +kernel
theorem d_Lw_law_501 : decode code 501 = .ok (.ireturn, 1) := by decide +kernel
theorem d_Lw_law_502 : decode code 502 = .ok (.aload_n 1, 1) := by decide +kernel
theorem d_Lw_law_503 : decode code 503 = .ok (.invokevirtual 67, 3) := by decide +kernel
theorem d_Lw_law_506 : decode code 506 = .ok (.aload_n 2, 1) := by decide +kernel
theorem d_Lw_law_507 : decode code 507 = .ok (.invokevirtual 70, 3) := by decide +kernel
theorem d_Lw_law_510 : decode code 510 = .ok (.if_icmp .eq 5, 3) := by decide +kernel
theorem d_Lw_law_513 : decode code 513 = .ok (.iconst 0, 1) := by decide +kernel
theorem d_Lw_law_514 : decode code 514 = .ok (.ireturn, 1) := by decide +kernel
theorem d_Lw_law_515 : decode code 515 = .ok (.iinc 3 6, 3) := by decide +kernel
theorem d_Lw_law_518 : decode code 518 = .ok (.goto (-500), 3) := by decide +kernel
theorem d_Lw_law_521 : decode code 521 = .ok (.iconst 1, 1) := by decide +kernel
theorem d_Lw_law_522 : decode code 522 = .ok (.ireturn, 1) := by decide +kernel
end
section
theorem d_Ig_bitCount_0 : decode b_Ig_bitCount 0 = .ok (.iload_n 0, 1) := by decide +kernel
theorem d_Ig_bitCount_1 : decode b_Ig_bitCount 1 = .ok (.iload_n 0, 1) := by decide +kernel
theorem d_Ig_bitCount_2 : decode b_Ig_bitCount 2 = .ok (.iconst 1, 1) := by decide +kernel
theorem d_Ig_bitCount_3 : decode b_Ig_bitCount 3 = .ok (.iushr, 1) := by decide +kernel
theorem d_Ig_bitCount_4 : decode b_Ig_bitCount 4 = .ok (.ldc_w 265, 3) := by decide +kernel
theorem d_Ig_bitCount_7 : decode b_Ig_bitCount 7 = .ok (.iand, 1) := by decide +kernel
theorem d_Ig_bitCount_8 : decode b_Ig_bitCount 8 = .ok (.isub, 1) := by decide +kernel
theorem d_Ig_bitCount_9 : decode b_Ig_bitCount 9 = .ok (.istore_n 0, 1) := by decide +kernel
theorem d_Ig_bitCount_10 : decode b_Ig_bitCount 10 = .ok (.iload_n 0, 1) := by decide +kernel
theorem d_Ig_bitCount_11 : decode b_Ig_bitCount 11 = .ok (.ldc_w 266, 3) := by decide +kernel
theorem d_Ig_bitCount_14 : decode b_Ig_bitCount 14 = .ok (.iand, 1) := by decide +kernel
theorem d_Ig_bitCount_15 : decode b_Ig_bitCount 15 = .ok (.iload_n 0, 1) := by decide +kernel
theorem d_Ig_bitCount_16 : decode b_Ig_bitCount 16 = .ok (.iconst 2, 1) := by decide +kernel
theorem d_Ig_bitCount_17 : decode b_Ig_bitCount 17 = .ok (.iushr, 1) := by decide +kernel
theorem d_Ig_bitCount_18 : decode b_Ig_bitCount 18 = .ok (.ldc_w 266, 3) := by decide +kernel
theorem d_Ig_bitCount_21 : decode b_Ig_bitCount 21 = .ok (.iand, 1) := by decide +kernel
theorem d_Ig_bitCount_22 : decode b_Ig_bitCount 22 = .ok (.iadd, 1) := by decide +kernel
theorem d_Ig_bitCount_23 : decode b_Ig_bitCount 23 = .ok (.istore_n 0, 1) := by decide +kernel
theorem d_Ig_bitCount_24 : decode b_Ig_bitCount 24 = .ok (.iload_n 0, 1) := by decide +kernel
theorem d_Ig_bitCount_25 : decode b_Ig_bitCount 25 = .ok (.iload_n 0, 1) := by decide +kernel
theorem d_Ig_bitCount_26 : decode b_Ig_bitCount 26 = .ok (.iconst 4, 1) := by decide +kernel
theorem d_Ig_bitCount_27 : decode b_Ig_bitCount 27 = .ok (.iushr, 1) := by decide +kernel
theorem d_Ig_bitCount_28 : decode b_Ig_bitCount 28 = .ok (.iadd, 1) := by decide +kernel
theorem d_Ig_bitCount_29 : decode b_Ig_bitCount 29 = .ok (.ldc_w 267, 3) := by decide +kernel
theorem d_Ig_bitCount_32 : decode b_Ig_bitCount 32 = .ok (.iand, 1) := by decide +kernel
theorem d_Ig_bitCount_33 : decode b_Ig_bitCount 33 = .ok (.istore_n 0, 1) := by decide +kernel
theorem d_Ig_bitCount_34 : decode b_Ig_bitCount 34 = .ok (.iload_n 0, 1) := by decide +kernel
theorem d_Ig_bitCount_35 : decode b_Ig_bitCount 35 = .ok (.iload_n 0, 1) := by decide +kernel
theorem d_Ig_bitCount_36 : decode b_Ig_bitCount 36 = .ok (.bipush 8, 2) := by decide +kernel
theorem d_Ig_bitCount_38 : decode b_Ig_bitCount 38 = .ok (.iushr, 1) := by decide +kernel
theorem d_Ig_bitCount_39 : decode b_Ig_bitCount 39 = .ok (.iadd, 1) := by decide +kernel
theorem d_Ig_bitCount_40 : decode b_Ig_bitCount 40 = .ok (.istore_n 0, 1) := by decide +kernel
theorem d_Ig_bitCount_41 : decode b_Ig_bitCount 41 = .ok (.iload_n 0, 1) := by decide +kernel
theorem d_Ig_bitCount_42 : decode b_Ig_bitCount 42 = .ok (.iload_n 0, 1) := by decide +kernel
theorem d_Ig_bitCount_43 : decode b_Ig_bitCount 43 = .ok (.bipush 16, 2) := by decide +kernel
theorem d_Ig_bitCount_45 : decode b_Ig_bitCount 45 = .ok (.iushr, 1) := by decide +kernel
theorem d_Ig_bitCount_46 : decode b_Ig_bitCount 46 = .ok (.iadd, 1) := by decide +kernel
theorem d_Ig_bitCount_47 : decode b_Ig_bitCount 47 = .ok (.istore_n 0, 1) := by decide +kernel
theorem d_Ig_bitCount_48 : decode b_Ig_bitCount 48 = .ok (.iload_n 0, 1) := by decide +kernel
theorem d_Ig_bitCount_49 : decode b_Ig_bitCount 49 = .ok (.bipush 63, 2) := by decide +kernel
theorem d_Ig_bitCount_51 : decode b_Ig_bitCount 51 = .ok (.iand, 1) := by decide +kernel
theorem d_Ig_bitCount_52 : decode b_Ig_bitCount 52 = .ok (.ireturn, 1) := by decide +kernel
theorem d_Mt_min_0 : decode b_Mt_min 0 = .ok (.iload_n 0, 1) := by decide +kernel
theorem d_Mt_min_1 : decode b_Mt_min 1 = .ok (.iload_n 1, 1) := by decide +kernel
theorem d_Mt_min_2 : decode b_Mt_min 2 = .ok (.if_icmp .gt 7, 3) := by decide +kernel
theorem d_Mt_min_5 : decode b_Mt_min 5 = .ok (.iload_n 0, 1) := by decide +kernel
theorem d_Mt_min_6 : decode b_Mt_min 6 = .ok (.goto 4, 3) := by decide +kernel
theorem d_Mt_min_9 : decode b_Mt_min 9 = .ok (.iload_n 1, 1) := by decide +kernel
theorem d_Mt_min_10 : decode b_Mt_min 10 = .ok (.ireturn, 1) := by decide +kernel
theorem d_Ar_fill_0 : decode b_Ar_fill 0 = .ok (.iconst 0, 1) := by decide +kernel
theorem d_Ar_fill_1 : decode b_Ar_fill 1 = .ok (.istore_n 2, 1) := by decide +kernel
theorem d_Ar_fill_2 : decode b_Ar_fill 2 = .ok (.aload_n 0, 1) := by decide +kernel
theorem d_Ar_fill_3 : decode b_Ar_fill 3 = .ok (.arraylength, 1) := by decide +kernel
theorem d_Ar_fill_4 : decode b_Ar_fill 4 = .ok (.istore_n 3, 1) := by decide +kernel
theorem d_Ar_fill_5 : decode b_Ar_fill 5 = .ok (.iload_n 2, 1) := by decide +kernel
theorem d_Ar_fill_6 : decode b_Ar_fill 6 = .ok (.iload_n 3, 1) := by decide +kernel
theorem d_Ar_fill_7 : decode b_Ar_fill 7 = .ok (.if_icmp .ge 13, 3) := by decide +kernel
theorem d_Ar_fill_10 : decode b_Ar_fill 10 = .ok (.aload_n 0, 1) := by decide +kernel
theorem d_Ar_fill_11 : decode b_Ar_fill 11 = .ok (.iload_n 2, 1) := by decide +kernel
theorem d_Ar_fill_12 : decode b_Ar_fill 12 = .ok (.iload_n 1, 1) := by decide +kernel
theorem d_Ar_fill_13 : decode b_Ar_fill 13 = .ok (.iastore, 1) := by decide +kernel
theorem d_Ar_fill_14 : decode b_Ar_fill 14 = .ok (.iinc 2 1, 3) := by decide +kernel
theorem d_Ar_fill_17 : decode b_Ar_fill 17 = .ok (.goto (-12), 3) := by decide +kernel
theorem d_Ar_fill_20 : decode b_Ar_fill 20 = .ok (.return_, 1) := by decide +kernel
end
section
/-! words by threes and fours; static tables that nobody writes, over calls -/
theorem rg3 {a b c : Cond} (ha : a ∈ rg_tbl) (hb : b ∈ rg_tbl) (hc : c ∈ rg_tbl) : ∀ w ∈ ([a, b, c] : List Cond), w ∈ rg_tbl := List.forall_mem_cons.mpr ⟨ha, List.forall_mem_cons.mpr ⟨hb, List.forall_mem_cons.mpr ⟨hc, List.forall_mem_nil _⟩⟩⟩
theorem rg4 {a b c d : Cond} (ha : a ∈ rg_tbl) (hb : b ∈ rg_tbl) (hc : c ∈ rg_tbl) (hd : d ∈ rg_tbl) : ∀ w ∈ ([a, b, c, d] : List Cond), w ∈ rg_tbl := List.forall_mem_cons.mpr ⟨ha, rg3 hb hc hd⟩
theorem rg5 {a b c d e : Cond} (ha : a ∈ rg_tbl) (hb : b ∈ rg_tbl) (hc : c ∈ rg_tbl) (hd : d ∈ rg_tbl) (he : e ∈ rg_tbl) : ∀ w ∈ ([a, b, c, d, e] : List Cond), w ∈ rg_tbl := List.forall_mem_cons.mpr ⟨ha, rg4 hb hc hd he⟩
theorem rv_T {ty : FieldType} {t N : Nat} {f : Nat → Value} {A B : Nat → Prop} {s U : State} {H : Heap} {locs : List Loc} (hT : va_T ty t N f A s s.heap) (hS : va_S A s.heap H locs) (hU : U.heap = H) (hW : s.WarmedH U.vm) (hB : ∀ q, B q → A q) : va_T ty t N f B U U.heap := by
  rw [hU]
  exact ((hT.kept (fun a h1 h2 => hS.2.1 a h1 h2)).narrow hB).moved hW.alike
theorem rv_Z {C n d : String} {v : Value} {A B : Nat → Prop} {s U : State} {H : Heap} {locs : List Loc} (hZ : va_Z C n d v A s s.heap) (hS : va_S A s.heap H locs) (hU : U.heap = H) (hW : s.WarmedH U.vm) (hB : ∀ q, B q → A q) : va_Z C n d v B U U.heap := by
  rw [hU]
  exact ((hZ.kept (fun a h1 h2 => hS.2.1 a h1 h2)).narrow hB).moved hW.alike
def rq_f (L : List Nat) : Nat → Value := fun j => .int (nI (L.getD j 0))
def rq_prem : List Nat := [32, 6, 33, 0, 0, 0, 0, 0, 0, 0, 0, 0, 32, 6, 33, 33, 6, 34, 0, 0, 0, 0, 0, 0, 32, 6, 33, 32, 36, 34, 0, 0, 0, 0, 0, 0, 32, 6, 33, 34, 36, 32, 0, 0, 0, 0, 0, 0, 36, 3, 39, 32, 36, 33, 0, 0, 0, 0, 0, 0, 36, 4, 39, 32, 36, 33, 0, 0, 0, 0, 0, 0, 36, 0, 16, 32, 36, 33, 0, 0, 0, 0, 0, 0, 36, 0, 15, 32, 36, 33, 33, 36, 34, 0, 0, 0, 36, 5, 37, 32, 36, 33, 0, 0, 0, 0, 0, 0, 36, 5, 37, 32, 37, 33, 0, 0, 0, 0, 0, 0, 36, 2, 37, 32, 36, 33, 0, 0, 0, 0, 0, 0, 36, 2, 37, 37, 2, 38, 0, 0, 0, 0, 0, 0, 39, 1, 40, 32, 0, 39, 0, 0, 0, 0, 0, 0, 39, 1, 40, 40, 1, 41, 0, 0, 0, 0, 0, 0, 36, 0, 17, 32, 36, 33, 32, 36, 34, 0, 0, 0, 36, 0, 18, 32, 36, 34, 33, 36, 34, 0, 0, 0, 39, 10, 40, 39, 9, 36, 32, 36, 33, 33, 0, 40, 39, 11, 40, 39, 9, 36, 32, 0, 39, 32, 36, 33, 39, 12, 35, 39, 9, 36, 32, 0, 39, 0, 0, 0, 39, 12, 35, 39, 9, 36, 32, 36, 35, 0, 0, 0, 36, 13, 37, 36, 14, 38, 32, 37, 33, 33, 38, 34, 32, 6, 33, 32, 7, 33, 0, 0, 0, 0, 0, 0, 39, 8, 40, 32, 0, 39, 32, 0, 40, 0, 0, 0, 36, 19, 37, 32, 36, 33, 32, 37, 33, 0, 0, 0]
def rq_given : List Nat := [33, 6, 32, 32, 6, 34, 33, 36, 34, 34, 36, 33, 32, 0, 39, 33, 0, 39, 33, 36, 32, 32, 36, 34, 33, 37, 32, 33, 36, 32, 32, 37, 33, 36, 2, 38, 32, 0, 40, 39, 1, 41, 33, 6, 34, 32, 6, 33, 32, 0, 39, 33, 0, 40, 32, 36, 35, 32, 0, 39, 32, 36, 34]
def rq_cnts : List Nat := [1, 2, 2, 2, 2, 2, 2, 3, 2, 2, 2, 2, 2, 2, 3, 3, 4, 4, 3, 3, 4, 2, 3, 3]
/-- the three tables, where they stand -/
def rz_ (tP tG tC : Nat) (A : Nat → Prop) (U : State) : Prop :=
  (va_Z "RlRounds$Table" "PREMISES" "[I" (.ref tP) A U U.heap ∧ va_T .int tP 288 (rq_f rq_prem) A U U.heap) ∧
  (va_Z "RlRounds$Table" "GIVEN" "[I" (.ref tG) A U U.heap ∧ va_T .int tG 63 (rq_f rq_given) A U U.heap) ∧
  (va_Z "RlRounds$Table" "COUNTS" "[I" (.ref tC) A U U.heap ∧ va_T .int tC 24 (rq_f rq_cnts) A U U.heap)
theorem rz_at {tP tG tC : Nat} {A B : Nat → Prop} {s U : State} {H : Heap} {locs : List Loc} (h : rz_ tP tG tC A s) (hS : va_S A s.heap H locs) (hU : U.heap = H) (hW : s.WarmedH U.vm) (hB : ∀ q, B q → A q) : rz_ tP tG tC B U :=
  ⟨⟨rv_Z h.1.1 hS hU hW hB, rv_T h.1.2 hS hU hW hB⟩, ⟨rv_Z h.2.1.1 hS hU hW hB, rv_T h.2.1.2 hS hU hW hB⟩, rv_Z h.2.2.1 hS hU hW hB, rv_T h.2.2.2 hS hU hW hB⟩
theorem rz_same {tP tG tC : Nat} {A : Nat → Prop} {U : State} {g : JFrame} {mk : MethodId} {a : Array Value} (h : rz_ tP tG tC A U) : rz_ tP tG tC A (U.calling g mk a) :=
  ⟨⟨h.1.1.moved (Vm.Alike.refl U.vm), h.1.2.moved (Vm.Alike.refl U.vm)⟩, ⟨h.2.1.1.moved (Vm.Alike.refl U.vm), h.2.1.2.moved (Vm.Alike.refl U.vm)⟩, h.2.2.1.moved (Vm.Alike.refl U.vm), h.2.2.2.moved (Vm.Alike.refl U.vm)⟩
theorem rq_prem_lt : ∀ j, rq_prem.getD j 0 < 42 := by
  intro j
  rcases Nat.lt_or_ge j 288 with h | h
  · exact (by decide +kernel : ∀ j, j < 288 → rq_prem.getD j 0 < 42) j h
  · rw [List.getD_eq_getElem?_getD, List.getElem?_eq_none (Nat.le_trans (by decide +kernel) h)]; decide
theorem rq_given_lt : ∀ j, rq_given.getD j 0 < 42 := by
  intro j
  rcases Nat.lt_or_ge j 63 with h | h
  · exact (by decide +kernel : ∀ j, j < 63 → rq_given.getD j 0 < 42) j h
  · rw [List.getD_eq_getElem?_getD, List.getElem?_eq_none (Nat.le_trans (by decide +kernel) h)]; decide
theorem rq_cnts_le : ∀ j, j < 24 → 1 ≤ rq_cnts.getD j 0 ∧ rq_cnts.getD j 0 ≤ 4 := by decide +kernel
/-- a bit that is shifted down -/
theorem rb_sh (x : Int32) {i : Nat} (hi : i < 32) : ((x.toUInt32 >>> ((nI i).toUInt32 &&& Int32.toUInt32 31)).toInt32 &&& nI 1) = 0 ↔ rb_b x i = false := by
  have hn := rb_lt x
  conv => lhs; rw [rb_of x]
  rw [pk_ushrN hn (nI i) i ((by decide +kernel : ∀ i, i < 32 → (((nI i).toUInt32 &&& Int32.toUInt32 31).toBitVec % 32).toNat = i) i hi), rb_and, Nat.and_one_is_mod]
  unfold rb_b
  rw [Nat.testBit_eq_decide_div_mod_eq, decide_eq_false_iff_not, ← nI_0, nI_eq (by omega) (by omega)]
  omega
theorem rv_Q {p : Program} {l : Launch} {e : Env} {R : Room} {s : State} {m : MethodId} {args : Array Value} {below : List Frame} {meth : Method} {c : Code} {H : Heap} {locs : List Loc} {cells slots : Nat} {Q : State → Prop} {g : JFrame} (k : ∀ Q', Q' = Q → W p l e R s m args below meth c H locs cells slots Q' g) : W p l e R s m args below meth c H locs cells slots Q g := k Q rfl
/-- an array said by another function that agrees on its places -/
theorem rv_fn {D : va_G} {cl : List vw_C} {ws : va_W} {H : Heap} (hP : va_P D cl ws H) (q0 : Nat) {a : Nat} {cA : ClassId} {n : Nat} {f f' : Nat → Int32} (ha : ws[q0]? = some (a, .inl (cA, n, .inl f))) (h : ∀ j, j < n → f j = f' j) : va_P D cl (ws.set q0 (a, .inl (cA, n, .inl f'))) H := by
  have hl := (List.getElem?_eq_some_iff.mp ha).1
  have hc : vp_cell cA (n, .inl f) = vp_cell cA (n, .inl f') := by
    show arrV cA n (fun j => .int (f j)) = arrV cA n (fun j => .int (f' j))
    unfold arrV
    have : (fun j : Fin n => Value.int (f j.val)) = fun j : Fin n => Value.int (f' j.val) := funext fun j => by rw [h j.val j.isLt]
    rw [this]
  intro k q hk
  by_cases hkp : k = q0
  · subst hkp
    rw [List.getElem?_set_self hl] at hk
    cases hk
    show H[a]? = some (vp_cell cA (n, .inl f'))
    rw [← hc]
    exact hP k _ ha
  · rw [List.getElem?_set_ne (Ne.symm hkp)] at hk
    exact hP k q hk
theorem rf_step {f : Nat → Int32} {v : Int32} {i : Nat} : upd (fun j => if j < i then v else f j) i v = fun j => if j < i + 1 then v else f j := by
  funext j
  unfold upd
  by_cases h : j = i
  · rw [if_pos h, if_pos (by omega)]
  · rw [if_neg h]
    show (if j < i then v else f j) = _
    by_cases h2 : j < i
    · rw [if_pos h2, if_pos (by omega)]
    · rw [if_neg h2, if_neg (by omega)]
theorem rf_zero {f : Nat → Int32} {v : Int32} : (fun j => if j < 0 then v else f j) = f := by
  funext j
  rw [if_neg (by omega)]
/-- the i-th of a set -/
def rb_at (x : Int32) (i : Nat) : Nat := (rb_els x).getD i 32
/-- the set without its i least -/
def rb_drop : Nat → Int32 → Int32
  | 0, x => x
  | i + 1, x => rb_drop i (x &&& (x - 1))
theorem rb_drop_succ : ∀ (i : Nat) (x : Int32), rb_drop (i + 1) x = (rb_drop i x) &&& ((rb_drop i x) - 1)
  | 0, _ => rfl
  | i + 1, x => by
    show rb_drop (i + 1) (x &&& (x - 1)) = _
    rw [rb_drop_succ i]
    rfl
theorem rb_drop_els : ∀ (i : Nat) (x : Int32), i ≤ rb_cnt x → rb_els (rb_drop i x) = (rb_els x).drop i
  | 0, _, _ => rfl
  | i + 1, x, h => by
    cases hx : rb_els x with
    | nil =>
      unfold rb_cnt at h
      rw [hx] at h
      exact absurd h (by simp)
    | cons a r =>
      have hr := rb_rest hx
      show rb_els (rb_drop i (x &&& (x - 1))) = _
      rw [rb_drop_els i _ (by unfold rb_cnt at h ⊢; rw [hr]; rw [hx] at h; simpa using h), hr]
      rfl
theorem rb_drop_least {x : Int32} {i : Nat} (h : i < rb_cnt x) : rb_least (rb_drop i x) = rb_at x i := by
  unfold rb_least rb_at
  rw [rb_drop_els i x (by omega)]
  unfold rb_cnt at h
  rw [List.drop_eq_getElem_cons h, List.getD_eq_getElem?_getD, List.getElem?_eq_getElem h]
  rfl
/-- codes from a place on -/
def rc_fr (f : Nat → Int32) : Nat → Nat → List Nat
  | 0, _ => []
  | k + 1, at0 => (rb_els (f at0)).map (fun o => at0 * 32 + o) ++ rc_fr f k (at0 + 1)
def rc_no : Option Nat → Int32
  | some c => nI c
  | none => -2
end
section
set_option maxHeartbeats 4000000 in
set_option maxRecDepth 100000 in
theorem c_Ig_bitCount (l : Launch) (x : Int32) : Met l y_Ig_bitCount (w_ y_Ig_bitCount b_Ig_bitCount 1 (some .int)) (rm_ 0) (va_Pc [.int x] (fun U => True)) (va_Qi (fun (z9 : Int32) (_ : Unit) => z9 = nI (rb_cnt x)) (fun _ _ => True) (fun _ => False)) 0 0 (fun _ => False) := by
  refine Met.ofW (cc := b_Ig_bitCount) (maxL := 1) (ret := (some .int)) (by decide) rfl ?_
  intro p e s m args below meth c s₁ B hml hv
  obtain ⟨rfl, -⟩ := hv
  have hx := B.exec
  have hb := B.bytes
  have hr := B.returns
  have hts := atoms_spec (ws := (w_ y_Ig_bitCount b_Ig_bitCount 1 (some .int))) B.pre
  have hown : s.vm.findClass R_Ig = some m.cls := findClass_of_methodNamed B.named
  have hlocks := B.notSynchronized
  have hS : va_S (fun _ => False) s.heap s.heap [] := va_S.rf
  have hl := lv_entry ([.int x]) (n := 1) (Nat.le_of_ble_eq_true rfl)
  rw [lg_entry_eq]
  generalize (lg_sl ([.int x]) ++ List.replicate (1 - (lg_sl ([.int x])).length) Slot.unset).toArray = ls at hl ⊢
  have hl : lv_has ls 1 [(0, .int x)] := hl
  refine lv_iload_n hx hb d_Ig_bitCount_0 rfl (lv_at hl 0 rfl) ?_
  refine lv_iload_n hx hb d_Ig_bitCount_1 rfl (lv_at hl 0 rfl) ?_
  refine lv_iconst (v := nI 1) hx hb d_Ig_bitCount_2 (by decide) ?_
  obtain ⟨u1, hu1⟩ : ∃ u : Int32, (x.toUInt32 >>> ((nI 1).toUInt32 &&& Int32.toUInt32 31)).toInt32 = u := ⟨_, rfl⟩
  refine lv_iushr (v := u1) hx hb d_Ig_bitCount_3 (hu1) ?_
  refine lv_ldcw (v := nI 1431655765) hx hb hown (hts _ (List.mem_cons_of_mem _ m_251)) d_Ig_bitCount_4 ?_
  refine lv_iand hx hb d_Ig_bitCount_7 ?_
  refine lv_isub hx hb d_Ig_bitCount_8 ?_
  refine lv_topi (fun i1 h1 => ?_)
  refine lv_istore_n (lv' := [(0, .int i1)]) hx hb d_Ig_bitCount_9 rfl hl (by decide) rfl (fun ls hl => ?_)
  refine lv_iload_n hx hb d_Ig_bitCount_10 rfl (lv_at hl 0 rfl) ?_
  refine lv_ldcw (v := nI 858993459) hx hb hown (hts _ (List.mem_cons_of_mem _ m_252)) d_Ig_bitCount_11 ?_
  refine lv_iand hx hb d_Ig_bitCount_14 ?_
  refine lv_iload_n hx hb d_Ig_bitCount_15 rfl (lv_at hl 0 rfl) ?_
  refine lv_iconst (v := nI 2) hx hb d_Ig_bitCount_16 (by decide) ?_
  obtain ⟨u2, hu2⟩ : ∃ u : Int32, (i1.toUInt32 >>> ((nI 2).toUInt32 &&& Int32.toUInt32 31)).toInt32 = u := ⟨_, rfl⟩
  refine lv_iushr (v := u2) hx hb d_Ig_bitCount_17 (hu2) ?_
  refine lv_ldcw (v := nI 858993459) hx hb hown (hts _ (List.mem_cons_of_mem _ m_252)) d_Ig_bitCount_18 ?_
  refine lv_iand hx hb d_Ig_bitCount_21 ?_
  refine lv_iadd hx hb d_Ig_bitCount_22 ?_
  refine lv_topi (fun i2 h2 => ?_)
  refine lv_istore_n (lv' := [(0, .int i2)]) hx hb d_Ig_bitCount_23 rfl hl (by decide) rfl (fun ls hl => ?_)
  refine lv_iload_n hx hb d_Ig_bitCount_24 rfl (lv_at hl 0 rfl) ?_
  refine lv_iload_n hx hb d_Ig_bitCount_25 rfl (lv_at hl 0 rfl) ?_
  refine lv_iconst (v := nI 4) hx hb d_Ig_bitCount_26 (by decide) ?_
  obtain ⟨u3, hu3⟩ : ∃ u : Int32, (i2.toUInt32 >>> ((nI 4).toUInt32 &&& Int32.toUInt32 31)).toInt32 = u := ⟨_, rfl⟩
  refine lv_iushr (v := u3) hx hb d_Ig_bitCount_27 (hu3) ?_
  refine lv_iadd hx hb d_Ig_bitCount_28 ?_
  refine lv_ldcw (v := nI 252645135) hx hb hown (hts _ (List.mem_cons_of_mem _ m_253)) d_Ig_bitCount_29 ?_
  refine lv_iand hx hb d_Ig_bitCount_32 ?_
  refine lv_topi (fun i3 h3 => ?_)
  refine lv_istore_n (lv' := [(0, .int i3)]) hx hb d_Ig_bitCount_33 rfl hl (by decide) rfl (fun ls hl => ?_)
  refine lv_iload_n hx hb d_Ig_bitCount_34 rfl (lv_at hl 0 rfl) ?_
  refine lv_iload_n hx hb d_Ig_bitCount_35 rfl (lv_at hl 0 rfl) ?_
  refine lv_bipush (v := nI 8) hx hb d_Ig_bitCount_36 (by decide) ?_
  obtain ⟨u4, hu4⟩ : ∃ u : Int32, (i3.toUInt32 >>> ((nI 8).toUInt32 &&& Int32.toUInt32 31)).toInt32 = u := ⟨_, rfl⟩
  refine lv_iushr (v := u4) hx hb d_Ig_bitCount_38 (hu4) ?_
  refine lv_iadd hx hb d_Ig_bitCount_39 ?_
  refine lv_topi (fun i4 h4 => ?_)
  refine lv_istore_n (lv' := [(0, .int i4)]) hx hb d_Ig_bitCount_40 rfl hl (by decide) rfl (fun ls hl => ?_)
  refine lv_iload_n hx hb d_Ig_bitCount_41 rfl (lv_at hl 0 rfl) ?_
  refine lv_iload_n hx hb d_Ig_bitCount_42 rfl (lv_at hl 0 rfl) ?_
  refine lv_bipush (v := nI 16) hx hb d_Ig_bitCount_43 (by decide) ?_
  obtain ⟨u5, hu5⟩ : ∃ u : Int32, (i4.toUInt32 >>> ((nI 16).toUInt32 &&& Int32.toUInt32 31)).toInt32 = u := ⟨_, rfl⟩
  refine lv_iushr (v := u5) hx hb d_Ig_bitCount_45 (hu5) ?_
  refine lv_iadd hx hb d_Ig_bitCount_46 ?_
  refine lv_topi (fun i5 h5 => ?_)
  refine lv_istore_n (lv' := [(0, .int i5)]) hx hb d_Ig_bitCount_47 rfl hl (by decide) rfl (fun ls hl => ?_)
  refine lv_iload_n hx hb d_Ig_bitCount_48 rfl (lv_at hl 0 rfl) ?_
  refine lv_bipush (v := nI 63) hx hb d_Ig_bitCount_49 (by decide) ?_
  refine lv_iand hx hb d_Ig_bitCount_51 ?_
  exact W.iret (v := i5 &&& (nI 63)) hx hb hr (fun t ht hW => ⟨⟨i5 &&& (nI 63), (), rfl, rb_bc hu1 h1 hu2 h2 hu3 h3 hu4 h4 hu5 h5, trivial⟩, hS.F ht⟩) hS.2.2 d_Ig_bitCount_52

set_option maxHeartbeats 4000000 in
set_option maxRecDepth 100000 in
theorem c_Rl_codeOf (l : Launch) (x y z : Nat) : Met l y_Rl_codeOf (w_ y_Rl_codeOf b_Rl_codeOf 3 (some .int)) (rm_ 0) (va_Pc [.int (nI x), .int (nI y), .int (nI z)] (fun U => True)) (va_Qi (fun (z9 : Int32) (_ : Unit) => z9 = nI (rx_code x y z)) (fun _ _ => True) (fun _ => False)) 0 0 (fun _ => False) := by
  refine Met.ofW (cc := b_Rl_codeOf) (maxL := 3) (ret := (some .int)) (by decide) rfl ?_
  intro p e s m args below meth c s₁ B hml hv
  obtain ⟨rfl, -⟩ := hv
  have hx := B.exec
  have hb := B.bytes
  have hr := B.returns
  have hts := atoms_spec (ws := (w_ y_Rl_codeOf b_Rl_codeOf 3 (some .int))) B.pre
  have hown : s.vm.findClass R_Rl = some m.cls := findClass_of_methodNamed B.named
  have hlocks := B.notSynchronized
  have hS : va_S (fun _ => False) s.heap s.heap [] := va_S.rf
  have hl := lv_entry ([.int (nI x), .int (nI y), .int (nI z)]) (n := 3) (Nat.le_of_ble_eq_true rfl)
  rw [lg_entry_eq]
  generalize (lg_sl ([.int (nI x), .int (nI y), .int (nI z)]) ++ List.replicate (3 - (lg_sl ([.int (nI x), .int (nI y), .int (nI z)])).length) Slot.unset).toArray = ls at hl ⊢
  have hl : lv_has ls 3 [(0, .int (nI x)), (1, .int (nI y)), (2, .int (nI z))] := hl
  refine lv_iload_n hx hb d_Rl_codeOf_0 rfl (lv_at hl 0 rfl) ?_
  refine lv_bipush (v := nI 32) hx hb d_Rl_codeOf_1 (by decide) ?_
  refine rv_imul hx hb d_Rl_codeOf_3 ?_
  refine lv_iload_n hx hb d_Rl_codeOf_4 rfl (lv_at hl 1 rfl) ?_
  refine rv_iadd hx hb d_Rl_codeOf_5 ?_
  refine lv_bipush (v := nI 32) hx hb d_Rl_codeOf_6 (by decide) ?_
  refine rv_imul hx hb d_Rl_codeOf_8 ?_
  refine lv_iload_n hx hb d_Rl_codeOf_9 rfl (lv_at hl 2 rfl) ?_
  refine rv_iadd hx hb d_Rl_codeOf_10 ?_
  exact W.iret (v := nI ((((x * 32) + y) * 32) + z)) hx hb hr (fun t ht hW => ⟨⟨nI ((((x * 32) + y) * 32) + z), (), rfl, rfl, trivial⟩, hS.F ht⟩) hS.2.2 d_Rl_codeOf_11

def rc_tm (t : Int32) : Int32 := if t < 0 then nI 0 else if t < nI 32 then nI 1 else nI 0

set_option maxHeartbeats 4000000 in
set_option maxRecDepth 100000 in
theorem c_Rl_isTerm (l : Launch) (x : Int32) : Met l y_Rl_isTerm (w_ y_Rl_isTerm b_Rl_isTerm 1 (some .boolean)) (rm_ 0) (va_Pc [.int x] (fun U => True)) (va_Qi (fun (z9 : Int32) (_ : Unit) => z9 = rc_tm x) (fun _ _ => True) (fun _ => False)) 0 0 (fun _ => False) := by
  refine Met.ofW (cc := b_Rl_isTerm) (maxL := 1) (ret := (some .boolean)) (by decide) rfl ?_
  intro p e s m args below meth c s₁ B hml hv
  obtain ⟨rfl, -⟩ := hv
  have hx := B.exec
  have hb := B.bytes
  have hr := B.returns
  have hts := atoms_spec (ws := (w_ y_Rl_isTerm b_Rl_isTerm 1 (some .boolean))) B.pre
  have hown : s.vm.findClass R_Rl = some m.cls := findClass_of_methodNamed B.named
  have hlocks := B.notSynchronized
  have hS : va_S (fun _ => False) s.heap s.heap [] := va_S.rf
  have hl := lv_entry ([.int x]) (n := 1) (Nat.le_of_ble_eq_true rfl)
  rw [lg_entry_eq]
  generalize (lg_sl ([.int x]) ++ List.replicate (1 - (lg_sl ([.int x])).length) Slot.unset).toArray = ls at hl ⊢
  have hl : lv_has ls 1 [(0, .int x)] := hl
  refine lv_iload_n hx hb d_Rl_isTerm_0 rfl (lv_at hl 0 rfl) ?_
  refine lv_if_lt (tgt := 14) hx hb d_Rl_isTerm_1 (by decide) (fun c_1 => ?_) (fun c_1 => ?_)
  · refine lv_iconst (v := nI 0) hx hb d_Rl_isTerm_14 (by decide) ?_
    exact W.zret (v := nI 0) hx hb hr (by rfl) (fun t ht hW => ⟨⟨nI 0, (), rfl, by unfold rc_tm; first | rw [if_pos (by assumption)] | rw [if_neg (by assumption), if_pos (by first | assumption | exact Int32.not_le.mp (by assumption))] | rw [if_neg (by assumption), if_neg (by first | assumption | exact Int32.not_lt.mpr (by assumption))], trivial⟩, hS.F ht⟩) hS.2.2 d_Rl_isTerm_15
  · refine lv_iload_n hx hb d_Rl_isTerm_4 rfl (lv_at hl 0 rfl) ?_
    refine lv_bipush (v := nI 32) hx hb d_Rl_isTerm_5 (by decide) ?_
    refine lv_icmp_ge (tgt := 14) hx hb d_Rl_isTerm_7 (by decide) (fun c_7 => ?_) (fun c_7 => ?_)
    · refine lv_iconst (v := nI 0) hx hb d_Rl_isTerm_14 (by decide) ?_
      exact W.zret (v := nI 0) hx hb hr (by rfl) (fun t ht hW => ⟨⟨nI 0, (), rfl, by unfold rc_tm; first | rw [if_pos (by assumption)] | rw [if_neg (by assumption), if_pos (by first | assumption | exact Int32.not_le.mp (by assumption))] | rw [if_neg (by assumption), if_neg (by first | assumption | exact Int32.not_lt.mpr (by assumption))], trivial⟩, hS.F ht⟩) hS.2.2 d_Rl_isTerm_15
    · refine lv_iconst (v := nI 1) hx hb d_Rl_isTerm_10 (by decide) ?_
      refine lv_goto (tgt := 15) hx hb d_Rl_isTerm_11 (by decide) ?_
      exact W.zret (v := nI 1) hx hb hr (by rfl) (fun t ht hW => ⟨⟨nI 1, (), rfl, by unfold rc_tm; first | rw [if_pos (by assumption)] | rw [if_neg (by assumption), if_pos (by first | assumption | exact Int32.not_le.mp (by assumption))] | rw [if_neg (by assumption), if_neg (by first | assumption | exact Int32.not_lt.mpr (by assumption))], trivial⟩, hS.F ht⟩) hS.2.2 d_Rl_isTerm_15

def rc_tm3 (x y z : Int32) : Int32 := if rc_tm x = 0 then nI 0 else if rc_tm y = 0 then nI 0 else if rc_tm z = 0 then nI 0 else nI 1

set_option maxHeartbeats 4000000 in
set_option maxRecDepth 100000 in
theorem c_Rl_areTerms (l : Launch) (x y z : Int32) : Met l y_Rl_areTerms (w_ y_Rl_areTerms b_Rl_areTerms 3 (some .boolean)) (rm_ 1) (va_Pc [.int x, .int y, .int z] (fun U => True)) (va_Qi (fun (z9 : Int32) (_ : Unit) => z9 = rc_tm3 x y z) (fun _ _ => True) (fun _ => False)) 0 0 (fun _ => False) := by
  refine Met.ofW (cc := b_Rl_areTerms) (maxL := 3) (ret := (some .boolean)) (by decide) rfl ?_
  intro p e s m args below meth c s₁ B hml hv
  obtain ⟨rfl, -⟩ := hv
  have hx := B.exec
  have hb := B.bytes
  have hr := B.returns
  have hts := atoms_spec (ws := (w_ y_Rl_areTerms b_Rl_areTerms 3 (some .boolean))) B.pre
  have hown : s.vm.findClass R_Rl = some m.cls := findClass_of_methodNamed B.named
  have hlocks := B.notSynchronized
  have hS : va_S (fun _ => False) s.heap s.heap [] := va_S.rf
  have hl := lv_entry ([.int x, .int y, .int z]) (n := 3) (Nat.le_of_ble_eq_true rfl)
  rw [lg_entry_eq]
  generalize (lg_sl ([.int x, .int y, .int z]) ++ List.replicate (3 - (lg_sl ([.int x, .int y, .int z])).length) Slot.unset).toArray = ls at hl ⊢
  have hl : lv_has ls 3 [(0, .int x), (1, .int y), (2, .int z)] := hl
  refine lv_iload_n hx hb d_Rl_areTerms_0 rfl (lv_at hl 0 rfl) ?_
  refine rv_calli (r := rc_tm x) (va_runS (As := [.int x]) (rest := []) ⟨hx, hb, hml, hown, hts⟩ (c_Rl_isTerm l x) (va_cwS 1 hts (rg_S (rg3 m_131 m_132 m_1) k_Rl_isTerm) rfl rfl rfl (by decide +kernel) ⟨Nat.le_of_ble_eq_true rfl, Nat.le_of_ble_eq_true rfl⟩) ⟨fun _ _ _ _ q => q, fun U hU hW => ⟨rfl, trivial⟩⟩ rfl rfl hl.1 rfl (lv_room (Nat.le_of_ble_eq_true rfl)) d_Rl_areTerms_1 ⟨Nat.zero_le _, Nat.zero_le _⟩) hS (fun _ h => h.elim) (fun H locs hk hS => ?_)
  refine lv_if_eq (tgt := 25) hx hb d_Rl_areTerms_4 (by decide) (fun c_4 => ?_) (fun c_4 => ?_)
  · refine lv_iconst (v := nI 0) hx hb d_Rl_areTerms_25 (by decide) ?_
    exact W.zret (v := nI 0) hx hb hr (by rfl) (fun t ht hW => ⟨⟨nI 0, (), rfl, by unfold rc_tm3; first | rw [if_pos (by assumption)] | rw [if_neg (by assumption), if_pos (by assumption)] | rw [if_neg (by assumption), if_neg (by assumption), if_pos (by assumption)] | rw [if_neg (by assumption), if_neg (by assumption), if_neg (by assumption)], trivial⟩, hS.F ht⟩) hS.2.2 d_Rl_areTerms_26
  · refine lv_iload_n hx hb d_Rl_areTerms_7 rfl (lv_at hl 1 rfl) ?_
    refine rv_calli (r := rc_tm y) (va_runS (As := [.int y]) (rest := []) ⟨hx, hb, hml, hown, hts⟩ (c_Rl_isTerm l y) (va_cwS 1 hts (rg_S (rg3 m_131 m_132 m_1) k_Rl_isTerm) rfl rfl rfl (by decide +kernel) ⟨Nat.le_of_ble_eq_true rfl, Nat.le_of_ble_eq_true rfl⟩) ⟨fun _ _ _ _ q => q, fun U hU hW => ⟨rfl, trivial⟩⟩ rfl rfl hl.1 rfl (lv_room (Nat.le_of_ble_eq_true rfl)) d_Rl_areTerms_8 ⟨Nat.zero_le _, Nat.zero_le _⟩) hS (fun _ h => h.elim) (fun H locs hk hS => ?_)
    refine lv_if_eq (tgt := 25) hx hb d_Rl_areTerms_11 (by decide) (fun c_11 => ?_) (fun c_11 => ?_)
    · refine lv_iconst (v := nI 0) hx hb d_Rl_areTerms_25 (by decide) ?_
      exact W.zret (v := nI 0) hx hb hr (by rfl) (fun t ht hW => ⟨⟨nI 0, (), rfl, by unfold rc_tm3; first | rw [if_pos (by assumption)] | rw [if_neg (by assumption), if_pos (by assumption)] | rw [if_neg (by assumption), if_neg (by assumption), if_pos (by assumption)] | rw [if_neg (by assumption), if_neg (by assumption), if_neg (by assumption)], trivial⟩, hS.F ht⟩) hS.2.2 d_Rl_areTerms_26
    · refine lv_iload_n hx hb d_Rl_areTerms_14 rfl (lv_at hl 2 rfl) ?_
      refine rv_calli (r := rc_tm z) (va_runS (As := [.int z]) (rest := []) ⟨hx, hb, hml, hown, hts⟩ (c_Rl_isTerm l z) (va_cwS 1 hts (rg_S (rg3 m_131 m_132 m_1) k_Rl_isTerm) rfl rfl rfl (by decide +kernel) ⟨Nat.le_of_ble_eq_true rfl, Nat.le_of_ble_eq_true rfl⟩) ⟨fun _ _ _ _ q => q, fun U hU hW => ⟨rfl, trivial⟩⟩ rfl rfl hl.1 rfl (lv_room (Nat.le_of_ble_eq_true rfl)) d_Rl_areTerms_15 ⟨Nat.zero_le _, Nat.zero_le _⟩) hS (fun _ h => h.elim) (fun H locs hk hS => ?_)
      refine lv_if_eq (tgt := 25) hx hb d_Rl_areTerms_18 (by decide) (fun c_18 => ?_) (fun c_18 => ?_)
      · refine lv_iconst (v := nI 0) hx hb d_Rl_areTerms_25 (by decide) ?_
        exact W.zret (v := nI 0) hx hb hr (by rfl) (fun t ht hW => ⟨⟨nI 0, (), rfl, by unfold rc_tm3; first | rw [if_pos (by assumption)] | rw [if_neg (by assumption), if_pos (by assumption)] | rw [if_neg (by assumption), if_neg (by assumption), if_pos (by assumption)] | rw [if_neg (by assumption), if_neg (by assumption), if_neg (by assumption)], trivial⟩, hS.F ht⟩) hS.2.2 d_Rl_areTerms_26
      · refine lv_iconst (v := nI 1) hx hb d_Rl_areTerms_21 (by decide) ?_
        refine lv_goto (tgt := 26) hx hb d_Rl_areTerms_22 (by decide) ?_
        exact W.zret (v := nI 1) hx hb hr (by rfl) (fun t ht hW => ⟨⟨nI 1, (), rfl, by unfold rc_tm3; first | rw [if_pos (by assumption)] | rw [if_neg (by assumption), if_pos (by assumption)] | rw [if_neg (by assumption), if_neg (by assumption), if_pos (by assumption)] | rw [if_neg (by assumption), if_neg (by assumption), if_neg (by assumption)], trivial⟩, hS.F ht⟩) hS.2.2 d_Rl_areTerms_26

set_option maxHeartbeats 4000000 in
set_option maxRecDepth 100000 in
theorem c_Rl_withoutLeast (l : Launch) (x : Int32) : Met l y_Rl_withoutLeast (w_ y_Rl_withoutLeast b_Rl_withoutLeast 1 (some .int)) (rm_ 0) (va_Pc [.int x] (fun U => True)) (va_Qi (fun (z9 : Int32) (_ : Unit) => z9 = x &&& (x - 1)) (fun _ _ => True) (fun _ => False)) 0 0 (fun _ => False) := by
  refine Met.ofW (cc := b_Rl_withoutLeast) (maxL := 1) (ret := (some .int)) (by decide) rfl ?_
  intro p e s m args below meth c s₁ B hml hv
  obtain ⟨rfl, -⟩ := hv
  have hx := B.exec
  have hb := B.bytes
  have hr := B.returns
  have hts := atoms_spec (ws := (w_ y_Rl_withoutLeast b_Rl_withoutLeast 1 (some .int))) B.pre
  have hown : s.vm.findClass R_Rl = some m.cls := findClass_of_methodNamed B.named
  have hlocks := B.notSynchronized
  have hS : va_S (fun _ => False) s.heap s.heap [] := va_S.rf
  have hl := lv_entry ([.int x]) (n := 1) (Nat.le_of_ble_eq_true rfl)
  rw [lg_entry_eq]
  generalize (lg_sl ([.int x]) ++ List.replicate (1 - (lg_sl ([.int x])).length) Slot.unset).toArray = ls at hl ⊢
  have hl : lv_has ls 1 [(0, .int x)] := hl
  refine lv_iload_n hx hb d_Rl_withoutLeast_0 rfl (lv_at hl 0 rfl) ?_
  refine lv_iload_n hx hb d_Rl_withoutLeast_1 rfl (lv_at hl 0 rfl) ?_
  refine lv_iconst (v := nI 1) hx hb d_Rl_withoutLeast_2 (by decide) ?_
  refine lv_isub hx hb d_Rl_withoutLeast_3 ?_
  refine lv_iand hx hb d_Rl_withoutLeast_4 ?_
  exact W.iret (v := x &&& (x - (nI 1))) hx hb hr (fun t ht hW => ⟨⟨x &&& (x - (nI 1)), (), rfl, rfl, trivial⟩, hS.F ht⟩) hS.2.2 d_Rl_withoutLeast_5

set_option maxHeartbeats 4000000 in
set_option maxRecDepth 100000 in
theorem c_Rl_leastOf (l : Launch) (x : Int32) : Met l y_Rl_leastOf (w_ y_Rl_leastOf b_Rl_leastOf 1 (some .int)) (rm_ 1) (va_Pc [.int x] (fun U => True)) (va_Qi (fun (z9 : Int32) (_ : Unit) => z9 = nI (rb_least x)) (fun _ _ => True) (fun _ => False)) 0 0 (fun _ => False) := by
  refine Met.ofW (cc := b_Rl_leastOf) (maxL := 1) (ret := (some .int)) (by decide) rfl ?_
  intro p e s m args below meth c s₁ B hml hv
  obtain ⟨rfl, -⟩ := hv
  have hx := B.exec
  have hb := B.bytes
  have hr := B.returns
  have hts := atoms_spec (ws := (w_ y_Rl_leastOf b_Rl_leastOf 1 (some .int))) B.pre
  have hown : s.vm.findClass R_Rl = some m.cls := findClass_of_methodNamed B.named
  have hlocks := B.notSynchronized
  have hS : va_S (fun _ => False) s.heap s.heap [] := va_S.rf
  have hl := lv_entry ([.int x]) (n := 1) (Nat.le_of_ble_eq_true rfl)
  rw [lg_entry_eq]
  generalize (lg_sl ([.int x]) ++ List.replicate (1 - (lg_sl ([.int x])).length) Slot.unset).toArray = ls at hl ⊢
  have hl : lv_has ls 1 [(0, .int x)] := hl
  refine lv_iload_n hx hb d_Rl_leastOf_0 rfl (lv_at hl 0 rfl) ?_
  refine lv_iload_n hx hb d_Rl_leastOf_1 rfl (lv_at hl 0 rfl) ?_
  refine lv_ineg hx hb d_Rl_leastOf_2 ?_
  refine lv_iand hx hb d_Rl_leastOf_3 ?_
  refine lv_iconst (v := nI 1) hx hb d_Rl_leastOf_4 (by decide) ?_
  refine lv_isub hx hb d_Rl_leastOf_5 ?_
  refine rv_calli (r := nI (rb_cnt ((x &&& (-x)) - (nI 1)))) (va_runS (As := [.int ((x &&& (-x)) - (nI 1))]) (rest := []) ⟨hx, hb, hml, hown, hts⟩ (c_Ig_bitCount l ((x &&& (-x)) - (nI 1))) (va_cwS 1 hts (rg_S (rg3 m_257 m_249 m_10) k_Ig_bitCount) rfl rfl rfl (by decide +kernel) ⟨Nat.le_of_ble_eq_true rfl, Nat.le_of_ble_eq_true rfl⟩) ⟨fun _ _ _ _ q => q, fun U hU hW => ⟨rfl, trivial⟩⟩ rfl rfl hl.1 rfl (lv_room (Nat.le_of_ble_eq_true rfl)) d_Rl_leastOf_6 ⟨Nat.zero_le _, Nat.zero_le _⟩) hS (fun _ h => h.elim) (fun H locs hk hS => ?_)
  exact W.iret (v := nI (rb_cnt ((x &&& (-x)) - (nI 1)))) hx hb hr (fun t ht hW => ⟨⟨nI (rb_cnt ((x &&& (-x)) - (nI 1))), (), rfl, congrArg nI (rb_leastE x), trivial⟩, hS.F ht⟩) hS.2.2 d_Rl_leastOf_9

set_option maxHeartbeats 4000000 in
set_option maxRecDepth 100000 in
theorem c_Rl_contains (l : Launch) (x : Int32) (i : Nat) (hi : i < 32) : Met l y_Rl_contains (w_ y_Rl_contains b_Rl_contains 2 (some .boolean)) (rm_ 0) (va_Pc [.int x, .int (nI i)] (fun U => True)) (va_Qi (fun (z9 : Int32) (_ : Unit) => z9 = (if rb_b x i then nI 1 else nI 0)) (fun _ _ => True) (fun _ => False)) 0 0 (fun _ => False) := by
  refine Met.ofW (cc := b_Rl_contains) (maxL := 2) (ret := (some .boolean)) (by decide) rfl ?_
  intro p e s m args below meth c s₁ B hml hv
  obtain ⟨rfl, -⟩ := hv
  have hx := B.exec
  have hb := B.bytes
  have hr := B.returns
  have hts := atoms_spec (ws := (w_ y_Rl_contains b_Rl_contains 2 (some .boolean))) B.pre
  have hown : s.vm.findClass R_Rl = some m.cls := findClass_of_methodNamed B.named
  have hlocks := B.notSynchronized
  have hS : va_S (fun _ => False) s.heap s.heap [] := va_S.rf
  have hl := lv_entry ([.int x, .int (nI i)]) (n := 2) (Nat.le_of_ble_eq_true rfl)
  rw [lg_entry_eq]
  generalize (lg_sl ([.int x, .int (nI i)]) ++ List.replicate (2 - (lg_sl ([.int x, .int (nI i)])).length) Slot.unset).toArray = ls at hl ⊢
  have hl : lv_has ls 2 [(0, .int x), (1, .int (nI i))] := hl
  refine lv_iload_n hx hb d_Rl_contains_0 rfl (lv_at hl 0 rfl) ?_
  refine lv_iload_n hx hb d_Rl_contains_1 rfl (lv_at hl 1 rfl) ?_
  refine lv_iushr hx hb d_Rl_contains_2 rfl ?_
  refine lv_iconst (v := nI 1) hx hb d_Rl_contains_3 (by decide) ?_
  refine lv_iand hx hb d_Rl_contains_4 ?_
  refine lv_if_eq (tgt := 12) hx hb d_Rl_contains_5 (by decide) (fun c_5 => ?_) (fun c_5 => ?_)
  · refine lv_iconst (v := nI 0) hx hb d_Rl_contains_12 (by decide) ?_
    exact W.zret (v := nI 0) hx hb hr (by rfl) (fun t ht hW => ⟨⟨nI 0, (), rfl, by rw [if_neg (by rw [(rb_sh x hi).mp (by assumption)]; simp)], trivial⟩, hS.F ht⟩) hS.2.2 d_Rl_contains_13
  · refine lv_iconst (v := nI 1) hx hb d_Rl_contains_8 (by decide) ?_
    refine lv_goto (tgt := 13) hx hb d_Rl_contains_9 (by decide) ?_
    exact W.zret (v := nI 1) hx hb hr (by rfl) (fun t ht hW => ⟨⟨nI 1, (), rfl, by rw [if_pos (by rcases hq : rb_b x i with _ | _; exact absurd ((rb_sh x hi).mpr hq) (by assumption); rfl)], trivial⟩, hS.F ht⟩) hS.2.2 d_Rl_contains_13

set_option maxHeartbeats 4000000 in
set_option maxRecDepth 100000 in
theorem c_Tb_premiseCount (l : Launch) (tP tG tC r : Nat) (hr0 : r < 24) : Met l y_Tb_premiseCount (w_ y_Tb_premiseCount b_Tb_premiseCount 1 (some .int)) (rm_ 0) (va_Pc [.int (nI r)] (fun U => rz_ tP tG tC (fun _ => False) U)) (va_Qi (fun (z9 : Int32) (_ : Unit) => z9 = nI (rq_cnts.getD r 0)) (fun _ _ => True) (fun _ => False)) 0 0 (fun _ => False) := by
  refine Met.ofW (cc := b_Tb_premiseCount) (maxL := 1) (ret := (some .int)) (by decide) rfl ?_
  intro p e s m args below meth c s₁ B hml hv
  obtain ⟨rfl, hZ⟩ := hv
  have hx := B.exec
  have hb := B.bytes
  have hr := B.returns
  have hts := atoms_spec (ws := (w_ y_Tb_premiseCount b_Tb_premiseCount 1 (some .int))) B.pre
  have hown : s.vm.findClass R_Tb = some m.cls := findClass_of_methodNamed B.named
  have hlocks := B.notSynchronized
  have hS : va_S (fun _ => False) s.heap s.heap [] := va_S.rf
  have hl := lv_entry ([.int (nI r)]) (n := 1) (Nat.le_of_ble_eq_true rfl)
  rw [lg_entry_eq]
  generalize (lg_sl ([.int (nI r)]) ++ List.replicate (1 - (lg_sl ([.int (nI r)])).length) Slot.unset).toArray = ls at hl ⊢
  have hl : lv_has ls 1 [(0, .int (nI r))] := hl
  refine lv_iload_n hx hb d_Tb_premiseCount_0 rfl (lv_at hl 0 rfl) ?_
  refine rv_if_lt (tgt := 20) hx hb d_Tb_premiseCount_1 (by decide) (by omega) ?_
  refine lv_iload_n hx hb d_Tb_premiseCount_4 rfl (lv_at hl 0 rfl) ?_
  refine va_gets hx hb hZ.2.2.1 hS hown (hts _ (List.mem_cons_of_mem _ m_206)) (fun _ h9 => h9) d_Tb_premiseCount_5 ?_
  refine va_tlen (v := nI 24) hx hb hZ.2.2.2 hS rfl d_Tb_premiseCount_8 ?_
  refine rv_icmp_ge (tgt := 20) hx hb d_Tb_premiseCount_9 (by decide) (by omega) (by omega) (fun c_9 => absurd c_9 (by omega)) (fun c_9 => ?_)
  refine va_gets hx hb hZ.2.2.1 hS hown (hts _ (List.mem_cons_of_mem _ m_206)) (fun _ h9 => h9) d_Tb_premiseCount_12 ?_
  refine lv_iload_n hx hb d_Tb_premiseCount_15 rfl (lv_at hl 0 rfl) ?_
  refine rv_ti (k := r) hx hb hZ.2.2.2 hS (by omega) (by decide) (v := .int (nI (rq_cnts.getD r 0))) rfl d_Tb_premiseCount_16 ?_
  refine lv_goto (tgt := 21) hx hb d_Tb_premiseCount_17 (by decide) ?_
  exact W.iret (v := nI (rq_cnts.getD r 0)) hx hb hr (fun t ht hW => ⟨⟨nI (rq_cnts.getD r 0), (), rfl, rfl, trivial⟩, hS.F ht⟩) hS.2.2 d_Tb_premiseCount_21

set_option maxHeartbeats 4000000 in
set_option maxRecDepth 100000 in
theorem c_Tb_premiseAt (l : Launch) (r k : Nat) : Met l y_Tb_premiseAt (w_ y_Tb_premiseAt b_Tb_premiseAt 2 (some .int)) (rm_ 0) (va_Pc [.int (nI r), .int (nI k)] (fun U => True)) (va_Qi (fun (z9 : Int32) (_ : Unit) => z9 = nI (12 * r + 3 * k)) (fun _ _ => True) (fun _ => False)) 0 0 (fun _ => False) := by
  refine Met.ofW (cc := b_Tb_premiseAt) (maxL := 2) (ret := (some .int)) (by decide) rfl ?_
  intro p e s m args below meth c s₁ B hml hv
  obtain ⟨rfl, -⟩ := hv
  have hx := B.exec
  have hb := B.bytes
  have hr := B.returns
  have hts := atoms_spec (ws := (w_ y_Tb_premiseAt b_Tb_premiseAt 2 (some .int))) B.pre
  have hown : s.vm.findClass R_Tb = some m.cls := findClass_of_methodNamed B.named
  have hlocks := B.notSynchronized
  have hS : va_S (fun _ => False) s.heap s.heap [] := va_S.rf
  have hl := lv_entry ([.int (nI r), .int (nI k)]) (n := 2) (Nat.le_of_ble_eq_true rfl)
  rw [lg_entry_eq]
  generalize (lg_sl ([.int (nI r), .int (nI k)]) ++ List.replicate (2 - (lg_sl ([.int (nI r), .int (nI k)])).length) Slot.unset).toArray = ls at hl ⊢
  have hl : lv_has ls 2 [(0, .int (nI r)), (1, .int (nI k))] := hl
  refine lv_bipush (v := nI 12) hx hb d_Tb_premiseAt_0 (by decide) ?_
  refine lv_iload_n hx hb d_Tb_premiseAt_2 rfl (lv_at hl 0 rfl) ?_
  refine rv_imul hx hb d_Tb_premiseAt_3 ?_
  refine lv_iconst (v := nI 3) hx hb d_Tb_premiseAt_4 (by decide) ?_
  refine lv_iload_n hx hb d_Tb_premiseAt_5 rfl (lv_at hl 1 rfl) ?_
  refine rv_imul hx hb d_Tb_premiseAt_6 ?_
  refine rv_iadd hx hb d_Tb_premiseAt_7 ?_
  exact W.iret (v := nI ((12 * r) + (3 * k))) hx hb hr (fun t ht hW => ⟨⟨nI ((12 * r) + (3 * k)), (), rfl, rfl, trivial⟩, hS.F ht⟩) hS.2.2 d_Tb_premiseAt_8

set_option maxHeartbeats 4000000 in
set_option maxRecDepth 100000 in
theorem c_Tb_givenAt (l : Launch) (r : Nat) : Met l y_Tb_givenAt (w_ y_Tb_givenAt b_Tb_givenAt 1 (some .int)) (rm_ 0) (va_Pc [.int (nI r)] (fun U => True)) (va_Qi (fun (z9 : Int32) (_ : Unit) => z9 = nI (3 * r)) (fun _ _ => True) (fun _ => False)) 0 0 (fun _ => False) := by
  refine Met.ofW (cc := b_Tb_givenAt) (maxL := 1) (ret := (some .int)) (by decide) rfl ?_
  intro p e s m args below meth c s₁ B hml hv
  obtain ⟨rfl, -⟩ := hv
  have hx := B.exec
  have hb := B.bytes
  have hr := B.returns
  have hts := atoms_spec (ws := (w_ y_Tb_givenAt b_Tb_givenAt 1 (some .int))) B.pre
  have hown : s.vm.findClass R_Tb = some m.cls := findClass_of_methodNamed B.named
  have hlocks := B.notSynchronized
  have hS : va_S (fun _ => False) s.heap s.heap [] := va_S.rf
  have hl := lv_entry ([.int (nI r)]) (n := 1) (Nat.le_of_ble_eq_true rfl)
  rw [lg_entry_eq]
  generalize (lg_sl ([.int (nI r)]) ++ List.replicate (1 - (lg_sl ([.int (nI r)])).length) Slot.unset).toArray = ls at hl ⊢
  have hl : lv_has ls 1 [(0, .int (nI r))] := hl
  refine lv_iconst (v := nI 3) hx hb d_Tb_givenAt_0 (by decide) ?_
  refine lv_iload_n hx hb d_Tb_givenAt_1 rfl (lv_at hl 0 rfl) ?_
  refine rv_imul hx hb d_Tb_givenAt_2 ?_
  exact W.iret (v := nI (3 * r)) hx hb hr (fun t ht hW => ⟨⟨nI (3 * r), (), rfl, rfl, trivial⟩, hS.F ht⟩) hS.2.2 d_Tb_givenAt_3

set_option maxHeartbeats 4000000 in
set_option maxRecDepth 100000 in
theorem c_Le_termOf (l : Launch) (k : Nat) (ds : List Nat) (hk : k < 42) (hd : rt_ok ds) : Met l y_Le_termOf (w_ y_Le_termOf b_Le_termOf 3 (some .int)) (rm_ 0) (va_Pc [.int (nI k), .long (lN (rt_pk ds))] (fun U => True)) (va_Qi (fun (z9 : Int32) (_ : Unit) => z9 = rt_i (rt_term k ds)) (fun _ _ => True) (fun _ => False)) 0 0 (fun _ => False) := by
  refine Met.ofW (cc := b_Le_termOf) (maxL := 3) (ret := (some .int)) (by decide) rfl ?_
  intro p e s m args below meth c s₁ B hml hv
  obtain ⟨rfl, -⟩ := hv
  have hx := B.exec
  have hb := B.bytes
  have hr := B.returns
  have hts := atoms_spec (ws := (w_ y_Le_termOf b_Le_termOf 3 (some .int))) B.pre
  have hown : s.vm.findClass R_Le = some m.cls := findClass_of_methodNamed B.named
  have hlocks := B.notSynchronized
  have hS : va_S (fun _ => False) s.heap s.heap [] := va_S.rf
  have hl := lv_entry ([.int (nI k), .long (lN (rt_pk ds))]) (n := 3) (Nat.le_of_ble_eq_true rfl)
  rw [lg_entry_eq]
  generalize (lg_sl ([.int (nI k), .long (lN (rt_pk ds))]) ++ List.replicate (3 - (lg_sl ([.int (nI k), .long (lN (rt_pk ds))])).length) Slot.unset).toArray = ls at hl ⊢
  have hl : lv_has ls 3 [(0, .int (nI k)), (1, .long (lN (rt_pk ds)))] := hl
  refine lv_iload_n hx hb d_Le_termOf_0 rfl (lv_at hl 0 rfl) ?_
  refine lv_bipush (v := nI 32) hx hb d_Le_termOf_1 (by decide) ?_
  refine rv_icmp_ge (tgt := 8) hx hb d_Le_termOf_3 (by decide) (by omega) (by omega) (fun c_3 => ?_) (fun c_3 => ?_)
  · refine lv_lload_n hx hb d_Le_termOf_8 rfl (lv_at hl 1 rfl) ?_
    refine lv_bipush (v := nI 6) hx hb d_Le_termOf_9 (by decide) ?_
    refine lv_iload_n hx hb d_Le_termOf_11 rfl (lv_at hl 0 rfl) ?_
    refine lv_bipush (v := nI 32) hx hb d_Le_termOf_12 (by decide) ?_
    refine rv_isub hx hb d_Le_termOf_14 (by omega) ?_
    refine rv_imul hx hb d_Le_termOf_15 ?_
    refine lv_lushr (v := lN (rt_pk ds / 64 ^ (k - 32))) hx hb d_Le_termOf_16 (rt_shr hd (by omega)) ?_
    refine lv_ldc2 (v := lN 63) hx hb hown (hts _ (List.mem_cons_of_mem _ m_218)) d_Le_termOf_17 ?_
    refine lv_land hx hb d_Le_termOf_20 ?_
    refine rv_eql (y := lN (rt_pk ds / 64 ^ (k - 32) % 64)) (rt_mask2 hd _) ?_
    refine lv_l2i (v := nI (rt_pk ds / 64 ^ (k - 32) % 64)) hx hb d_Le_termOf_21 (lN_i _) ?_
    refine lv_iconst (v := nI 1) hx hb d_Le_termOf_22 (by decide) ?_
    refine lv_isub hx hb d_Le_termOf_23 ?_
    exact W.iret (v := (nI (rt_pk ds / 64 ^ (k - 32) % 64)) - (nI 1)) hx hb hr (fun t ht hW => ⟨⟨(nI (rt_pk ds / 64 ^ (k - 32) % 64)) - (nI 1), (), rfl, rt_termE hd (by omega), trivial⟩, hS.F ht⟩) hS.2.2 d_Le_termOf_24
  · refine lv_iload_n hx hb d_Le_termOf_6 rfl (lv_at hl 0 rfl) ?_
    exact W.iret (v := nI k) hx hb hr (fun t ht hW => ⟨⟨nI k, (), rfl, by unfold rt_term; rw [if_pos (by omega)]; rfl, trivial⟩, hS.F ht⟩) hS.2.2 d_Le_termOf_7

set_option maxHeartbeats 4000000 in
set_option maxRecDepth 100000 in
theorem c_Le_bind (l : Launch) (k t0 : Nat) (ds : List Nat) (hk : k < 42) (ht : t0 < 32) (hd : rt_ok ds) : Met l y_Le_bind (w_ y_Le_bind b_Le_bind 5 (some .long)) (rm_ 1) (va_Pc [.int (nI k), .int (nI t0), .long (lN (rt_pk ds))] (fun U => True)) (va_Ql (fun (z9 : Int64) (_ : Unit) => z9 = rt_l (rt_bind k t0 ds)) (fun _ _ => True) (fun _ => False)) 0 0 (fun _ => False) := by
  refine Met.ofW (cc := b_Le_bind) (maxL := 5) (ret := (some .long)) (by decide) rfl ?_
  intro p e s m args below meth c s₁ B hml hv
  obtain ⟨rfl, -⟩ := hv
  have hx := B.exec
  have hb := B.bytes
  have hr := B.returns
  have hts := atoms_spec (ws := (w_ y_Le_bind b_Le_bind 5 (some .long))) B.pre
  have hown : s.vm.findClass R_Le = some m.cls := findClass_of_methodNamed B.named
  have hlocks := B.notSynchronized
  have hS : va_S (fun _ => False) s.heap s.heap [] := va_S.rf
  have hl := lv_entry ([.int (nI k), .int (nI t0), .long (lN (rt_pk ds))]) (n := 5) (Nat.le_of_ble_eq_true rfl)
  rw [lg_entry_eq]
  generalize (lg_sl ([.int (nI k), .int (nI t0), .long (lN (rt_pk ds))]) ++ List.replicate (5 - (lg_sl ([.int (nI k), .int (nI t0), .long (lN (rt_pk ds))])).length) Slot.unset).toArray = ls at hl ⊢
  have hl : lv_has ls 5 [(0, .int (nI k)), (1, .int (nI t0)), (2, .long (lN (rt_pk ds)))] := hl
  refine lv_iload_n hx hb d_Le_bind_0 rfl (lv_at hl 0 rfl) ?_
  refine lv_lload_n hx hb d_Le_bind_1 rfl (lv_at hl 2 rfl) ?_
  refine rv_calli (r := rt_i (rt_term k ds)) (va_runS (As := [.int (nI k), .long (lN (rt_pk ds))]) (rest := []) ⟨hx, hb, hml, hown, hts⟩ (c_Le_termOf l k ds (hk) (hd)) (va_cwS 2 hts (rg_S (rg3 m_215 m_216 m_9) k_Le_termOf) rfl rfl rfl (by decide +kernel) ⟨Nat.le_of_ble_eq_true rfl, Nat.le_of_ble_eq_true rfl⟩) ⟨fun _ _ _ _ q => q, fun U hU hW => ⟨rfl, trivial⟩⟩ rfl rfl hl.1 rfl (lv_room (Nat.le_of_ble_eq_true rfl)) d_Le_bind_2 ⟨Nat.zero_le _, Nat.zero_le _⟩) hS (fun _ h => h.elim) (fun H locs hk hS => ?_)
  rcases hq : rt_term k ds with _ | u
  · have hn := rt_none hq
    refine rv_eq (y := (-1)) (rfl) ?_
    refine lv_istore (lv' := [(4, .int (-1)), (0, .int (nI k)), (1, .int (nI t0)), (2, .long (lN (rt_pk ds)))]) hx hb d_Le_bind_5 hl (by decide) rfl (fun ls hl => ?_)
    refine lv_iload hx hb d_Le_bind_7 (lv_at hl 0 rfl) ?_
    refine lv_iconst (v := (-1)) hx hb d_Le_bind_9 (by decide) ?_
    refine lv_icmp_ne (tgt := 28) hx hb d_Le_bind_10 (by decide) (fun c_10 => absurd c_10 (fun h => h rfl)) (fun c_10 => ?_)
    refine lv_lload_n hx hb d_Le_bind_13 rfl (lv_at hl 3 rfl) ?_
    refine lv_iload_n hx hb d_Le_bind_14 rfl (lv_at hl 2 rfl) ?_
    refine lv_iconst (v := nI 1) hx hb d_Le_bind_15 (by decide) ?_
    refine rv_iadd hx hb d_Le_bind_16 ?_
    refine lv_i2l (v := lN (t0 + 1)) hx hb d_Le_bind_17 (nI_l (by omega)) ?_
    refine lv_bipush (v := nI 6) hx hb d_Le_bind_18 (by decide) ?_
    refine lv_iload_n hx hb d_Le_bind_20 rfl (lv_at hl 1 rfl) ?_
    refine lv_bipush (v := nI 32) hx hb d_Le_bind_21 (by decide) ?_
    refine rv_isub hx hb d_Le_bind_23 (by omega) ?_
    refine rv_imul hx hb d_Le_bind_24 ?_
    refine lv_lshl (v := lN ((t0 + 1) * 64 ^ (k - 32))) hx hb d_Le_bind_25 (rt_shl (by omega)) ?_
    refine lv_lor hx hb d_Le_bind_26 ?_
    refine rv_eql (y := lN (rt_pk (ds.set (k - 32) (t0 + 1)))) (rt_lor hd (by omega) ht hn.2) ?_
    exact W.lret (v := lN (rt_pk (ds.set (k - 32) (t0 + 1)))) hx hb hr (fun t ht hW => ⟨⟨lN (rt_pk (ds.set (k - 32) (t0 + 1))), (), rfl, by unfold rt_bind; rw [hq]; rfl, trivial⟩, hS.F ht⟩) hS.2.2 d_Le_bind_27
  · have hu := rt_term_lt hd hq
    refine rv_eq (y := nI u) (rfl) ?_
    refine lv_istore (lv' := [(4, .int (nI u)), (0, .int (nI k)), (1, .int (nI t0)), (2, .long (lN (rt_pk ds)))]) hx hb d_Le_bind_5 hl (by decide) rfl (fun ls hl => ?_)
    refine lv_iload hx hb d_Le_bind_7 (lv_at hl 0 rfl) ?_
    refine lv_iconst (v := (-1)) hx hb d_Le_bind_9 (by decide) ?_
    refine lv_icmp_ne (tgt := 28) hx hb d_Le_bind_10 (by decide) (fun c_10 => ?_) (fun c_10 => absurd c_10 (rt_nm1 (by omega)))
    refine lv_iload hx hb d_Le_bind_28 (lv_at hl 0 rfl) ?_
    refine lv_iload_n hx hb d_Le_bind_30 rfl (lv_at hl 2 rfl) ?_
    refine rv_icmp_ne (tgt := 38) hx hb d_Le_bind_31 (by decide) (by omega) (by omega) (fun c_31 => ?_) (fun c_31 => ?_)
    · refine lv_ldc2 (v := (-1)) hx hb hown (hts _ (List.mem_cons_of_mem _ m_211)) d_Le_bind_38 ?_
      exact W.lret (v := (-1)) hx hb hr (fun t ht hW => ⟨⟨(-1), (), rfl, by unfold rt_bind; rw [hq]; simp only; rw [if_neg (by assumption)]; rfl, trivial⟩, hS.F ht⟩) hS.2.2 d_Le_bind_41
    · refine lv_lload_n hx hb d_Le_bind_34 rfl (lv_at hl 3 rfl) ?_
      refine lv_goto (tgt := 41) hx hb d_Le_bind_35 (by decide) ?_
      exact W.lret (v := lN (rt_pk ds)) hx hb hr (fun t ht hW => ⟨⟨lN (rt_pk ds), (), rfl, by unfold rt_bind; rw [hq]; simp only; rw [if_pos (by assumption)]; rfl, trivial⟩, hS.F ht⟩) hS.2.2 d_Le_bind_41

set_option maxHeartbeats 4000000 in
set_option maxRecDepth 100000 in
theorem c_Le_fit (l : Launch) (t0 N at0 c0 : Nat) (L ds : List Nat) (hN : N < 2 ^ 31) (hat : at0 + 2 < N) (hk1 : L.getD at0 0 < 42) (hk2 : L.getD (at0 + 1) 0 < 42) (hk3 : L.getD (at0 + 2) 0 < 42) (hc : c0 < 32768) (hd : rt_ok ds) : Met l y_Le_fit (w_ y_Le_fit b_Le_fit 7 (some .long)) (rm_ 2) (va_Pc [.ref t0, .int (nI at0), .int (nI c0), .long (lN (rt_pk ds))] (fun U => va_T .int t0 N (rq_f L) (fun _ => False) U U.heap)) (va_Ql (fun (z9 : Int64) (_ : Unit) => z9 = rt_l (rt_fit (L.getD at0 0) (L.getD (at0 + 1) 0) (L.getD (at0 + 2) 0) c0 ds)) (fun _ _ => True) (fun _ => False)) 0 0 (fun _ => False) := by
  refine Met.ofW (cc := b_Le_fit) (maxL := 7) (ret := (some .long)) (by decide) rfl ?_
  intro p e s m args below meth c s₁ B hml hv
  obtain ⟨rfl, hT⟩ := hv
  have hx := B.exec
  have hb := B.bytes
  have hr := B.returns
  have hts := atoms_spec (ws := (w_ y_Le_fit b_Le_fit 7 (some .long))) B.pre
  have hown : s.vm.findClass R_Le = some m.cls := findClass_of_methodNamed B.named
  have hlocks := B.notSynchronized
  have hS : va_S (fun _ => False) s.heap s.heap [] := va_S.rf
  have hl := lv_entry ([.ref t0, .int (nI at0), .int (nI c0), .long (lN (rt_pk ds))]) (n := 7) (Nat.le_of_ble_eq_true rfl)
  rw [lg_entry_eq]
  generalize (lg_sl ([.ref t0, .int (nI at0), .int (nI c0), .long (lN (rt_pk ds))]) ++ List.replicate (7 - (lg_sl ([.ref t0, .int (nI at0), .int (nI c0), .long (lN (rt_pk ds))])).length) Slot.unset).toArray = ls at hl ⊢
  have hl : lv_has ls 7 [(0, .ref t0), (1, .int (nI at0)), (2, .int (nI c0)), (3, .long (lN (rt_pk ds)))] := hl
  refine lv_iload_n hx hb d_Le_fit_0 rfl (lv_at hl 1 rfl) ?_
  refine rv_if_lt (tgt := 12) hx hb d_Le_fit_1 (by decide) (by omega) ?_
  refine lv_iload_n hx hb d_Le_fit_4 rfl (lv_at hl 1 rfl) ?_
  refine lv_iconst (v := nI 2) hx hb d_Le_fit_5 (by decide) ?_
  refine rv_iadd hx hb d_Le_fit_6 ?_
  refine lv_aload_n hx hb d_Le_fit_7 rfl (lv_at hl 0 rfl) ?_
  refine va_tlen (v := nI N) hx hb hT hS rfl d_Le_fit_8 ?_
  refine rv_icmp_lt (tgt := 16) hx hb d_Le_fit_9 (by decide) (by omega) (by omega) (fun c_9 => ?_) (fun c_9 => absurd c_9 (by omega))
  refine lv_aload_n hx hb d_Le_fit_16 rfl (lv_at hl 0 rfl) ?_
  refine lv_iload_n hx hb d_Le_fit_17 rfl (lv_at hl 1 rfl) ?_
  refine lv_iconst (v := nI 1) hx hb d_Le_fit_18 (by decide) ?_
  refine rv_iadd hx hb d_Le_fit_19 ?_
  refine rv_ti (k := (at0 + 1)) hx hb hT hS (by omega) (hN) (v := .int (nI (L.getD (at0 + 1) 0))) rfl d_Le_fit_20 ?_
  refine lv_iload_n hx hb d_Le_fit_21 rfl (lv_at hl 2 rfl) ?_
  refine lv_bipush (v := nI 32) hx hb d_Le_fit_22 (by decide) ?_
  refine rv_idiv hx hb d_Le_fit_24 (by omega) (by omega) (by omega) ?_
  refine lv_bipush (v := nI 32) hx hb d_Le_fit_25 (by decide) ?_
  refine rv_irem hx hb d_Le_fit_27 (by omega) (by omega) (by omega) ?_
  refine lv_lload_n hx hb d_Le_fit_28 rfl (lv_at hl 3 rfl) ?_
  refine rv_calll (r := rt_l (rt_bind (L.getD (at0 + 1) 0) ((c0 / 32) % 32) ds)) (va_runS (As := [.int (nI (L.getD (at0 + 1) 0)), .int (nI ((c0 / 32) % 32)), .long (lN (rt_pk ds))]) (rest := []) ⟨hx, hb, hml, hown, hts⟩ (c_Le_bind l (L.getD (at0 + 1) 0) ((c0 / 32) % 32) ds hk2 (by omega) hd) (va_cwS 3 hts (rg_S (rg3 m_212 m_213 m_9) k_Le_bind) rfl rfl rfl (by decide +kernel) ⟨Nat.le_of_ble_eq_true rfl, Nat.le_of_ble_eq_true rfl⟩) ⟨fun _ _ _ _ q => q, fun U hU hW => ⟨rfl, trivial⟩⟩ rfl rfl hl.1 rfl (lv_room (Nat.le_of_ble_eq_true rfl)) d_Le_fit_29 ⟨Nat.zero_le _, Nat.zero_le _⟩) hS (fun _ h => h.elim) (fun H locs hk hS => ?_)
  rcases hq0 : rt_bind (L.getD (at0 + 1) 0) (c0 / 32 % 32) ds with _ | d1
  · refine rv_eql (y := (-1)) (rfl) ?_
    refine lv_lstore (lv' := [(5, .long (-1)), (0, .ref t0), (1, .int (nI at0)), (2, .int (nI c0)), (3, .long (lN (rt_pk ds)))]) hx hb d_Le_fit_32 hl (by decide) rfl (fun ls hl => ?_)
    refine lv_lload hx hb d_Le_fit_34 (lv_at hl 0 rfl) ?_
    refine lv_ldc2 (v := (-1)) hx hb hown (hts _ (List.mem_cons_of_mem _ m_211)) d_Le_fit_36 ?_
    refine W.lcmp hx hb d_Le_fit_39 ?_
    refine rv_eq (y := nI 0) (rt_cmp0 _) ?_
    refine rv_if_eq (tgt := 60) hx hb d_Le_fit_40 (by decide) (by omega) (fun c_40 => ?_) (fun c_40 => absurd c_40 (by omega))
    refine lv_lload hx hb d_Le_fit_60 (lv_at hl 0 rfl) ?_
    refine lv_ldc2 (v := (-1)) hx hb hown (hts _ (List.mem_cons_of_mem _ m_211)) d_Le_fit_62 ?_
    refine W.lcmp hx hb d_Le_fit_65 ?_
    refine rv_eq (y := nI 0) (rt_cmp0 _) ?_
    refine rv_if_eq (tgt := 85) hx hb d_Le_fit_66 (by decide) (by omega) (fun c_66 => ?_) (fun c_66 => absurd c_66 (by omega))
    refine lv_lload hx hb d_Le_fit_85 (lv_at hl 0 rfl) ?_
    exact W.lret (v := (-1)) hx hb hr (fun t ht hW => ⟨⟨(-1), (), rfl, by unfold rt_fit; rw [hq0]; rfl, trivial⟩, hS.F ht⟩) hS.2.2 d_Le_fit_87
  · have hd1 := rt_bind_ok hd (by omega) hq0
    refine rv_eql (y := lN (rt_pk d1)) (rfl) ?_
    refine lv_lstore (lv' := [(5, .long (lN (rt_pk d1))), (0, .ref t0), (1, .int (nI at0)), (2, .int (nI c0)), (3, .long (lN (rt_pk ds)))]) hx hb d_Le_fit_32 hl (by decide) rfl (fun ls hl => ?_)
    refine lv_lload hx hb d_Le_fit_34 (lv_at hl 0 rfl) ?_
    refine lv_ldc2 (v := (-1)) hx hb hown (hts _ (List.mem_cons_of_mem _ m_211)) d_Le_fit_36 ?_
    refine W.lcmp hx hb d_Le_fit_39 ?_
    refine lv_if_eq (tgt := 60) hx hb d_Le_fit_40 (by decide) (fun c_40 => absurd c_40 (rt_cmp_ne hd1)) (fun c_40 => ?_)
    refine lv_aload_n hx hb d_Le_fit_43 rfl (lv_at hl 1 rfl) ?_
    refine lv_iload_n hx hb d_Le_fit_44 rfl (lv_at hl 2 rfl) ?_
    refine rv_ti (k := at0) hx hb hT hS (by omega) (hN) (v := .int (nI (L.getD at0 0))) rfl d_Le_fit_45 ?_
    refine lv_iload_n hx hb d_Le_fit_46 rfl (lv_at hl 3 rfl) ?_
    refine lv_bipush (v := nI 32) hx hb d_Le_fit_47 (by decide) ?_
    refine rv_idiv hx hb d_Le_fit_49 (by omega) (by omega) (by omega) ?_
    refine lv_bipush (v := nI 32) hx hb d_Le_fit_50 (by decide) ?_
    refine rv_idiv hx hb d_Le_fit_52 (by omega) (by omega) (by omega) ?_
    refine lv_lload hx hb d_Le_fit_53 (lv_at hl 0 rfl) ?_
    refine rv_calll (r := rt_l (rt_bind (L.getD at0 0) ((c0 / 32) / 32) d1)) (va_runS (As := [.int (nI (L.getD at0 0)), .int (nI ((c0 / 32) / 32)), .long (lN (rt_pk d1))]) (rest := []) ⟨hx, hb, hml, hown, hts⟩ (c_Le_bind l (L.getD at0 0) ((c0 / 32) / 32) d1 hk1 (by omega) hd1) (va_cwS 3 hts (rg_S (rg3 m_212 m_213 m_9) k_Le_bind) rfl rfl rfl (by decide +kernel) ⟨Nat.le_of_ble_eq_true rfl, Nat.le_of_ble_eq_true rfl⟩) ⟨fun _ _ _ _ q => q, fun U hU hW => ⟨rfl, trivial⟩⟩ rfl rfl hl.1 rfl (lv_room (Nat.le_of_ble_eq_true rfl)) d_Le_fit_55 ⟨Nat.zero_le _, Nat.zero_le _⟩) hS (fun _ h => h.elim) (fun H locs hk hS => ?_)
    rcases hq1 : rt_bind (L.getD at0 0) (c0 / 32 / 32) d1 with _ | d2
    · refine rv_eql (y := (-1)) (rfl) ?_
      refine lv_lstore (lv' := [(5, .long (-1)), (0, .ref t0), (1, .int (nI at0)), (2, .int (nI c0)), (3, .long (lN (rt_pk ds)))]) hx hb d_Le_fit_58 hl (by decide) rfl (fun ls hl => ?_)
      refine lv_lload hx hb d_Le_fit_60 (lv_at hl 0 rfl) ?_
      refine lv_ldc2 (v := (-1)) hx hb hown (hts _ (List.mem_cons_of_mem _ m_211)) d_Le_fit_62 ?_
      refine W.lcmp hx hb d_Le_fit_65 ?_
      refine rv_eq (y := nI 0) (rt_cmp0 _) ?_
      refine rv_if_eq (tgt := 85) hx hb d_Le_fit_66 (by decide) (by omega) (fun c_66 => ?_) (fun c_66 => absurd c_66 (by omega))
      refine lv_lload hx hb d_Le_fit_85 (lv_at hl 0 rfl) ?_
      exact W.lret (v := (-1)) hx hb hr (fun t ht hW => ⟨⟨(-1), (), rfl, by unfold rt_fit; rw [hq0]; simp only [Option.bind_some]; rw [hq1]; rfl, trivial⟩, hS.F ht⟩) hS.2.2 d_Le_fit_87
    · have hd2 := rt_bind_ok hd1 (by omega) hq1
      refine rv_eql (y := lN (rt_pk d2)) (rfl) ?_
      refine lv_lstore (lv' := [(5, .long (lN (rt_pk d2))), (0, .ref t0), (1, .int (nI at0)), (2, .int (nI c0)), (3, .long (lN (rt_pk ds)))]) hx hb d_Le_fit_58 hl (by decide) rfl (fun ls hl => ?_)
      refine lv_lload hx hb d_Le_fit_60 (lv_at hl 0 rfl) ?_
      refine lv_ldc2 (v := (-1)) hx hb hown (hts _ (List.mem_cons_of_mem _ m_211)) d_Le_fit_62 ?_
      refine W.lcmp hx hb d_Le_fit_65 ?_
      refine lv_if_eq (tgt := 85) hx hb d_Le_fit_66 (by decide) (fun c_66 => absurd c_66 (rt_cmp_ne hd2)) (fun c_66 => ?_)
      refine lv_aload_n hx hb d_Le_fit_69 rfl (lv_at hl 1 rfl) ?_
      refine lv_iload_n hx hb d_Le_fit_70 rfl (lv_at hl 2 rfl) ?_
      refine lv_iconst (v := nI 2) hx hb d_Le_fit_71 (by decide) ?_
      refine rv_iadd hx hb d_Le_fit_72 ?_
      refine rv_ti (k := (at0 + 2)) hx hb hT hS (by omega) (hN) (v := .int (nI (L.getD (at0 + 2) 0))) rfl d_Le_fit_73 ?_
      refine lv_iload_n hx hb d_Le_fit_74 rfl (lv_at hl 3 rfl) ?_
      refine lv_bipush (v := nI 32) hx hb d_Le_fit_75 (by decide) ?_
      refine rv_irem hx hb d_Le_fit_77 (by omega) (by omega) (by omega) ?_
      refine lv_lload hx hb d_Le_fit_78 (lv_at hl 0 rfl) ?_
      refine rv_calll (r := rt_l (rt_bind (L.getD (at0 + 2) 0) (c0 % 32) d2)) (va_runS (As := [.int (nI (L.getD (at0 + 2) 0)), .int (nI (c0 % 32)), .long (lN (rt_pk d2))]) (rest := []) ⟨hx, hb, hml, hown, hts⟩ (c_Le_bind l (L.getD (at0 + 2) 0) (c0 % 32) d2 hk3 (by omega) hd2) (va_cwS 3 hts (rg_S (rg3 m_212 m_213 m_9) k_Le_bind) rfl rfl rfl (by decide +kernel) ⟨Nat.le_of_ble_eq_true rfl, Nat.le_of_ble_eq_true rfl⟩) ⟨fun _ _ _ _ q => q, fun U hU hW => ⟨rfl, trivial⟩⟩ rfl rfl hl.1 rfl (lv_room (Nat.le_of_ble_eq_true rfl)) d_Le_fit_80 ⟨Nat.zero_le _, Nat.zero_le _⟩) hS (fun _ h => h.elim) (fun H locs hk hS => ?_)
      rcases hq2 : rt_bind (L.getD (at0 + 2) 0) (c0 % 32) d2 with _ | d3
      · refine rv_eql (y := (-1)) (rfl) ?_
        refine lv_lstore (lv' := [(5, .long (-1)), (0, .ref t0), (1, .int (nI at0)), (2, .int (nI c0)), (3, .long (lN (rt_pk ds)))]) hx hb d_Le_fit_83 hl (by decide) rfl (fun ls hl => ?_)
        refine lv_lload hx hb d_Le_fit_85 (lv_at hl 0 rfl) ?_
        exact W.lret (v := (-1)) hx hb hr (fun t ht hW => ⟨⟨(-1), (), rfl, by unfold rt_fit; rw [hq0]; simp only [Option.bind_some]; rw [hq1]; simp only [Option.bind_some]; rw [hq2]; rfl, trivial⟩, hS.F ht⟩) hS.2.2 d_Le_fit_87
      · have hd3 := rt_bind_ok hd2 (by omega) hq2
        refine rv_eql (y := lN (rt_pk d3)) (rfl) ?_
        refine lv_lstore (lv' := [(5, .long (lN (rt_pk d3))), (0, .ref t0), (1, .int (nI at0)), (2, .int (nI c0)), (3, .long (lN (rt_pk ds)))]) hx hb d_Le_fit_83 hl (by decide) rfl (fun ls hl => ?_)
        refine lv_lload hx hb d_Le_fit_85 (lv_at hl 0 rfl) ?_
        exact W.lret (v := lN (rt_pk d3)) hx hb hr (fun t ht hW => ⟨⟨lN (rt_pk d3), (), rfl, by unfold rt_fit; rw [hq0]; simp only [Option.bind_some]; rw [hq1]; simp only [Option.bind_some]; rw [hq2]; rfl, trivial⟩, hS.F ht⟩) hS.2.2 d_Le_fit_87

set_option maxHeartbeats 4000000 in
set_option maxRecDepth 100000 in
theorem c_Tb_givenCode (l : Launch) (tP tG tC r x y z : Nat) (ds : List Nat) (hr0 : r < 21) (hd : rt_ok ds) (h1 : rt_term (rq_given.getD (3 * r) 0) ds = some x) (h2 : rt_term (rq_given.getD (3 * r + 1) 0) ds = some y) (h3 : rt_term (rq_given.getD (3 * r + 2) 0) ds = some z) : Met l y_Tb_givenCode (w_ y_Tb_givenCode b_Tb_givenCode 4 (some .int)) (rm_ 1) (va_Pc [.int (nI r), .long (lN (rt_pk ds))] (fun U => rz_ tP tG tC (fun _ => False) U ∧ rn_ U)) (va_Qi (fun (z9 : Int32) (_ : Unit) => z9 = nI (rx_code x y z)) (fun _ _ => True) (fun _ => False)) 0 0 (fun _ => False) := by
  refine Met.ofW (cc := b_Tb_givenCode) (maxL := 4) (ret := (some .int)) (by decide) rfl ?_
  intro p e s m args below meth c s₁ B hml hv
  obtain ⟨rfl, hZ, hN⟩ := hv
  have hx := B.exec
  have hb := B.bytes
  have hr := B.returns
  have hts := atoms_spec (ws := (w_ y_Tb_givenCode b_Tb_givenCode 4 (some .int))) B.pre
  have hown : s.vm.findClass R_Tb = some m.cls := findClass_of_methodNamed B.named
  have hlocks := B.notSynchronized
  have hS : va_S (fun _ => False) s.heap s.heap [] := va_S.rf
  have hl := lv_entry ([.int (nI r), .long (lN (rt_pk ds))]) (n := 4) (Nat.le_of_ble_eq_true rfl)
  rw [lg_entry_eq]
  generalize (lg_sl ([.int (nI r), .long (lN (rt_pk ds))]) ++ List.replicate (4 - (lg_sl ([.int (nI r), .long (lN (rt_pk ds))])).length) Slot.unset).toArray = ls at hl ⊢
  have hl : lv_has ls 4 [(0, .int (nI r)), (1, .long (lN (rt_pk ds)))] := hl
  refine lv_iload_n hx hb d_Tb_givenCode_0 rfl (lv_at hl 0 rfl) ?_
  refine rv_calli (r := nI (3 * r)) (va_runS (As := [.int (nI r)]) (rest := []) ⟨hx, hb, hml, hown, hts⟩ (c_Tb_givenAt l r) (va_cwS 1 hts (rg_S (rg3 m_233 m_234 m_8) k_Tb_givenAt) rfl rfl rfl (by decide +kernel) ⟨Nat.le_of_ble_eq_true rfl, Nat.le_of_ble_eq_true rfl⟩) ⟨fun _ _ _ _ q => q, fun U hU hW => ⟨rfl, trivial⟩⟩ rfl rfl hl.1 rfl (lv_room (Nat.le_of_ble_eq_true rfl)) d_Tb_givenCode_1 ⟨Nat.zero_le _, Nat.zero_le _⟩) hS (fun _ h => h.elim) (fun H locs hk hS => ?_)
  refine lv_istore_n (lv' := [(3, .int (nI (3 * r))), (0, .int (nI r)), (1, .long (lN (rt_pk ds)))]) hx hb d_Tb_givenCode_4 rfl hl (by decide) rfl (fun ls hl => ?_)
  refine va_gets hx hb hZ.2.1.1 hS hown (hts _ (List.mem_cons_of_mem _ m_236)) (fun _ h9 => h9) d_Tb_givenCode_5 ?_
  refine lv_iload_n hx hb d_Tb_givenCode_8 rfl (lv_at hl 0 rfl) ?_
  refine rv_ti (k := (3 * r)) hx hb hZ.2.1.2 hS (by omega) (by decide) (v := .int (nI (rq_given.getD (3 * r) 0))) rfl d_Tb_givenCode_9 ?_
  refine lv_lload_n hx hb d_Tb_givenCode_10 rfl (lv_at hl 2 rfl) ?_
  refine rv_calli (r := rt_i (rt_term (rq_given.getD (3 * r) 0) ds)) (va_runS (As := [.int (nI (rq_given.getD (3 * r) 0)), .long (lN (rt_pk ds))]) (rest := []) ⟨hx, hb, hml, hown, hts⟩ (c_Le_termOf l (rq_given.getD (3 * r) 0) ds (rq_given_lt _) (hd)) (va_cwS 2 hts (rg_S (rg3 m_238 m_216 m_9) k_Le_termOf) rfl rfl rfl (by decide +kernel) ⟨Nat.le_of_ble_eq_true rfl, Nat.le_of_ble_eq_true rfl⟩) ⟨fun _ _ _ _ q => q, fun U hU hW => ⟨rfl, trivial⟩⟩ rfl rfl hl.1 rfl (lv_room (Nat.le_of_ble_eq_true rfl)) d_Tb_givenCode_11 ⟨Nat.zero_le _, Nat.zero_le _⟩) hS (fun _ h => h.elim) (fun H locs hk hS => ?_)
  refine rv_eq (y := nI x) (by rw [h1]; rfl) ?_
  refine va_gets hx hb hZ.2.1.1 hS hown (hts _ (List.mem_cons_of_mem _ m_236)) (fun _ h9 => h9) d_Tb_givenCode_14 ?_
  refine lv_iload_n hx hb d_Tb_givenCode_17 rfl (lv_at hl 0 rfl) ?_
  refine lv_iconst (v := nI 1) hx hb d_Tb_givenCode_18 (by decide) ?_
  refine rv_iadd hx hb d_Tb_givenCode_19 ?_
  refine rv_ti (k := ((3 * r) + 1)) hx hb hZ.2.1.2 hS (by omega) (by decide) (v := .int (nI (rq_given.getD ((3 * r) + 1) 0))) rfl d_Tb_givenCode_20 ?_
  refine lv_lload_n hx hb d_Tb_givenCode_21 rfl (lv_at hl 2 rfl) ?_
  refine rv_calli (r := rt_i (rt_term (rq_given.getD ((3 * r) + 1) 0) ds)) (va_runS (As := [.int (nI (rq_given.getD ((3 * r) + 1) 0)), .long (lN (rt_pk ds))]) (rest := [.int (nI x)]) ⟨hx, hb, hml, hown, hts⟩ (c_Le_termOf l (rq_given.getD ((3 * r) + 1) 0) ds (rq_given_lt _) (hd)) (va_cwS 2 hts (rg_S (rg3 m_238 m_216 m_9) k_Le_termOf) rfl rfl rfl (by decide +kernel) ⟨Nat.le_of_ble_eq_true rfl, Nat.le_of_ble_eq_true rfl⟩) ⟨fun _ _ _ _ q => q, fun U hU hW => ⟨rfl, trivial⟩⟩ rfl rfl hl.1 rfl (lv_room (Nat.le_of_ble_eq_true rfl)) d_Tb_givenCode_22 ⟨Nat.zero_le _, Nat.zero_le _⟩) hS (fun _ h => h.elim) (fun H locs hk hS => ?_)
  refine rv_eq (y := nI y) (by rw [h2]; rfl) ?_
  refine va_gets hx hb hZ.2.1.1 hS hown (hts _ (List.mem_cons_of_mem _ m_236)) (fun _ h9 => h9) d_Tb_givenCode_25 ?_
  refine lv_iload_n hx hb d_Tb_givenCode_28 rfl (lv_at hl 0 rfl) ?_
  refine lv_iconst (v := nI 2) hx hb d_Tb_givenCode_29 (by decide) ?_
  refine rv_iadd hx hb d_Tb_givenCode_30 ?_
  refine rv_ti (k := ((3 * r) + 2)) hx hb hZ.2.1.2 hS (by omega) (by decide) (v := .int (nI (rq_given.getD ((3 * r) + 2) 0))) rfl d_Tb_givenCode_31 ?_
  refine lv_lload_n hx hb d_Tb_givenCode_32 rfl (lv_at hl 2 rfl) ?_
  refine rv_calli (r := rt_i (rt_term (rq_given.getD ((3 * r) + 2) 0) ds)) (va_runS (As := [.int (nI (rq_given.getD ((3 * r) + 2) 0)), .long (lN (rt_pk ds))]) (rest := [.int (nI y), .int (nI x)]) ⟨hx, hb, hml, hown, hts⟩ (c_Le_termOf l (rq_given.getD ((3 * r) + 2) 0) ds (rq_given_lt _) (hd)) (va_cwS 2 hts (rg_S (rg3 m_238 m_216 m_9) k_Le_termOf) rfl rfl rfl (by decide +kernel) ⟨Nat.le_of_ble_eq_true rfl, Nat.le_of_ble_eq_true rfl⟩) ⟨fun _ _ _ _ q => q, fun U hU hW => ⟨rfl, trivial⟩⟩ rfl rfl hl.1 rfl (lv_room (Nat.le_of_ble_eq_true rfl)) d_Tb_givenCode_33 ⟨Nat.zero_le _, Nat.zero_le _⟩) hS (fun _ h => h.elim) (fun H locs hk hS => ?_)
  refine rv_eq (y := nI z) (by rw [h3]; rfl) ?_
  refine rv_calli (r := nI (rx_code x y z)) (va_runSN (As := [.int (nI x), .int (nI y), .int (nI z)]) (rest := []) ⟨hx, hb, hml, hown, hts⟩ (c_Rl_codeOf l x y z) ⟨va_cnB 3 hts (rg_G k_Rl_codeOf) rfl rfl rfl (hN _ rn_7) (hts _ (List.mem_cons_of_mem _ m_1)) (by decide +kernel) ⟨Nat.le_of_ble_eq_true rfl, Nat.le_of_ble_eq_true rfl⟩, hts _ (List.mem_cons_of_mem _ m_135), trivial⟩ ⟨fun _ _ _ _ q => q, fun U hU hW => ⟨rfl, trivial⟩⟩ rfl rfl hl.1 rfl (lv_room (Nat.le_of_ble_eq_true rfl)) d_Tb_givenCode_36 ⟨Nat.zero_le _, Nat.zero_le _⟩) hS (fun _ h => h.elim) (fun H locs hk hS => ?_)
  exact W.iret (v := nI (rx_code x y z)) hx hb hr (fun t ht hW => ⟨⟨nI (rx_code x y z), (), rfl, rfl, trivial⟩, hS.F ht⟩) hS.2.2 d_Tb_givenCode_39
end
section
theorem rc_tm_m1 : rc_tm (-1) = nI 0 := by decide
theorem rc_tm_nI {k : Nat} (h : k < 32) : rc_tm (nI k) = nI 1 := by
  unfold rc_tm
  rw [if_neg (nI_pos (by omega)), if_pos (nI_lt h (by decide))]

set_option maxHeartbeats 4000000 in
set_option maxRecDepth 100000 in
theorem c_Ar_fill (l : Launch) (dC : Nat → ClassId) (dI : Nat → Nat → Nat) (dA : ClassId) (a0 n0 : Nat) (f : Nat → Int32) (v : Int32) (sz : Nat) (hn0 : n0 < 2 ^ 31) : Met l y_Ar_fill (w_ y_Ar_fill b_Ar_fill 4 none) (rm_ 0) (va_Pc [.ref a0, .int v] (fun U => U.heap.size = sz ∧ va_P (dC, dI) classes [(a0, .inl (dA, n0, .inl f))] U.heap ∧ va_K (dC, dI) classes [(dA, .int)] U ∧ va_D (fun _ => True) [(a0, .inl (dA, n0, .inl f))])) (va_Qv (fun (_ : Unit) => True) (fun (_ : Unit) t => va_P (dC, dI) classes [(a0, .inl (dA, n0, .inl (fun _ => v)))] t.heap ∧ va_D (va_A [(a0, .inl (dA, n0, .inl f))] sz) [(a0, .inl (dA, n0, .inl (fun _ => v)))]) (va_A [(a0, .inl (dA, n0, .inl f))] sz)) 0 0 (va_A [(a0, .inl (dA, n0, .inl f))] sz) := by
  refine Met.ofW (cc := b_Ar_fill) (maxL := 4) (ret := none) (by decide) rfl ?_
  intro p e s m args below meth c s₁ B hml hv
  obtain ⟨rfl, hsz, hP, hK, hD0⟩ := hv
  have hx := B.exec
  have hb := B.bytes
  have hr := B.returns
  have hts := atoms_spec (ws := (w_ y_Ar_fill b_Ar_fill 4 none)) B.pre
  have hown : s.vm.findClass R_Ar = some m.cls := findClass_of_methodNamed B.named
  have hlocks := B.notSynchronized
  subst hsz
  have hD := hD0.self (sz := s.heap.size)
  generalize hAe : va_A [(a0, .inl (dA, n0, .inl f))] s.heap.size = A at hD ⊢
  have hA : ∀ q : Nat, s.heap.size ≤ q → A q := fun q h => by rw [← hAe]; exact Or.inr h
  have hS : va_S A s.heap s.heap [] := va_S.rf
  have hl := lv_entry ([.ref a0, .int v]) (n := 4) (Nat.le_of_ble_eq_true rfl)
  rw [lg_entry_eq]
  generalize (lg_sl ([.ref a0, .int v]) ++ List.replicate (4 - (lg_sl ([.ref a0, .int v])).length) Slot.unset).toArray = ls at hl ⊢
  have hl : lv_has ls 4 [(0, .ref a0), (1, .int v)] := hl
  refine lv_iconst (v := nI 0) hx hb d_Ar_fill_0 (by decide) ?_
  refine lv_istore_n (lv' := [(2, .int (nI 0)), (0, .ref a0), (1, .int v)]) hx hb d_Ar_fill_1 rfl hl (by decide) rfl (fun ls hl => ?_)
  refine lv_aload_n hx hb d_Ar_fill_2 rfl (lv_at hl 1 rfl) ?_
  refine va_alen (v := nI n0) hx hb hK hP 0 0 rfl rfl rfl d_Ar_fill_3 ?_
  refine lv_istore_n (lv' := [(3, .int (nI n0)), (2, .int (nI 0)), (0, .ref a0), (1, .int v)]) hx hb d_Ar_fill_4 rfl hl (by decide) rfl (fun ls hl => ?_)
  have hP : va_P (dC, dI) classes [(a0, .inl (dA, n0, .inl (fun j => if j < 0 then v else f j)))] s.heap := by rw [rf_zero]; exact hP
  have hD : va_D A [(a0, .inl (dA, n0, .inl (fun j => if j < 0 then v else f j)))] := by rw [rf_zero]; exact hD
  refine rv_Q (fun Q hQ => ?_)
  have lp : ∀ (n : Nat) (i : Nat) (H : Heap) (locs : List Loc) (ls : Array Slot), i + n = n0 → va_P (dC, dI) classes [(a0, .inl (dA, n0, .inl (fun j => if j < i then v else f j)))] H → va_D A [(a0, .inl (dA, n0, .inl (fun j => if j < i then v else f j)))] → va_S A s.heap H locs → lv_has ls 4 [(2, .int (nI i)), (3, .int (nI n0)), (0, .ref a0), (1, .int v)] → W p l e (headSpec (w_ y_Ar_fill b_Ar_fill 4 none) (rm_ 0)).room s m ([.ref a0, .int v] : List Value).toArray below meth c H locs 0 0 Q (F0 m 5 ls []) := by
    intro n
    induction n with
    | zero =>
      intro i H locs ls hi hP hD hS hl
      refine lv_iload_n hx hb d_Ar_fill_5 rfl (lv_at hl 0 rfl) ?_
      refine lv_iload_n hx hb d_Ar_fill_6 rfl (lv_at hl 1 rfl) ?_
      refine rv_icmp_ge (tgt := 20) hx hb d_Ar_fill_7 (by decide) (by omega) (by omega) (fun c_7 => ?_) (fun c_7 => absurd c_7 (by omega))
      subst hQ
      exact W.vret hx hb hr (fun t ht hW => ⟨⟨(), rfl, trivial, by rw [ht]; exact rv_fn hP 0 rfl (fun j hj => by rw [if_pos (by omega)]), hD.set (p := 0) rfl⟩, hS.F ht⟩) hS.2.2 d_Ar_fill_20
    | succ n ih =>
      intro i H locs ls hi hP hD hS hl
      refine lv_iload_n hx hb d_Ar_fill_5 rfl (lv_at hl 0 rfl) ?_
      refine lv_iload_n hx hb d_Ar_fill_6 rfl (lv_at hl 1 rfl) ?_
      refine rv_icmp_ge (tgt := 20) hx hb d_Ar_fill_7 (by decide) (by omega) (by omega) (fun c_7 => absurd c_7 (by omega)) (fun c_7 => ?_)
      refine lv_aload_n hx hb d_Ar_fill_10 rfl (lv_at hl 2 rfl) ?_
      refine lv_iload_n hx hb d_Ar_fill_11 rfl (lv_at hl 0 rfl) ?_
      refine lv_iload_n hx hb d_Ar_fill_12 rfl (lv_at hl 3 rfl) ?_
      refine rv_ast (k := i) (x := v) hx hb hK hP hD hS 0 0 rfl rfl (by omega) hn0 d_Ar_fill_13 (fun H locs hP hD hS => ?_)
      have hP : va_P (dC, dI) classes [(a0, .inl (dA, n0, .inl (upd (fun j => if j < i then v else f j) i v)))] H := hP
      have hD : va_D A [(a0, .inl (dA, n0, .inl (upd (fun j => if j < i then v else f j) i v)))] := hD
      refine rv_inc (k := 0) (lv' := [(2, .int (nI (i + 1))), (3, .int (nI n0)), (0, .ref a0), (1, .int v)]) hx hb d_Ar_fill_14 hl rfl (by decide) rfl (fun ls hl => ?_)
      refine lv_goto (tgt := 5) hx hb d_Ar_fill_17 (by decide) ?_
      rw [rf_step] at hP hD
      exact ih (i + 1) _ _ _ (by omega) hP hD hS (lv_sub hl [0, 1, 2, 3] rfl)
  exact lp n0 0 _ _ _ (by omega) hP hD hS (lv_sub hl [1, 0, 2, 3] rfl)

set_option maxHeartbeats 4000000 in
set_option maxRecDepth 100000 in
theorem c_Tr_has (l : Launch) (dC : Nat → ClassId) (dI : Nat → Nat → Nat) (dA : ClassId) (h0 q1 q2 q3 : Nat) (f g hh : Nat → Int32) (al : Int32) (c0 : Nat) (hc : c0 < 32768) : Met l y_Tr_has (w_ y_Tr_has b_Tr_has 2 (some .boolean)) (rm_ 0) (va_Pc [.ref h0, .int (nI c0)] (fun U => va_K (dC, dI) classes [(dA, .int)] U ∧ va_P (dC, dI) classes [(h0, .inr (1, [.ref q1, .ref q2, .ref q3, .int al])), (q1, .inl (dA, 1024, .inl f)), (q2, .inl (dA, 32, .inl g)), (q3, .inl (dA, 32, .inl hh))] U.heap)) (va_Qi (fun (z9 : Int32) (_ : Unit) => z9 = (if rb_b (f (c0 / 32)) (c0 % 32) then nI 1 else nI 0)) (fun _ _ => True) (fun _ => False)) 0 0 (fun _ => False) := by
  refine Met.ofW (cc := b_Tr_has) (maxL := 2) (ret := (some .boolean)) (by decide) rfl ?_
  intro p e s m args below meth c s₁ B hml hv
  obtain ⟨rfl, hK, hP⟩ := hv
  have hx := B.exec
  have hb := B.bytes
  have hr := B.returns
  have hts := atoms_spec (ws := (w_ y_Tr_has b_Tr_has 2 (some .boolean))) B.pre
  have hown : s.vm.findClass R_Tr = some m.cls := findClass_of_methodNamed B.named
  have hlocks := B.notSynchronized
  have hS : va_S (fun _ => False) s.heap s.heap [] := va_S.rf
  have hl := lv_entry ([.ref h0, .int (nI c0)]) (n := 2) (Nat.le_of_ble_eq_true rfl)
  rw [lg_entry_eq]
  generalize (lg_sl ([.ref h0, .int (nI c0)]) ++ List.replicate (2 - (lg_sl ([.ref h0, .int (nI c0)])).length) Slot.unset).toArray = ls at hl ⊢
  have hl : lv_has ls 2 [(0, .ref h0), (1, .int (nI c0))] := hl
  refine lv_iload_n hx hb d_Tr_has_0 rfl (lv_at hl 1 rfl) ?_
  refine rv_if_lt (tgt := 33) hx hb d_Tr_has_1 (by decide) (by omega) ?_
  refine lv_iload_n hx hb d_Tr_has_4 rfl (lv_at hl 1 rfl) ?_
  refine lv_ldc (v := nI 32768) hx hb hown (hts _ (List.mem_cons_of_mem _ m_179)) d_Tr_has_5 ?_
  refine rv_icmp_ge (tgt := 33) hx hb d_Tr_has_7 (by decide) (by omega) (by omega) (fun c_7 => absurd c_7 (by omega)) (fun c_7 => ?_)
  refine lv_aload_n hx hb d_Tr_has_10 rfl (lv_at hl 0 rfl) ?_
  refine va_get (D := (dC, dI)) (ci := 1) (v := .ref q1) (C := R_Tr) (T := F_Tr) (N := 4) hx hb hts (rg_c i_Tr) hown hK hP 0 rfl rfl 0 (by decide) (hts _ (List.mem_cons_of_mem _ m_27)) (fun _ h9 => h9) rfl d_Tr_has_11 ?_
  refine lv_iload_n hx hb d_Tr_has_14 rfl (lv_at hl 1 rfl) ?_
  refine lv_bipush (v := nI 32) hx hb d_Tr_has_15 (by decide) ?_
  refine rv_idiv hx hb d_Tr_has_17 (by omega) (by omega) (by omega) ?_
  refine rv_ald (k := (c0 / 32)) hx hb hK hP 1 0 rfl rfl (by omega) (by decide) d_Tr_has_18 ?_
  refine lv_iconst (v := nI 1) hx hb d_Tr_has_19 (by decide) ?_
  refine lv_iload_n hx hb d_Tr_has_20 rfl (lv_at hl 1 rfl) ?_
  refine lv_bipush (v := nI 32) hx hb d_Tr_has_21 (by decide) ?_
  refine rv_irem hx hb d_Tr_has_23 (by omega) (by omega) (by omega) ?_
  refine lv_ishl hx hb d_Tr_has_24 ?_
  refine lv_iand hx hb d_Tr_has_25 ?_
  refine lv_if_eq (tgt := 33) hx hb d_Tr_has_26 (by decide) (fun c_26 => ?_) (fun c_26 => ?_)
  · refine lv_iconst (v := nI 0) hx hb d_Tr_has_33 (by decide) ?_
    exact W.zret (v := nI 0) hx hb hr (by rfl) (fun t ht hW => ⟨⟨nI 0, (), rfl, by rw [if_neg (by rw [(ry_test _ (by omega)).mp (by assumption)]; simp)], trivial⟩, hS.F ht⟩) hS.2.2 d_Tr_has_34
  · refine lv_iconst (v := nI 1) hx hb d_Tr_has_29 (by decide) ?_
    refine lv_goto (tgt := 34) hx hb d_Tr_has_30 (by decide) ?_
    exact W.zret (v := nI 1) hx hb hr (by rfl) (fun t ht hW => ⟨⟨nI 1, (), rfl, by rw [if_pos (by rcases hq : rb_b (f (c0 / 32)) (c0 % 32) with _ | _; exact absurd ((ry_test _ (by omega)).mpr hq) (by assumption); rfl)], trivial⟩, hS.F ht⟩) hS.2.2 d_Tr_has_34

set_option maxHeartbeats 4000000 in
set_option maxRecDepth 100000 in
theorem c_Tr_put (l : Launch) (dC : Nat → ClassId) (dI : Nat → Nat → Nat) (dA : ClassId) (h0 q1 q2 q3 : Nat) (f g hh : Nat → Int32) (al : Int32) (c0 : Nat) (sz : Nat) (hc : c0 < 32768) : Met l y_Tr_put (w_ y_Tr_put b_Tr_put 4 none) (rm_ 0) (va_Pc [.ref h0, .int (nI c0)] (fun U => U.heap.size = sz ∧ va_P (dC, dI) classes [(h0, .inr (1, [.ref q1, .ref q2, .ref q3, .int al])), (q1, .inl (dA, 1024, .inl f)), (q2, .inl (dA, 32, .inl g)), (q3, .inl (dA, 32, .inl hh))] U.heap ∧ va_K (dC, dI) classes [(dA, .int)] U ∧ va_D (fun _ => True) [(h0, .inr (1, [.ref q1, .ref q2, .ref q3, .int al])), (q1, .inl (dA, 1024, .inl f)), (q2, .inl (dA, 32, .inl g)), (q3, .inl (dA, 32, .inl hh))])) (va_Qv (fun (_ : Unit) => True) (fun (_ : Unit) t => va_P (dC, dI) classes [(h0, .inr (1, [.ref q1, .ref q2, .ref q3, .int (al ||| (nI 1) <<< (nI (c0 / 32 / 32) &&& 31))])), (q1, .inl (dA, 1024, .inl (upd f (c0 / 32) (f (c0 / 32) ||| (nI 1) <<< (nI (c0 % 32) &&& 31))))), (q2, .inl (dA, 32, .inl (upd g (c0 / 32 % 32) (g (c0 / 32 % 32) ||| (nI 1) <<< (nI (c0 / 32 / 32) &&& 31))))), (q3, .inl (dA, 32, .inl (upd hh (c0 / 32 / 32) (hh (c0 / 32 / 32) ||| (nI 1) <<< (nI (c0 / 32 % 32) &&& 31)))))] t.heap ∧ va_D (va_A [(h0, .inr (1, [.ref q1, .ref q2, .ref q3, .int al])), (q1, .inl (dA, 1024, .inl f)), (q2, .inl (dA, 32, .inl g)), (q3, .inl (dA, 32, .inl hh))] sz) [(h0, .inr (1, [.ref q1, .ref q2, .ref q3, .int (al ||| (nI 1) <<< (nI (c0 / 32 / 32) &&& 31))])), (q1, .inl (dA, 1024, .inl (upd f (c0 / 32) (f (c0 / 32) ||| (nI 1) <<< (nI (c0 % 32) &&& 31))))), (q2, .inl (dA, 32, .inl (upd g (c0 / 32 % 32) (g (c0 / 32 % 32) ||| (nI 1) <<< (nI (c0 / 32 / 32) &&& 31))))), (q3, .inl (dA, 32, .inl (upd hh (c0 / 32 / 32) (hh (c0 / 32 / 32) ||| (nI 1) <<< (nI (c0 / 32 % 32) &&& 31)))))]) (va_A [(h0, .inr (1, [.ref q1, .ref q2, .ref q3, .int al])), (q1, .inl (dA, 1024, .inl f)), (q2, .inl (dA, 32, .inl g)), (q3, .inl (dA, 32, .inl hh))] sz)) 0 0 (va_A [(h0, .inr (1, [.ref q1, .ref q2, .ref q3, .int al])), (q1, .inl (dA, 1024, .inl f)), (q2, .inl (dA, 32, .inl g)), (q3, .inl (dA, 32, .inl hh))] sz) := by
  refine Met.ofW (cc := b_Tr_put) (maxL := 4) (ret := none) (by decide) rfl ?_
  intro p e s m args below meth c s₁ B hml hv
  obtain ⟨rfl, hsz, hP, hK, hD0⟩ := hv
  have hx := B.exec
  have hb := B.bytes
  have hr := B.returns
  have hts := atoms_spec (ws := (w_ y_Tr_put b_Tr_put 4 none)) B.pre
  have hown : s.vm.findClass R_Tr = some m.cls := findClass_of_methodNamed B.named
  have hlocks := B.notSynchronized
  subst hsz
  have hD := hD0.self (sz := s.heap.size)
  generalize hAe : va_A [(h0, .inr (1, [.ref q1, .ref q2, .ref q3, .int al])), (q1, .inl (dA, 1024, .inl f)), (q2, .inl (dA, 32, .inl g)), (q3, .inl (dA, 32, .inl hh))] s.heap.size = A at hD ⊢
  have hA : ∀ q : Nat, s.heap.size ≤ q → A q := fun q h => by rw [← hAe]; exact Or.inr h
  have hS : va_S A s.heap s.heap [] := va_S.rf
  have hl := lv_entry ([.ref h0, .int (nI c0)]) (n := 4) (Nat.le_of_ble_eq_true rfl)
  rw [lg_entry_eq]
  generalize (lg_sl ([.ref h0, .int (nI c0)]) ++ List.replicate (4 - (lg_sl ([.ref h0, .int (nI c0)])).length) Slot.unset).toArray = ls at hl ⊢
  have hl : lv_has ls 4 [(0, .ref h0), (1, .int (nI c0))] := hl
  refine lv_iload_n hx hb d_Tr_put_0 rfl (lv_at hl 1 rfl) ?_
  refine rv_if_lt (tgt := 10) hx hb d_Tr_put_1 (by decide) (by omega) ?_
  refine lv_iload_n hx hb d_Tr_put_4 rfl (lv_at hl 1 rfl) ?_
  refine lv_ldc (v := nI 32768) hx hb hown (hts _ (List.mem_cons_of_mem _ m_179)) d_Tr_put_5 ?_
  refine rv_icmp_lt (tgt := 11) hx hb d_Tr_put_7 (by decide) (by omega) (by omega) (fun c_7 => ?_) (fun c_7 => absurd c_7 (by omega))
  refine lv_iload_n hx hb d_Tr_put_11 rfl (lv_at hl 1 rfl) ?_
  refine lv_bipush (v := nI 32) hx hb d_Tr_put_12 (by decide) ?_
  refine rv_idiv hx hb d_Tr_put_14 (by omega) (by omega) (by omega) ?_
  refine lv_bipush (v := nI 32) hx hb d_Tr_put_15 (by decide) ?_
  refine rv_idiv hx hb d_Tr_put_17 (by omega) (by omega) (by omega) ?_
  refine lv_istore_n (lv' := [(2, .int (nI ((c0 / 32) / 32))), (0, .ref h0), (1, .int (nI c0))]) hx hb d_Tr_put_18 rfl hl (by decide) rfl (fun ls hl => ?_)
  refine lv_iload_n hx hb d_Tr_put_19 rfl (lv_at hl 2 rfl) ?_
  refine lv_bipush (v := nI 32) hx hb d_Tr_put_20 (by decide) ?_
  refine rv_idiv hx hb d_Tr_put_22 (by omega) (by omega) (by omega) ?_
  refine lv_bipush (v := nI 32) hx hb d_Tr_put_23 (by decide) ?_
  refine rv_irem hx hb d_Tr_put_25 (by omega) (by omega) (by omega) ?_
  refine lv_istore_n (lv' := [(3, .int (nI ((c0 / 32) % 32))), (2, .int (nI ((c0 / 32) / 32))), (0, .ref h0), (1, .int (nI c0))]) hx hb d_Tr_put_26 rfl hl (by decide) rfl (fun ls hl => ?_)
  refine lv_aload_n hx hb d_Tr_put_27 rfl (lv_at hl 2 rfl) ?_
  refine va_get (D := (dC, dI)) (ci := 1) (v := .ref q1) (C := R_Tr) (T := F_Tr) (N := 4) hx hb hts (rg_c i_Tr) hown hK hP 0 rfl rfl 0 (by decide) (hts _ (List.mem_cons_of_mem _ m_27)) (fun _ h9 => h9) rfl d_Tr_put_28 ?_
  refine lv_iload_n hx hb d_Tr_put_31 rfl (lv_at hl 3 rfl) ?_
  refine lv_bipush (v := nI 32) hx hb d_Tr_put_32 (by decide) ?_
  refine rv_idiv hx hb d_Tr_put_34 (by omega) (by omega) (by omega) ?_
  refine lv_dup2_11 hx hb d_Tr_put_35 rfl rfl ?_
  refine rv_ald (k := (c0 / 32)) hx hb hK hP 1 0 rfl rfl (by omega) (by decide) d_Tr_put_36 ?_
  refine lv_iconst (v := nI 1) hx hb d_Tr_put_37 (by decide) ?_
  refine lv_iload_n hx hb d_Tr_put_38 rfl (lv_at hl 3 rfl) ?_
  refine lv_bipush (v := nI 32) hx hb d_Tr_put_39 (by decide) ?_
  refine rv_irem hx hb d_Tr_put_41 (by omega) (by omega) (by omega) ?_
  refine lv_ishl hx hb d_Tr_put_42 ?_
  refine lv_ior hx hb d_Tr_put_43 ?_
  refine rv_ast (k := (c0 / 32)) (x := (f (c0 / 32)) ||| ((nI 1) <<< ((nI (c0 % 32)) &&& 31))) hx hb hK hP hD hS 1 0 rfl rfl (by omega) (by decide) d_Tr_put_44 (fun H locs hP hD hS => ?_)
  have hP : va_P (dC, dI) classes [(h0, .inr (1, [.ref q1, .ref q2, .ref q3, .int al])), (q1, .inl (dA, 1024, .inl (upd f (c0 / 32) ((f (c0 / 32)) ||| ((nI 1) <<< ((nI (c0 % 32)) &&& 31)))))), (q2, .inl (dA, 32, .inl g)), (q3, .inl (dA, 32, .inl hh))] H := hP
  have hD : va_D A [(h0, .inr (1, [.ref q1, .ref q2, .ref q3, .int al])), (q1, .inl (dA, 1024, .inl (upd f (c0 / 32) ((f (c0 / 32)) ||| ((nI 1) <<< ((nI (c0 % 32)) &&& 31)))))), (q2, .inl (dA, 32, .inl g)), (q3, .inl (dA, 32, .inl hh))] := hD
  refine lv_aload_n hx hb d_Tr_put_45 rfl (lv_at hl 2 rfl) ?_
  refine va_get (D := (dC, dI)) (ci := 1) (v := .ref q2) (C := R_Tr) (T := F_Tr) (N := 4) hx hb hts (rg_c i_Tr) hown hK hP 0 rfl rfl 1 (by decide) (hts _ (List.mem_cons_of_mem _ m_28)) (fun _ h9 => h9) rfl d_Tr_put_46 ?_
  refine lv_iload_n hx hb d_Tr_put_49 rfl (lv_at hl 0 rfl) ?_
  refine lv_dup2_11 hx hb d_Tr_put_50 rfl rfl ?_
  refine rv_ald (k := ((c0 / 32) % 32)) hx hb hK hP 2 0 rfl rfl (by omega) (by decide) d_Tr_put_51 ?_
  refine lv_iconst (v := nI 1) hx hb d_Tr_put_52 (by decide) ?_
  refine lv_iload_n hx hb d_Tr_put_53 rfl (lv_at hl 1 rfl) ?_
  refine lv_ishl hx hb d_Tr_put_54 ?_
  refine lv_ior hx hb d_Tr_put_55 ?_
  refine rv_ast (k := ((c0 / 32) % 32)) (x := (g ((c0 / 32) % 32)) ||| ((nI 1) <<< ((nI ((c0 / 32) / 32)) &&& 31))) hx hb hK hP hD hS 2 0 rfl rfl (by omega) (by decide) d_Tr_put_56 (fun H locs hP hD hS => ?_)
  have hP : va_P (dC, dI) classes [(h0, .inr (1, [.ref q1, .ref q2, .ref q3, .int al])), (q1, .inl (dA, 1024, .inl (upd f (c0 / 32) ((f (c0 / 32)) ||| ((nI 1) <<< ((nI (c0 % 32)) &&& 31)))))), (q2, .inl (dA, 32, .inl (upd g ((c0 / 32) % 32) ((g ((c0 / 32) % 32)) ||| ((nI 1) <<< ((nI ((c0 / 32) / 32)) &&& 31)))))), (q3, .inl (dA, 32, .inl hh))] H := hP
  have hD : va_D A [(h0, .inr (1, [.ref q1, .ref q2, .ref q3, .int al])), (q1, .inl (dA, 1024, .inl (upd f (c0 / 32) ((f (c0 / 32)) ||| ((nI 1) <<< ((nI (c0 % 32)) &&& 31)))))), (q2, .inl (dA, 32, .inl (upd g ((c0 / 32) % 32) ((g ((c0 / 32) % 32)) ||| ((nI 1) <<< ((nI ((c0 / 32) / 32)) &&& 31)))))), (q3, .inl (dA, 32, .inl hh))] := hD
  refine lv_aload_n hx hb d_Tr_put_57 rfl (lv_at hl 2 rfl) ?_
  refine va_get (D := (dC, dI)) (ci := 1) (v := .ref q3) (C := R_Tr) (T := F_Tr) (N := 4) hx hb hts (rg_c i_Tr) hown hK hP 0 rfl rfl 2 (by decide) (hts _ (List.mem_cons_of_mem _ m_29)) (fun _ h9 => h9) rfl d_Tr_put_58 ?_
  refine lv_iload_n hx hb d_Tr_put_61 rfl (lv_at hl 1 rfl) ?_
  refine lv_dup2_11 hx hb d_Tr_put_62 rfl rfl ?_
  refine rv_ald (k := ((c0 / 32) / 32)) hx hb hK hP 3 0 rfl rfl (by omega) (by decide) d_Tr_put_63 ?_
  refine lv_iconst (v := nI 1) hx hb d_Tr_put_64 (by decide) ?_
  refine lv_iload_n hx hb d_Tr_put_65 rfl (lv_at hl 0 rfl) ?_
  refine lv_ishl hx hb d_Tr_put_66 ?_
  refine lv_ior hx hb d_Tr_put_67 ?_
  refine rv_ast (k := ((c0 / 32) / 32)) (x := (hh ((c0 / 32) / 32)) ||| ((nI 1) <<< ((nI ((c0 / 32) % 32)) &&& 31))) hx hb hK hP hD hS 3 0 rfl rfl (by omega) (by decide) d_Tr_put_68 (fun H locs hP hD hS => ?_)
  have hP : va_P (dC, dI) classes [(h0, .inr (1, [.ref q1, .ref q2, .ref q3, .int al])), (q1, .inl (dA, 1024, .inl (upd f (c0 / 32) ((f (c0 / 32)) ||| ((nI 1) <<< ((nI (c0 % 32)) &&& 31)))))), (q2, .inl (dA, 32, .inl (upd g ((c0 / 32) % 32) ((g ((c0 / 32) % 32)) ||| ((nI 1) <<< ((nI ((c0 / 32) / 32)) &&& 31)))))), (q3, .inl (dA, 32, .inl (upd hh ((c0 / 32) / 32) ((hh ((c0 / 32) / 32)) ||| ((nI 1) <<< ((nI ((c0 / 32) % 32)) &&& 31))))))] H := hP
  have hD : va_D A [(h0, .inr (1, [.ref q1, .ref q2, .ref q3, .int al])), (q1, .inl (dA, 1024, .inl (upd f (c0 / 32) ((f (c0 / 32)) ||| ((nI 1) <<< ((nI (c0 % 32)) &&& 31)))))), (q2, .inl (dA, 32, .inl (upd g ((c0 / 32) % 32) ((g ((c0 / 32) % 32)) ||| ((nI 1) <<< ((nI ((c0 / 32) / 32)) &&& 31)))))), (q3, .inl (dA, 32, .inl (upd hh ((c0 / 32) / 32) ((hh ((c0 / 32) / 32)) ||| ((nI 1) <<< ((nI ((c0 / 32) % 32)) &&& 31))))))] := hD
  refine lv_aload_n hx hb d_Tr_put_69 rfl (lv_at hl 2 rfl) ?_
  refine lv_dup hx hb d_Tr_put_70 rfl ?_
  refine va_get (D := (dC, dI)) (ci := 1) (v := .int al) (C := R_Tr) (T := F_Tr) (N := 4) hx hb hts (rg_c i_Tr) hown hK hP 0 rfl rfl 3 (by decide) (hts _ (List.mem_cons_of_mem _ m_30)) (fun _ h9 => h9) rfl d_Tr_put_71 ?_
  refine lv_iconst (v := nI 1) hx hb d_Tr_put_74 (by decide) ?_
  refine lv_iload_n hx hb d_Tr_put_75 rfl (lv_at hl 1 rfl) ?_
  refine lv_ishl hx hb d_Tr_put_76 ?_
  refine lv_ior hx hb d_Tr_put_77 ?_
  refine va_put (D := (dC, dI)) (ci := 1) (v := .int (al ||| ((nI 1) <<< ((nI ((c0 / 32) / 32)) &&& 31)))) (ty := .int) (C := R_Tr) (T := F_Tr) (N := 4) hx hb hts (rg_c i_Tr) t_Tr t_Tr_ok n_Tr hown hK hP hD hS 0 rfl rfl 3 (by decide) (hts _ (List.mem_cons_of_mem _ m_30)) (fun _ h9 => h9) rfl (by decide +kernel) (by rfl) (by rfl) (Nat.le_of_ble_eq_true rfl) d_Tr_put_78 (fun H locs hP hD hS => ?_)
  have hP : va_P (dC, dI) classes [(h0, .inr (1, [.ref q1, .ref q2, .ref q3, .int (al ||| ((nI 1) <<< ((nI ((c0 / 32) / 32)) &&& 31)))])), (q1, .inl (dA, 1024, .inl (upd f (c0 / 32) ((f (c0 / 32)) ||| ((nI 1) <<< ((nI (c0 % 32)) &&& 31)))))), (q2, .inl (dA, 32, .inl (upd g ((c0 / 32) % 32) ((g ((c0 / 32) % 32)) ||| ((nI 1) <<< ((nI ((c0 / 32) / 32)) &&& 31)))))), (q3, .inl (dA, 32, .inl (upd hh ((c0 / 32) / 32) ((hh ((c0 / 32) / 32)) ||| ((nI 1) <<< ((nI ((c0 / 32) % 32)) &&& 31))))))] H := hP
  have hD : va_D A [(h0, .inr (1, [.ref q1, .ref q2, .ref q3, .int (al ||| ((nI 1) <<< ((nI ((c0 / 32) / 32)) &&& 31)))])), (q1, .inl (dA, 1024, .inl (upd f (c0 / 32) ((f (c0 / 32)) ||| ((nI 1) <<< ((nI (c0 % 32)) &&& 31)))))), (q2, .inl (dA, 32, .inl (upd g ((c0 / 32) % 32) ((g ((c0 / 32) % 32)) ||| ((nI 1) <<< ((nI ((c0 / 32) / 32)) &&& 31)))))), (q3, .inl (dA, 32, .inl (upd hh ((c0 / 32) / 32) ((hh ((c0 / 32) / 32)) ||| ((nI 1) <<< ((nI ((c0 / 32) % 32)) &&& 31))))))] := hD
  exact W.vret hx hb hr (fun t ht hW => ⟨⟨(), rfl, trivial, by rw [ht]; exact hP, hD⟩, hS.F ht⟩) hS.2.2 d_Tr_put_81

set_option maxHeartbeats 4000000 in
set_option maxRecDepth 100000 in
theorem c_Tr_clear (l : Launch) (dC : Nat → ClassId) (dI : Nat → Nat → Nat) (dA : ClassId) (h0 q1 q2 q3 : Nat) (f g hh : Nat → Int32) (al : Int32) (sz : Nat) : Met l y_Tr_clear (w_ y_Tr_clear b_Tr_clear 1 none) (rm_ 1) (va_Pc [.ref h0] (fun U => U.heap.size = sz ∧ va_P (dC, dI) classes [(h0, .inr (1, [.ref q1, .ref q2, .ref q3, .int al])), (q1, .inl (dA, 1024, .inl f)), (q2, .inl (dA, 32, .inl g)), (q3, .inl (dA, 32, .inl hh))] U.heap ∧ va_K (dC, dI) classes [(dA, .int)] U ∧ va_D (fun _ => True) [(h0, .inr (1, [.ref q1, .ref q2, .ref q3, .int al])), (q1, .inl (dA, 1024, .inl f)), (q2, .inl (dA, 32, .inl g)), (q3, .inl (dA, 32, .inl hh))])) (va_Qv (fun (_ : Unit) => True) (fun (_ : Unit) t => va_P (dC, dI) classes [(h0, .inr (1, [.ref q1, .ref q2, .ref q3, .int (nI 0)])), (q1, .inl (dA, 1024, .inl (fun _ => nI 0))), (q2, .inl (dA, 32, .inl (fun _ => nI 0))), (q3, .inl (dA, 32, .inl (fun _ => nI 0)))] t.heap ∧ va_D (va_A [(h0, .inr (1, [.ref q1, .ref q2, .ref q3, .int al])), (q1, .inl (dA, 1024, .inl f)), (q2, .inl (dA, 32, .inl g)), (q3, .inl (dA, 32, .inl hh))] sz) [(h0, .inr (1, [.ref q1, .ref q2, .ref q3, .int (nI 0)])), (q1, .inl (dA, 1024, .inl (fun _ => nI 0))), (q2, .inl (dA, 32, .inl (fun _ => nI 0))), (q3, .inl (dA, 32, .inl (fun _ => nI 0)))]) (va_A [(h0, .inr (1, [.ref q1, .ref q2, .ref q3, .int al])), (q1, .inl (dA, 1024, .inl f)), (q2, .inl (dA, 32, .inl g)), (q3, .inl (dA, 32, .inl hh))] sz)) 0 0 (va_A [(h0, .inr (1, [.ref q1, .ref q2, .ref q3, .int al])), (q1, .inl (dA, 1024, .inl f)), (q2, .inl (dA, 32, .inl g)), (q3, .inl (dA, 32, .inl hh))] sz) := by
  refine Met.ofW (cc := b_Tr_clear) (maxL := 1) (ret := none) (by decide) rfl ?_
  intro p e s m args below meth c s₁ B hml hv
  obtain ⟨rfl, hsz, hP, hK, hD0⟩ := hv
  have hx := B.exec
  have hb := B.bytes
  have hr := B.returns
  have hts := atoms_spec (ws := (w_ y_Tr_clear b_Tr_clear 1 none)) B.pre
  have hown : s.vm.findClass R_Tr = some m.cls := findClass_of_methodNamed B.named
  have hlocks := B.notSynchronized
  subst hsz
  have hD := hD0.self (sz := s.heap.size)
  generalize hAe : va_A [(h0, .inr (1, [.ref q1, .ref q2, .ref q3, .int al])), (q1, .inl (dA, 1024, .inl f)), (q2, .inl (dA, 32, .inl g)), (q3, .inl (dA, 32, .inl hh))] s.heap.size = A at hD ⊢
  have hA : ∀ q : Nat, s.heap.size ≤ q → A q := fun q h => by rw [← hAe]; exact Or.inr h
  have hS : va_S A s.heap s.heap [] := va_S.rf
  have hl := lv_entry ([.ref h0]) (n := 1) (Nat.le_of_ble_eq_true rfl)
  rw [lg_entry_eq]
  generalize (lg_sl ([.ref h0]) ++ List.replicate (1 - (lg_sl ([.ref h0])).length) Slot.unset).toArray = ls at hl ⊢
  have hl : lv_has ls 1 [(0, .ref h0)] := hl
  refine lv_aload_n hx hb d_Tr_clear_0 rfl (lv_at hl 0 rfl) ?_
  refine va_get (D := (dC, dI)) (ci := 1) (v := .ref q1) (C := R_Tr) (T := F_Tr) (N := 4) hx hb hts (rg_c i_Tr) hown hK hP 0 rfl rfl 0 (by decide) (hts _ (List.mem_cons_of_mem _ m_27)) (fun _ h9 => h9) rfl d_Tr_clear_1 ?_
  refine lv_iconst (v := nI 0) hx hb d_Tr_clear_4 (by decide) ?_
  have hPc := hP.sub (ws' := [(q1, .inl (dA, 1024, .inl f))]) [1] rfl
  have hDc := hD.sub (ws' := [(q1, .inl (dA, 1024, .inl f))]) [1] (by decide) rfl
  have hFc := va_free (wc := [(q1, .inl (dA, 1024, .inl f))]) hD hS hA [1] rfl
  refine va_callv (va_runS (As := [.ref q1, .int (nI 0)]) (rest := []) ⟨hx, hb, hml, hown, hts⟩ (c_Ar_fill l dC dI dA q1 1024 f (nI 0) s.heap.size (by decide)) (va_cwS 2 hts (rg_S (rg3 m_168 m_169 m_7) k_Ar_fill) rfl rfl rfl (by decide +kernel) ⟨Nat.le_of_ble_eq_true rfl, Nat.le_of_ble_eq_true rfl⟩) ⟨fun a U g mk q => ⟨q.1, q.2.1, q.2.2.1, va_K.moved (u := U) (U := U.calling g mk a) (Vm.Alike.refl U.vm) q.2.2.2.1, q.2.2.2.2⟩, fun U hU hW => ⟨rfl, by rw [hU], by rw [hU]; exact hPc, va_K.moved hW.alike hK, hDc.weaken (fun _ _ _ _ => trivial)⟩⟩ rfl rfl hl.1 rfl (lv_room (Nat.le_of_ble_eq_true rfl)) d_Tr_clear_5 ⟨Nat.zero_le _, Nat.zero_le _⟩) hS (fun q _ h => hFc q h) hFc (fun u t H1 locs ht hvm hw hB hz1 hk1 hS => ?_)
  obtain ⟨hP1, hD1⟩ := hB
  rw [ht] at hP1
  obtain ⟨hP, hD⟩ := va_join (wr := [(h0, .inr (1, [.ref q1, .ref q2, .ref q3, .int al])), (q2, .inl (dA, 32, .inl g)), (q3, .inl (dA, 32, .inl hh))]) (w1 := [(q1, .inl (dA, 1024, .inl (fun _ => nI 0)))]) hP hD [1] [0, 2, 3] rfl rfl (by decide) (by decide) hk1 hFc hP1 hD1
  clear hk1 hFc hPc hDc hP1 hD1
  generalize H1 = H at hP hS ⊢
  have hP : va_P (dC, dI) classes [(h0, .inr (1, [.ref q1, .ref q2, .ref q3, .int al])), (q1, .inl (dA, 1024, .inl (fun _ => nI 0))), (q2, .inl (dA, 32, .inl g)), (q3, .inl (dA, 32, .inl hh))] H := hP.sub [0, 3, 1, 2] rfl
  have hD : va_D A [(h0, .inr (1, [.ref q1, .ref q2, .ref q3, .int al])), (q1, .inl (dA, 1024, .inl (fun _ => nI 0))), (q2, .inl (dA, 32, .inl g)), (q3, .inl (dA, 32, .inl hh))] := hD.sub [0, 3, 1, 2] (by decide) rfl
  refine lv_aload_n hx hb d_Tr_clear_8 rfl (lv_at hl 0 rfl) ?_
  refine va_get (D := (dC, dI)) (ci := 1) (v := .ref q2) (C := R_Tr) (T := F_Tr) (N := 4) hx hb hts (rg_c i_Tr) hown hK hP 0 rfl rfl 1 (by decide) (hts _ (List.mem_cons_of_mem _ m_28)) (fun _ h9 => h9) rfl d_Tr_clear_9 ?_
  refine lv_iconst (v := nI 0) hx hb d_Tr_clear_12 (by decide) ?_
  have hPc := hP.sub (ws' := [(q2, .inl (dA, 32, .inl g))]) [2] rfl
  have hDc := hD.sub (ws' := [(q2, .inl (dA, 32, .inl g))]) [2] (by decide) rfl
  have hFc := va_free (wc := [(q2, .inl (dA, 32, .inl g))]) hD hS hA [2] rfl
  refine va_callv (va_runS (As := [.ref q2, .int (nI 0)]) (rest := []) ⟨hx, hb, hml, hown, hts⟩ (c_Ar_fill l dC dI dA q2 32 g (nI 0) H.size (by decide)) (va_cwS 2 hts (rg_S (rg3 m_168 m_169 m_7) k_Ar_fill) rfl rfl rfl (by decide +kernel) ⟨Nat.le_of_ble_eq_true rfl, Nat.le_of_ble_eq_true rfl⟩) ⟨fun a U g mk q => ⟨q.1, q.2.1, q.2.2.1, va_K.moved (u := U) (U := U.calling g mk a) (Vm.Alike.refl U.vm) q.2.2.2.1, q.2.2.2.2⟩, fun U hU hW => ⟨rfl, by rw [hU], by rw [hU]; exact hPc, va_K.moved hW.alike hK, hDc.weaken (fun _ _ _ _ => trivial)⟩⟩ rfl rfl hl.1 rfl (lv_room (Nat.le_of_ble_eq_true rfl)) d_Tr_clear_13 ⟨Nat.zero_le _, Nat.zero_le _⟩) hS (fun q _ h => hFc q h) hFc (fun u t H1 locs ht hvm hw hB hz1 hk1 hS => ?_)
  obtain ⟨hP1, hD1⟩ := hB
  rw [ht] at hP1
  obtain ⟨hP, hD⟩ := va_join (wr := [(h0, .inr (1, [.ref q1, .ref q2, .ref q3, .int al])), (q1, .inl (dA, 1024, .inl (fun _ => nI 0))), (q3, .inl (dA, 32, .inl hh))]) (w1 := [(q2, .inl (dA, 32, .inl (fun _ => nI 0)))]) hP hD [2] [0, 1, 3] rfl rfl (by decide) (by decide) hk1 hFc hP1 hD1
  clear hk1 hFc hPc hDc hP1 hD1
  generalize H1 = H at hP hS ⊢
  have hP : va_P (dC, dI) classes [(h0, .inr (1, [.ref q1, .ref q2, .ref q3, .int al])), (q1, .inl (dA, 1024, .inl (fun _ => nI 0))), (q2, .inl (dA, 32, .inl (fun _ => nI 0))), (q3, .inl (dA, 32, .inl hh))] H := hP.sub [0, 1, 3, 2] rfl
  have hD : va_D A [(h0, .inr (1, [.ref q1, .ref q2, .ref q3, .int al])), (q1, .inl (dA, 1024, .inl (fun _ => nI 0))), (q2, .inl (dA, 32, .inl (fun _ => nI 0))), (q3, .inl (dA, 32, .inl hh))] := hD.sub [0, 1, 3, 2] (by decide) rfl
  refine lv_aload_n hx hb d_Tr_clear_16 rfl (lv_at hl 0 rfl) ?_
  refine va_get (D := (dC, dI)) (ci := 1) (v := .ref q3) (C := R_Tr) (T := F_Tr) (N := 4) hx hb hts (rg_c i_Tr) hown hK hP 0 rfl rfl 2 (by decide) (hts _ (List.mem_cons_of_mem _ m_29)) (fun _ h9 => h9) rfl d_Tr_clear_17 ?_
  refine lv_iconst (v := nI 0) hx hb d_Tr_clear_20 (by decide) ?_
  have hPc := hP.sub (ws' := [(q3, .inl (dA, 32, .inl hh))]) [3] rfl
  have hDc := hD.sub (ws' := [(q3, .inl (dA, 32, .inl hh))]) [3] (by decide) rfl
  have hFc := va_free (wc := [(q3, .inl (dA, 32, .inl hh))]) hD hS hA [3] rfl
  refine va_callv (va_runS (As := [.ref q3, .int (nI 0)]) (rest := []) ⟨hx, hb, hml, hown, hts⟩ (c_Ar_fill l dC dI dA q3 32 hh (nI 0) H.size (by decide)) (va_cwS 2 hts (rg_S (rg3 m_168 m_169 m_7) k_Ar_fill) rfl rfl rfl (by decide +kernel) ⟨Nat.le_of_ble_eq_true rfl, Nat.le_of_ble_eq_true rfl⟩) ⟨fun a U g mk q => ⟨q.1, q.2.1, q.2.2.1, va_K.moved (u := U) (U := U.calling g mk a) (Vm.Alike.refl U.vm) q.2.2.2.1, q.2.2.2.2⟩, fun U hU hW => ⟨rfl, by rw [hU], by rw [hU]; exact hPc, va_K.moved hW.alike hK, hDc.weaken (fun _ _ _ _ => trivial)⟩⟩ rfl rfl hl.1 rfl (lv_room (Nat.le_of_ble_eq_true rfl)) d_Tr_clear_21 ⟨Nat.zero_le _, Nat.zero_le _⟩) hS (fun q _ h => hFc q h) hFc (fun u t H1 locs ht hvm hw hB hz1 hk1 hS => ?_)
  obtain ⟨hP1, hD1⟩ := hB
  rw [ht] at hP1
  obtain ⟨hP, hD⟩ := va_join (wr := [(h0, .inr (1, [.ref q1, .ref q2, .ref q3, .int al])), (q1, .inl (dA, 1024, .inl (fun _ => nI 0))), (q2, .inl (dA, 32, .inl (fun _ => nI 0)))]) (w1 := [(q3, .inl (dA, 32, .inl (fun _ => nI 0)))]) hP hD [3] [0, 1, 2] rfl rfl (by decide) (by decide) hk1 hFc hP1 hD1
  clear hk1 hFc hPc hDc hP1 hD1
  generalize H1 = H at hP hS ⊢
  have hP : va_P (dC, dI) classes [(h0, .inr (1, [.ref q1, .ref q2, .ref q3, .int al])), (q1, .inl (dA, 1024, .inl (fun _ => nI 0))), (q2, .inl (dA, 32, .inl (fun _ => nI 0))), (q3, .inl (dA, 32, .inl (fun _ => nI 0)))] H := hP.sub [0, 1, 2, 3] rfl
  have hD : va_D A [(h0, .inr (1, [.ref q1, .ref q2, .ref q3, .int al])), (q1, .inl (dA, 1024, .inl (fun _ => nI 0))), (q2, .inl (dA, 32, .inl (fun _ => nI 0))), (q3, .inl (dA, 32, .inl (fun _ => nI 0)))] := hD.sub [0, 1, 2, 3] (by decide) rfl
  refine lv_aload_n hx hb d_Tr_clear_24 rfl (lv_at hl 0 rfl) ?_
  refine lv_iconst (v := nI 0) hx hb d_Tr_clear_25 (by decide) ?_
  refine va_put (D := (dC, dI)) (ci := 1) (v := .int (nI 0)) (ty := .int) (C := R_Tr) (T := F_Tr) (N := 4) hx hb hts (rg_c i_Tr) t_Tr t_Tr_ok n_Tr hown hK hP hD hS 0 rfl rfl 3 (by decide) (hts _ (List.mem_cons_of_mem _ m_30)) (fun _ h9 => h9) rfl (by decide +kernel) (by rfl) (by rfl) (Nat.le_of_ble_eq_true rfl) d_Tr_clear_26 (fun H locs hP hD hS => ?_)
  have hP : va_P (dC, dI) classes [(h0, .inr (1, [.ref q1, .ref q2, .ref q3, .int (nI 0)])), (q1, .inl (dA, 1024, .inl (fun _ => nI 0))), (q2, .inl (dA, 32, .inl (fun _ => nI 0))), (q3, .inl (dA, 32, .inl (fun _ => nI 0)))] H := hP
  have hD : va_D A [(h0, .inr (1, [.ref q1, .ref q2, .ref q3, .int (nI 0)])), (q1, .inl (dA, 1024, .inl (fun _ => nI 0))), (q2, .inl (dA, 32, .inl (fun _ => nI 0))), (q3, .inl (dA, 32, .inl (fun _ => nI 0)))] := hD
  exact W.vret hx hb hr (fun t ht hW => ⟨⟨(), rfl, trivial, by rw [ht]; exact hP, hD⟩, hS.F ht⟩) hS.2.2 d_Tr_clear_29

set_option maxHeartbeats 4000000 in
set_option maxRecDepth 100000 in
theorem c_Tr_subjectsFor (l : Launch) (dC : Nat → ClassId) (dI : Nat → Nat → Nat) (dA : ClassId) (h0 q1 q2 q3 : Nat) (f g hh : Nat → Int32) (al : Int32) (ks kp : Option Nat) (hks : ∀ x, ks = some x → x < 32) (hkp : ∀ x, kp = some x → x < 32) : Met l y_Tr_subjectsFor (w_ y_Tr_subjectsFor b_Tr_subjectsFor 3 (some .int)) (rm_ 1) (va_Pc [.ref h0, .int (rt_i ks), .int (rt_i kp)] (fun U => va_K (dC, dI) classes [(dA, .int)] U ∧ va_P (dC, dI) classes [(h0, .inr (1, [.ref q1, .ref q2, .ref q3, .int al])), (q1, .inl (dA, 1024, .inl f)), (q2, .inl (dA, 32, .inl g)), (q3, .inl (dA, 32, .inl hh))] U.heap ∧ rn_ U)) (va_Qi (fun (z9 : Int32) (_ : Unit) => z9 = rx_ss g al ks kp) (fun _ _ => True) (fun _ => False)) 0 0 (fun _ => False) := by
  refine Met.ofW (cc := b_Tr_subjectsFor) (maxL := 3) (ret := (some .int)) (by decide) rfl ?_
  intro p e s m args below meth c s₁ B hml hv
  obtain ⟨rfl, hK, hP, hN⟩ := hv
  have hx := B.exec
  have hb := B.bytes
  have hr := B.returns
  have hts := atoms_spec (ws := (w_ y_Tr_subjectsFor b_Tr_subjectsFor 3 (some .int))) B.pre
  have hown : s.vm.findClass R_Tr = some m.cls := findClass_of_methodNamed B.named
  have hlocks := B.notSynchronized
  have hS : va_S (fun _ => False) s.heap s.heap [] := va_S.rf
  have hl := lv_entry ([.ref h0, .int (rt_i ks), .int (rt_i kp)]) (n := 3) (Nat.le_of_ble_eq_true rfl)
  rw [lg_entry_eq]
  generalize (lg_sl ([.ref h0, .int (rt_i ks), .int (rt_i kp)]) ++ List.replicate (3 - (lg_sl ([.ref h0, .int (rt_i ks), .int (rt_i kp)])).length) Slot.unset).toArray = ls at hl ⊢
  have hl : lv_has ls 3 [(0, .ref h0), (1, .int (rt_i ks)), (2, .int (rt_i kp))] := hl
  rcases ks with _ | s0
  · have hl : lv_has ls 3 [(0, .ref h0), (1, .int (-1)), (2, .int (rt_i kp))] := hl
    rcases kp with _ | p0
    · have hl : lv_has ls 3 [(0, .ref h0), (1, .int (-1)), (2, .int (-1))] := hl
      refine lv_iload_n hx hb d_Tr_subjectsFor_0 rfl (lv_at hl 1 rfl) ?_
      refine rv_calli (r := rc_tm (-1)) (va_runSN (As := [.int (-1)]) (rest := []) ⟨hx, hb, hml, hown, hts⟩ (c_Rl_isTerm l (-1)) ⟨va_cnB 1 hts (rg_G k_Rl_isTerm) rfl rfl rfl (hN _ rn_3) (hts _ (List.mem_cons_of_mem _ m_1)) (by decide +kernel) ⟨Nat.le_of_ble_eq_true rfl, Nat.le_of_ble_eq_true rfl⟩, hts _ (List.mem_cons_of_mem _ m_132), trivial⟩ ⟨fun _ _ _ _ q => q, fun U hU hW => ⟨rfl, trivial⟩⟩ rfl rfl hl.1 rfl (lv_room (Nat.le_of_ble_eq_true rfl)) d_Tr_subjectsFor_1 ⟨Nat.zero_le _, Nat.zero_le _⟩) hS (fun _ h => h.elim) (fun H locs hk hS => ?_)
      have hP := rv_kept hP hk
      refine rv_eq (y := nI 0) (rc_tm_m1) ?_
      refine rv_if_eq (tgt := 11) hx hb d_Tr_subjectsFor_4 (by decide) (by omega) (fun c_4 => ?_) (fun c_4 => absurd c_4 (by omega))
      refine lv_iload_n hx hb d_Tr_subjectsFor_11 rfl (lv_at hl 2 rfl) ?_
      refine rv_calli (r := rc_tm (-1)) (va_runSN (As := [.int (-1)]) (rest := []) ⟨hx, hb, hml, hown, hts⟩ (c_Rl_isTerm l (-1)) ⟨va_cnB 1 hts (rg_G k_Rl_isTerm) rfl rfl rfl (hN _ rn_3) (hts _ (List.mem_cons_of_mem _ m_1)) (by decide +kernel) ⟨Nat.le_of_ble_eq_true rfl, Nat.le_of_ble_eq_true rfl⟩, hts _ (List.mem_cons_of_mem _ m_132), trivial⟩ ⟨fun _ _ _ _ q => q, fun U hU hW => ⟨rfl, trivial⟩⟩ rfl rfl hl.1 rfl (lv_room (Nat.le_of_ble_eq_true rfl)) d_Tr_subjectsFor_12 ⟨Nat.zero_le _, Nat.zero_le _⟩) hS (fun _ h => h.elim) (fun H locs hk hS => ?_)
      have hP := rv_kept hP hk
      refine rv_eq (y := nI 0) (rc_tm_m1) ?_
      refine rv_if_eq (tgt := 27) hx hb d_Tr_subjectsFor_15 (by decide) (by omega) (fun c_15 => ?_) (fun c_15 => absurd c_15 (by omega))
      refine lv_aload_n hx hb d_Tr_subjectsFor_27 rfl (lv_at hl 0 rfl) ?_
      refine va_get (D := (dC, dI)) (ci := 1) (v := .int al) (C := R_Tr) (T := F_Tr) (N := 4) hx hb hts (rg_c i_Tr) hown hK hP 0 rfl rfl 3 (by decide) (hts _ (List.mem_cons_of_mem _ m_30)) (fun _ h9 => h9) rfl d_Tr_subjectsFor_28 ?_
      exact W.iret (v := al) hx hb hr (fun t ht hW => ⟨⟨al, (), rfl, rfl, trivial⟩, hS.F ht⟩) hS.2.2 d_Tr_subjectsFor_31
    · have hkpx := hkp p0 rfl
      have hl : lv_has ls 3 [(0, .ref h0), (1, .int (-1)), (2, .int (nI p0))] := hl
      refine lv_iload_n hx hb d_Tr_subjectsFor_0 rfl (lv_at hl 1 rfl) ?_
      refine rv_calli (r := rc_tm (-1)) (va_runSN (As := [.int (-1)]) (rest := []) ⟨hx, hb, hml, hown, hts⟩ (c_Rl_isTerm l (-1)) ⟨va_cnB 1 hts (rg_G k_Rl_isTerm) rfl rfl rfl (hN _ rn_3) (hts _ (List.mem_cons_of_mem _ m_1)) (by decide +kernel) ⟨Nat.le_of_ble_eq_true rfl, Nat.le_of_ble_eq_true rfl⟩, hts _ (List.mem_cons_of_mem _ m_132), trivial⟩ ⟨fun _ _ _ _ q => q, fun U hU hW => ⟨rfl, trivial⟩⟩ rfl rfl hl.1 rfl (lv_room (Nat.le_of_ble_eq_true rfl)) d_Tr_subjectsFor_1 ⟨Nat.zero_le _, Nat.zero_le _⟩) hS (fun _ h => h.elim) (fun H locs hk hS => ?_)
      have hP := rv_kept hP hk
      refine rv_eq (y := nI 0) (rc_tm_m1) ?_
      refine rv_if_eq (tgt := 11) hx hb d_Tr_subjectsFor_4 (by decide) (by omega) (fun c_4 => ?_) (fun c_4 => absurd c_4 (by omega))
      refine lv_iload_n hx hb d_Tr_subjectsFor_11 rfl (lv_at hl 2 rfl) ?_
      refine rv_calli (r := rc_tm (nI p0)) (va_runSN (As := [.int (nI p0)]) (rest := []) ⟨hx, hb, hml, hown, hts⟩ (c_Rl_isTerm l (nI p0)) ⟨va_cnB 1 hts (rg_G k_Rl_isTerm) rfl rfl rfl (hN _ rn_3) (hts _ (List.mem_cons_of_mem _ m_1)) (by decide +kernel) ⟨Nat.le_of_ble_eq_true rfl, Nat.le_of_ble_eq_true rfl⟩, hts _ (List.mem_cons_of_mem _ m_132), trivial⟩ ⟨fun _ _ _ _ q => q, fun U hU hW => ⟨rfl, trivial⟩⟩ rfl rfl hl.1 rfl (lv_room (Nat.le_of_ble_eq_true rfl)) d_Tr_subjectsFor_12 ⟨Nat.zero_le _, Nat.zero_le _⟩) hS (fun _ h => h.elim) (fun H locs hk hS => ?_)
      have hP := rv_kept hP hk
      refine rv_eq (y := nI 1) (rc_tm_nI (by omega)) ?_
      refine rv_if_eq (tgt := 27) hx hb d_Tr_subjectsFor_15 (by decide) (by omega) (fun c_15 => absurd c_15 (by omega)) (fun c_15 => ?_)
      refine lv_aload_n hx hb d_Tr_subjectsFor_18 rfl (lv_at hl 0 rfl) ?_
      refine va_get (D := (dC, dI)) (ci := 1) (v := .ref q2) (C := R_Tr) (T := F_Tr) (N := 4) hx hb hts (rg_c i_Tr) hown hK hP 0 rfl rfl 1 (by decide) (hts _ (List.mem_cons_of_mem _ m_28)) (fun _ h9 => h9) rfl d_Tr_subjectsFor_19 ?_
      refine lv_iload_n hx hb d_Tr_subjectsFor_22 rfl (lv_at hl 2 rfl) ?_
      refine rv_ald (k := p0) hx hb hK hP 2 0 rfl rfl (by omega) (by decide) d_Tr_subjectsFor_23 ?_
      refine lv_goto (tgt := 31) hx hb d_Tr_subjectsFor_24 (by decide) ?_
      exact W.iret (v := g p0) hx hb hr (fun t ht hW => ⟨⟨g p0, (), rfl, rfl, trivial⟩, hS.F ht⟩) hS.2.2 d_Tr_subjectsFor_31
  · have hksx := hks s0 rfl
    have hl : lv_has ls 3 [(0, .ref h0), (1, .int (nI s0)), (2, .int (rt_i kp))] := hl
    rcases kp with _ | p0
    · have hl : lv_has ls 3 [(0, .ref h0), (1, .int (nI s0)), (2, .int (-1))] := hl
      refine lv_iload_n hx hb d_Tr_subjectsFor_0 rfl (lv_at hl 1 rfl) ?_
      refine rv_calli (r := rc_tm (nI s0)) (va_runSN (As := [.int (nI s0)]) (rest := []) ⟨hx, hb, hml, hown, hts⟩ (c_Rl_isTerm l (nI s0)) ⟨va_cnB 1 hts (rg_G k_Rl_isTerm) rfl rfl rfl (hN _ rn_3) (hts _ (List.mem_cons_of_mem _ m_1)) (by decide +kernel) ⟨Nat.le_of_ble_eq_true rfl, Nat.le_of_ble_eq_true rfl⟩, hts _ (List.mem_cons_of_mem _ m_132), trivial⟩ ⟨fun _ _ _ _ q => q, fun U hU hW => ⟨rfl, trivial⟩⟩ rfl rfl hl.1 rfl (lv_room (Nat.le_of_ble_eq_true rfl)) d_Tr_subjectsFor_1 ⟨Nat.zero_le _, Nat.zero_le _⟩) hS (fun _ h => h.elim) (fun H locs hk hS => ?_)
      have hP := rv_kept hP hk
      refine rv_eq (y := nI 1) (rc_tm_nI (by omega)) ?_
      refine rv_if_eq (tgt := 11) hx hb d_Tr_subjectsFor_4 (by decide) (by omega) (fun c_4 => absurd c_4 (by omega)) (fun c_4 => ?_)
      refine lv_iconst (v := nI 1) hx hb d_Tr_subjectsFor_7 (by decide) ?_
      refine lv_iload_n hx hb d_Tr_subjectsFor_8 rfl (lv_at hl 1 rfl) ?_
      refine lv_ishl hx hb d_Tr_subjectsFor_9 ?_
      exact W.iret (v := (nI 1) <<< ((nI s0) &&& 31)) hx hb hr (fun t ht hW => ⟨⟨(nI 1) <<< ((nI s0) &&& 31), (), rfl, rfl, trivial⟩, hS.F ht⟩) hS.2.2 d_Tr_subjectsFor_10
    · have hkpx := hkp p0 rfl
      have hl : lv_has ls 3 [(0, .ref h0), (1, .int (nI s0)), (2, .int (nI p0))] := hl
      refine lv_iload_n hx hb d_Tr_subjectsFor_0 rfl (lv_at hl 1 rfl) ?_
      refine rv_calli (r := rc_tm (nI s0)) (va_runSN (As := [.int (nI s0)]) (rest := []) ⟨hx, hb, hml, hown, hts⟩ (c_Rl_isTerm l (nI s0)) ⟨va_cnB 1 hts (rg_G k_Rl_isTerm) rfl rfl rfl (hN _ rn_3) (hts _ (List.mem_cons_of_mem _ m_1)) (by decide +kernel) ⟨Nat.le_of_ble_eq_true rfl, Nat.le_of_ble_eq_true rfl⟩, hts _ (List.mem_cons_of_mem _ m_132), trivial⟩ ⟨fun _ _ _ _ q => q, fun U hU hW => ⟨rfl, trivial⟩⟩ rfl rfl hl.1 rfl (lv_room (Nat.le_of_ble_eq_true rfl)) d_Tr_subjectsFor_1 ⟨Nat.zero_le _, Nat.zero_le _⟩) hS (fun _ h => h.elim) (fun H locs hk hS => ?_)
      have hP := rv_kept hP hk
      refine rv_eq (y := nI 1) (rc_tm_nI (by omega)) ?_
      refine rv_if_eq (tgt := 11) hx hb d_Tr_subjectsFor_4 (by decide) (by omega) (fun c_4 => absurd c_4 (by omega)) (fun c_4 => ?_)
      refine lv_iconst (v := nI 1) hx hb d_Tr_subjectsFor_7 (by decide) ?_
      refine lv_iload_n hx hb d_Tr_subjectsFor_8 rfl (lv_at hl 1 rfl) ?_
      refine lv_ishl hx hb d_Tr_subjectsFor_9 ?_
      exact W.iret (v := (nI 1) <<< ((nI s0) &&& 31)) hx hb hr (fun t ht hW => ⟨⟨(nI 1) <<< ((nI s0) &&& 31), (), rfl, rfl, trivial⟩, hS.F ht⟩) hS.2.2 d_Tr_subjectsFor_10

set_option maxHeartbeats 4000000 in
set_option maxRecDepth 100000 in
theorem c_Tr_predicatesFor (l : Launch) (dC : Nat → ClassId) (dI : Nat → Nat → Nat) (dA : ClassId) (h0 q1 q2 q3 : Nat) (f g hh : Nat → Int32) (al : Int32) (s0 : Nat) (kp : Option Nat) (hs0 : s0 < 32) (hkp : ∀ x, kp = some x → x < 32) : Met l y_Tr_predicatesFor (w_ y_Tr_predicatesFor b_Tr_predicatesFor 3 (some .int)) (rm_ 1) (va_Pc [.ref h0, .int (nI s0), .int (rt_i kp)] (fun U => va_K (dC, dI) classes [(dA, .int)] U ∧ va_P (dC, dI) classes [(h0, .inr (1, [.ref q1, .ref q2, .ref q3, .int al])), (q1, .inl (dA, 1024, .inl f)), (q2, .inl (dA, 32, .inl g)), (q3, .inl (dA, 32, .inl hh))] U.heap ∧ rn_ U)) (va_Qi (fun (z9 : Int32) (_ : Unit) => z9 = rx_ps hh s0 kp) (fun _ _ => True) (fun _ => False)) 0 0 (fun _ => False) := by
  refine Met.ofW (cc := b_Tr_predicatesFor) (maxL := 3) (ret := (some .int)) (by decide) rfl ?_
  intro p e s m args below meth c s₁ B hml hv
  obtain ⟨rfl, hK, hP, hN⟩ := hv
  have hx := B.exec
  have hb := B.bytes
  have hr := B.returns
  have hts := atoms_spec (ws := (w_ y_Tr_predicatesFor b_Tr_predicatesFor 3 (some .int))) B.pre
  have hown : s.vm.findClass R_Tr = some m.cls := findClass_of_methodNamed B.named
  have hlocks := B.notSynchronized
  have hS : va_S (fun _ => False) s.heap s.heap [] := va_S.rf
  have hl := lv_entry ([.ref h0, .int (nI s0), .int (rt_i kp)]) (n := 3) (Nat.le_of_ble_eq_true rfl)
  rw [lg_entry_eq]
  generalize (lg_sl ([.ref h0, .int (nI s0), .int (rt_i kp)]) ++ List.replicate (3 - (lg_sl ([.ref h0, .int (nI s0), .int (rt_i kp)])).length) Slot.unset).toArray = ls at hl ⊢
  have hl : lv_has ls 3 [(0, .ref h0), (1, .int (nI s0)), (2, .int (rt_i kp))] := hl
  rcases kp with _ | p0
  · have hl : lv_has ls 3 [(0, .ref h0), (1, .int (nI s0)), (2, .int (-1))] := hl
    refine lv_iload_n hx hb d_Tr_predicatesFor_0 rfl (lv_at hl 2 rfl) ?_
    refine rv_calli (r := rc_tm (-1)) (va_runSN (As := [.int (-1)]) (rest := []) ⟨hx, hb, hml, hown, hts⟩ (c_Rl_isTerm l (-1)) ⟨va_cnB 1 hts (rg_G k_Rl_isTerm) rfl rfl rfl (hN _ rn_3) (hts _ (List.mem_cons_of_mem _ m_1)) (by decide +kernel) ⟨Nat.le_of_ble_eq_true rfl, Nat.le_of_ble_eq_true rfl⟩, hts _ (List.mem_cons_of_mem _ m_132), trivial⟩ ⟨fun _ _ _ _ q => q, fun U hU hW => ⟨rfl, trivial⟩⟩ rfl rfl hl.1 rfl (lv_room (Nat.le_of_ble_eq_true rfl)) d_Tr_predicatesFor_1 ⟨Nat.zero_le _, Nat.zero_le _⟩) hS (fun _ h => h.elim) (fun H locs hk hS => ?_)
    have hP := rv_kept hP hk
    refine rv_eq (y := nI 0) (rc_tm_m1) ?_
    refine rv_if_eq (tgt := 11) hx hb d_Tr_predicatesFor_4 (by decide) (by omega) (fun c_4 => ?_) (fun c_4 => absurd c_4 (by omega))
    refine lv_iload_n hx hb d_Tr_predicatesFor_11 rfl (lv_at hl 1 rfl) ?_
    refine rv_calli (r := rc_tm (nI s0)) (va_runSN (As := [.int (nI s0)]) (rest := []) ⟨hx, hb, hml, hown, hts⟩ (c_Rl_isTerm l (nI s0)) ⟨va_cnB 1 hts (rg_G k_Rl_isTerm) rfl rfl rfl (hN _ rn_3) (hts _ (List.mem_cons_of_mem _ m_1)) (by decide +kernel) ⟨Nat.le_of_ble_eq_true rfl, Nat.le_of_ble_eq_true rfl⟩, hts _ (List.mem_cons_of_mem _ m_132), trivial⟩ ⟨fun _ _ _ _ q => q, fun U hU hW => ⟨rfl, trivial⟩⟩ rfl rfl hl.1 rfl (lv_room (Nat.le_of_ble_eq_true rfl)) d_Tr_predicatesFor_12 ⟨Nat.zero_le _, Nat.zero_le _⟩) hS (fun _ h => h.elim) (fun H locs hk hS => ?_)
    have hP := rv_kept hP hk
    refine rv_eq (y := nI 1) (rc_tm_nI (by omega)) ?_
    refine rv_if_eq (tgt := 27) hx hb d_Tr_predicatesFor_15 (by decide) (by omega) (fun c_15 => absurd c_15 (by omega)) (fun c_15 => ?_)
    refine lv_aload_n hx hb d_Tr_predicatesFor_18 rfl (lv_at hl 0 rfl) ?_
    refine va_get (D := (dC, dI)) (ci := 1) (v := .ref q3) (C := R_Tr) (T := F_Tr) (N := 4) hx hb hts (rg_c i_Tr) hown hK hP 0 rfl rfl 2 (by decide) (hts _ (List.mem_cons_of_mem _ m_29)) (fun _ h9 => h9) rfl d_Tr_predicatesFor_19 ?_
    refine lv_iload_n hx hb d_Tr_predicatesFor_22 rfl (lv_at hl 1 rfl) ?_
    refine rv_ald (k := s0) hx hb hK hP 3 0 rfl rfl (by omega) (by decide) d_Tr_predicatesFor_23 ?_
    refine lv_goto (tgt := 28) hx hb d_Tr_predicatesFor_24 (by decide) ?_
    exact W.iret (v := hh s0) hx hb hr (fun t ht hW => ⟨⟨hh s0, (), rfl, rfl, trivial⟩, hS.F ht⟩) hS.2.2 d_Tr_predicatesFor_28
  · have hkpx := hkp p0 rfl
    have hl : lv_has ls 3 [(0, .ref h0), (1, .int (nI s0)), (2, .int (nI p0))] := hl
    refine lv_iload_n hx hb d_Tr_predicatesFor_0 rfl (lv_at hl 2 rfl) ?_
    refine rv_calli (r := rc_tm (nI p0)) (va_runSN (As := [.int (nI p0)]) (rest := []) ⟨hx, hb, hml, hown, hts⟩ (c_Rl_isTerm l (nI p0)) ⟨va_cnB 1 hts (rg_G k_Rl_isTerm) rfl rfl rfl (hN _ rn_3) (hts _ (List.mem_cons_of_mem _ m_1)) (by decide +kernel) ⟨Nat.le_of_ble_eq_true rfl, Nat.le_of_ble_eq_true rfl⟩, hts _ (List.mem_cons_of_mem _ m_132), trivial⟩ ⟨fun _ _ _ _ q => q, fun U hU hW => ⟨rfl, trivial⟩⟩ rfl rfl hl.1 rfl (lv_room (Nat.le_of_ble_eq_true rfl)) d_Tr_predicatesFor_1 ⟨Nat.zero_le _, Nat.zero_le _⟩) hS (fun _ h => h.elim) (fun H locs hk hS => ?_)
    have hP := rv_kept hP hk
    refine rv_eq (y := nI 1) (rc_tm_nI (by omega)) ?_
    refine rv_if_eq (tgt := 11) hx hb d_Tr_predicatesFor_4 (by decide) (by omega) (fun c_4 => absurd c_4 (by omega)) (fun c_4 => ?_)
    refine lv_iconst (v := nI 1) hx hb d_Tr_predicatesFor_7 (by decide) ?_
    refine lv_iload_n hx hb d_Tr_predicatesFor_8 rfl (lv_at hl 2 rfl) ?_
    refine lv_ishl hx hb d_Tr_predicatesFor_9 ?_
    exact W.iret (v := (nI 1) <<< ((nI p0) &&& 31)) hx hb hr (fun t ht hW => ⟨⟨(nI 1) <<< ((nI p0) &&& 31), (), rfl, rfl, trivial⟩, hS.F ht⟩) hS.2.2 d_Tr_predicatesFor_10

set_option maxHeartbeats 4000000 in
set_option maxRecDepth 100000 in
theorem c_Tr_objectsFor (l : Launch) (dC : Nat → ClassId) (dI : Nat → Nat → Nat) (dA : ClassId) (h0 q1 q2 q3 : Nat) (f g hh : Nat → Int32) (al : Int32) (s0 p0 : Nat) (ko : Option Nat) (hs0 : s0 < 32) (hp0 : p0 < 32) (hko : ∀ x, ko = some x → x < 32) : Met l y_Tr_objectsFor (w_ y_Tr_objectsFor b_Tr_objectsFor 5 (some .int)) (rm_ 1) (va_Pc [.ref h0, .int (nI s0), .int (nI p0), .int (rt_i ko)] (fun U => va_K (dC, dI) classes [(dA, .int)] U ∧ va_P (dC, dI) classes [(h0, .inr (1, [.ref q1, .ref q2, .ref q3, .int al])), (q1, .inl (dA, 1024, .inl f)), (q2, .inl (dA, 32, .inl g)), (q3, .inl (dA, 32, .inl hh))] U.heap ∧ rn_ U)) (va_Qi (fun (z9 : Int32) (_ : Unit) => z9 = rx_os f s0 p0 ko) (fun _ _ => True) (fun _ => False)) 0 0 (fun _ => False) := by
  refine Met.ofW (cc := b_Tr_objectsFor) (maxL := 5) (ret := (some .int)) (by decide) rfl ?_
  intro p e s m args below meth c s₁ B hml hv
  obtain ⟨rfl, hK, hP, hN⟩ := hv
  have hx := B.exec
  have hb := B.bytes
  have hr := B.returns
  have hts := atoms_spec (ws := (w_ y_Tr_objectsFor b_Tr_objectsFor 5 (some .int))) B.pre
  have hown : s.vm.findClass R_Tr = some m.cls := findClass_of_methodNamed B.named
  have hlocks := B.notSynchronized
  have hS : va_S (fun _ => False) s.heap s.heap [] := va_S.rf
  have hl := lv_entry ([.ref h0, .int (nI s0), .int (nI p0), .int (rt_i ko)]) (n := 5) (Nat.le_of_ble_eq_true rfl)
  rw [lg_entry_eq]
  generalize (lg_sl ([.ref h0, .int (nI s0), .int (nI p0), .int (rt_i ko)]) ++ List.replicate (5 - (lg_sl ([.ref h0, .int (nI s0), .int (nI p0), .int (rt_i ko)])).length) Slot.unset).toArray = ls at hl ⊢
  have hl : lv_has ls 5 [(0, .ref h0), (1, .int (nI s0)), (2, .int (nI p0)), (3, .int (rt_i ko))] := hl
  rcases ko with _ | o0
  · have hl : lv_has ls 5 [(0, .ref h0), (1, .int (nI s0)), (2, .int (nI p0)), (3, .int (-1))] := hl
    refine lv_iload_n hx hb d_Tr_objectsFor_0 rfl (lv_at hl 1 rfl) ?_
    refine rv_calli (r := rc_tm (nI s0)) (va_runSN (As := [.int (nI s0)]) (rest := []) ⟨hx, hb, hml, hown, hts⟩ (c_Rl_isTerm l (nI s0)) ⟨va_cnB 1 hts (rg_G k_Rl_isTerm) rfl rfl rfl (hN _ rn_3) (hts _ (List.mem_cons_of_mem _ m_1)) (by decide +kernel) ⟨Nat.le_of_ble_eq_true rfl, Nat.le_of_ble_eq_true rfl⟩, hts _ (List.mem_cons_of_mem _ m_132), trivial⟩ ⟨fun _ _ _ _ q => q, fun U hU hW => ⟨rfl, trivial⟩⟩ rfl rfl hl.1 rfl (lv_room (Nat.le_of_ble_eq_true rfl)) d_Tr_objectsFor_1 ⟨Nat.zero_le _, Nat.zero_le _⟩) hS (fun _ h => h.elim) (fun H locs hk hS => ?_)
    have hP := rv_kept hP hk
    refine rv_eq (y := nI 1) (rc_tm_nI (by omega)) ?_
    refine rv_if_eq (tgt := 14) hx hb d_Tr_objectsFor_4 (by decide) (by omega) (fun c_4 => absurd c_4 (by omega)) (fun c_4 => ?_)
    refine lv_iload_n hx hb d_Tr_objectsFor_7 rfl (lv_at hl 2 rfl) ?_
    refine rv_calli (r := rc_tm (nI p0)) (va_runSN (As := [.int (nI p0)]) (rest := []) ⟨hx, hb, hml, hown, hts⟩ (c_Rl_isTerm l (nI p0)) ⟨va_cnB 1 hts (rg_G k_Rl_isTerm) rfl rfl rfl (hN _ rn_3) (hts _ (List.mem_cons_of_mem _ m_1)) (by decide +kernel) ⟨Nat.le_of_ble_eq_true rfl, Nat.le_of_ble_eq_true rfl⟩, hts _ (List.mem_cons_of_mem _ m_132), trivial⟩ ⟨fun _ _ _ _ q => q, fun U hU hW => ⟨rfl, trivial⟩⟩ rfl rfl hl.1 rfl (lv_room (Nat.le_of_ble_eq_true rfl)) d_Tr_objectsFor_8 ⟨Nat.zero_le _, Nat.zero_le _⟩) hS (fun _ h => h.elim) (fun H locs hk hS => ?_)
    have hP := rv_kept hP hk
    refine rv_eq (y := nI 1) (rc_tm_nI (by omega)) ?_
    refine rv_if_ne (tgt := 16) hx hb d_Tr_objectsFor_11 (by decide) (by omega) (fun c_11 => ?_) (fun c_11 => absurd c_11 (by omega))
    refine lv_aload_n hx hb d_Tr_objectsFor_16 rfl (lv_at hl 0 rfl) ?_
    refine va_get (D := (dC, dI)) (ci := 1) (v := .ref q1) (C := R_Tr) (T := F_Tr) (N := 4) hx hb hts (rg_c i_Tr) hown hK hP 0 rfl rfl 0 (by decide) (hts _ (List.mem_cons_of_mem _ m_27)) (fun _ h9 => h9) rfl d_Tr_objectsFor_17 ?_
    refine lv_iload_n hx hb d_Tr_objectsFor_20 rfl (lv_at hl 1 rfl) ?_
    refine lv_bipush (v := nI 32) hx hb d_Tr_objectsFor_21 (by decide) ?_
    refine rv_imul hx hb d_Tr_objectsFor_23 ?_
    refine lv_iload_n hx hb d_Tr_objectsFor_24 rfl (lv_at hl 2 rfl) ?_
    refine rv_iadd hx hb d_Tr_objectsFor_25 ?_
    refine rv_ald (k := ((s0 * 32) + p0)) hx hb hK hP 1 0 rfl rfl (by omega) (by decide) d_Tr_objectsFor_26 ?_
    refine lv_istore (lv' := [(4, .int (f ((s0 * 32) + p0))), (0, .ref h0), (1, .int (nI s0)), (2, .int (nI p0)), (3, .int (-1))]) hx hb d_Tr_objectsFor_27 hl (by decide) rfl (fun ls hl => ?_)
    refine lv_iload_n hx hb d_Tr_objectsFor_29 rfl (lv_at hl 4 rfl) ?_
    refine rv_calli (r := rc_tm (-1)) (va_runSN (As := [.int (-1)]) (rest := []) ⟨hx, hb, hml, hown, hts⟩ (c_Rl_isTerm l (-1)) ⟨va_cnB 1 hts (rg_G k_Rl_isTerm) rfl rfl rfl (hN _ rn_3) (hts _ (List.mem_cons_of_mem _ m_1)) (by decide +kernel) ⟨Nat.le_of_ble_eq_true rfl, Nat.le_of_ble_eq_true rfl⟩, hts _ (List.mem_cons_of_mem _ m_132), trivial⟩ ⟨fun _ _ _ _ q => q, fun U hU hW => ⟨rfl, trivial⟩⟩ rfl rfl hl.1 rfl (lv_room (Nat.le_of_ble_eq_true rfl)) d_Tr_objectsFor_30 ⟨Nat.zero_le _, Nat.zero_le _⟩) hS (fun _ h => h.elim) (fun H locs hk hS => ?_)
    have hP := rv_kept hP hk
    refine rv_eq (y := nI 0) (rc_tm_m1) ?_
    refine rv_if_eq (tgt := 45) hx hb d_Tr_objectsFor_33 (by decide) (by omega) (fun c_33 => ?_) (fun c_33 => absurd c_33 (by omega))
    refine lv_iload hx hb d_Tr_objectsFor_45 (lv_at hl 0 rfl) ?_
    exact W.iret (v := f ((s0 * 32) + p0)) hx hb hr (fun t ht hW => ⟨⟨f ((s0 * 32) + p0), (), rfl, rfl, trivial⟩, hS.F ht⟩) hS.2.2 d_Tr_objectsFor_47
  · have hkox := hko o0 rfl
    have hl : lv_has ls 5 [(0, .ref h0), (1, .int (nI s0)), (2, .int (nI p0)), (3, .int (nI o0))] := hl
    refine lv_iload_n hx hb d_Tr_objectsFor_0 rfl (lv_at hl 1 rfl) ?_
    refine rv_calli (r := rc_tm (nI s0)) (va_runSN (As := [.int (nI s0)]) (rest := []) ⟨hx, hb, hml, hown, hts⟩ (c_Rl_isTerm l (nI s0)) ⟨va_cnB 1 hts (rg_G k_Rl_isTerm) rfl rfl rfl (hN _ rn_3) (hts _ (List.mem_cons_of_mem _ m_1)) (by decide +kernel) ⟨Nat.le_of_ble_eq_true rfl, Nat.le_of_ble_eq_true rfl⟩, hts _ (List.mem_cons_of_mem _ m_132), trivial⟩ ⟨fun _ _ _ _ q => q, fun U hU hW => ⟨rfl, trivial⟩⟩ rfl rfl hl.1 rfl (lv_room (Nat.le_of_ble_eq_true rfl)) d_Tr_objectsFor_1 ⟨Nat.zero_le _, Nat.zero_le _⟩) hS (fun _ h => h.elim) (fun H locs hk hS => ?_)
    have hP := rv_kept hP hk
    refine rv_eq (y := nI 1) (rc_tm_nI (by omega)) ?_
    refine rv_if_eq (tgt := 14) hx hb d_Tr_objectsFor_4 (by decide) (by omega) (fun c_4 => absurd c_4 (by omega)) (fun c_4 => ?_)
    refine lv_iload_n hx hb d_Tr_objectsFor_7 rfl (lv_at hl 2 rfl) ?_
    refine rv_calli (r := rc_tm (nI p0)) (va_runSN (As := [.int (nI p0)]) (rest := []) ⟨hx, hb, hml, hown, hts⟩ (c_Rl_isTerm l (nI p0)) ⟨va_cnB 1 hts (rg_G k_Rl_isTerm) rfl rfl rfl (hN _ rn_3) (hts _ (List.mem_cons_of_mem _ m_1)) (by decide +kernel) ⟨Nat.le_of_ble_eq_true rfl, Nat.le_of_ble_eq_true rfl⟩, hts _ (List.mem_cons_of_mem _ m_132), trivial⟩ ⟨fun _ _ _ _ q => q, fun U hU hW => ⟨rfl, trivial⟩⟩ rfl rfl hl.1 rfl (lv_room (Nat.le_of_ble_eq_true rfl)) d_Tr_objectsFor_8 ⟨Nat.zero_le _, Nat.zero_le _⟩) hS (fun _ h => h.elim) (fun H locs hk hS => ?_)
    have hP := rv_kept hP hk
    refine rv_eq (y := nI 1) (rc_tm_nI (by omega)) ?_
    refine rv_if_ne (tgt := 16) hx hb d_Tr_objectsFor_11 (by decide) (by omega) (fun c_11 => ?_) (fun c_11 => absurd c_11 (by omega))
    refine lv_aload_n hx hb d_Tr_objectsFor_16 rfl (lv_at hl 0 rfl) ?_
    refine va_get (D := (dC, dI)) (ci := 1) (v := .ref q1) (C := R_Tr) (T := F_Tr) (N := 4) hx hb hts (rg_c i_Tr) hown hK hP 0 rfl rfl 0 (by decide) (hts _ (List.mem_cons_of_mem _ m_27)) (fun _ h9 => h9) rfl d_Tr_objectsFor_17 ?_
    refine lv_iload_n hx hb d_Tr_objectsFor_20 rfl (lv_at hl 1 rfl) ?_
    refine lv_bipush (v := nI 32) hx hb d_Tr_objectsFor_21 (by decide) ?_
    refine rv_imul hx hb d_Tr_objectsFor_23 ?_
    refine lv_iload_n hx hb d_Tr_objectsFor_24 rfl (lv_at hl 2 rfl) ?_
    refine rv_iadd hx hb d_Tr_objectsFor_25 ?_
    refine rv_ald (k := ((s0 * 32) + p0)) hx hb hK hP 1 0 rfl rfl (by omega) (by decide) d_Tr_objectsFor_26 ?_
    refine lv_istore (lv' := [(4, .int (f ((s0 * 32) + p0))), (0, .ref h0), (1, .int (nI s0)), (2, .int (nI p0)), (3, .int (nI o0))]) hx hb d_Tr_objectsFor_27 hl (by decide) rfl (fun ls hl => ?_)
    refine lv_iload_n hx hb d_Tr_objectsFor_29 rfl (lv_at hl 4 rfl) ?_
    refine rv_calli (r := rc_tm (nI o0)) (va_runSN (As := [.int (nI o0)]) (rest := []) ⟨hx, hb, hml, hown, hts⟩ (c_Rl_isTerm l (nI o0)) ⟨va_cnB 1 hts (rg_G k_Rl_isTerm) rfl rfl rfl (hN _ rn_3) (hts _ (List.mem_cons_of_mem _ m_1)) (by decide +kernel) ⟨Nat.le_of_ble_eq_true rfl, Nat.le_of_ble_eq_true rfl⟩, hts _ (List.mem_cons_of_mem _ m_132), trivial⟩ ⟨fun _ _ _ _ q => q, fun U hU hW => ⟨rfl, trivial⟩⟩ rfl rfl hl.1 rfl (lv_room (Nat.le_of_ble_eq_true rfl)) d_Tr_objectsFor_30 ⟨Nat.zero_le _, Nat.zero_le _⟩) hS (fun _ h => h.elim) (fun H locs hk hS => ?_)
    have hP := rv_kept hP hk
    refine rv_eq (y := nI 1) (rc_tm_nI (by omega)) ?_
    refine rv_if_eq (tgt := 45) hx hb d_Tr_objectsFor_33 (by decide) (by omega) (fun c_33 => absurd c_33 (by omega)) (fun c_33 => ?_)
    refine lv_iload hx hb d_Tr_objectsFor_36 (lv_at hl 0 rfl) ?_
    refine lv_iconst (v := nI 1) hx hb d_Tr_objectsFor_38 (by decide) ?_
    refine lv_iload_n hx hb d_Tr_objectsFor_39 rfl (lv_at hl 4 rfl) ?_
    refine lv_ishl hx hb d_Tr_objectsFor_40 ?_
    refine lv_iand hx hb d_Tr_objectsFor_41 ?_
    refine lv_goto (tgt := 47) hx hb d_Tr_objectsFor_42 (by decide) ?_
    exact W.iret (v := (f ((s0 * 32) + p0)) &&& ((nI 1) <<< ((nI o0) &&& 31))) hx hb hr (fun t ht hW => ⟨⟨(f ((s0 * 32) + p0)) &&& ((nI 1) <<< ((nI o0) &&& 31)), (), rfl, rfl, trivial⟩, hS.F ht⟩) hS.2.2 d_Tr_objectsFor_47
end
section
/-! models: folds that end early; what a join does, over any state; the states of the two matchers -/
theorem rc_fr_hit {f : Nat → Int32} {n a j : Nat} (h : j < rb_cnt (f a)) : (rc_fr f (n + 1) a)[j]? = some (a * 32 + rb_at (f a) j) := by
  show ((rb_els (f a)).map (fun o => a * 32 + o) ++ rc_fr f n (a + 1))[j]? = _
  unfold rb_cnt at h
  rw [List.getElem?_append_left (by rw [List.length_map]; exact h), List.getElem?_map, List.getElem?_eq_getElem h]
  unfold rb_at
  rw [List.getD_eq_getElem?_getD, List.getElem?_eq_getElem h]
  rfl
theorem rc_fr_miss {f : Nat → Int32} {n a j : Nat} (h : rb_cnt (f a) ≤ j) : (rc_fr f (n + 1) a)[j]? = (rc_fr f n (a + 1))[j - rb_cnt (f a)]? := by
  show ((rb_els (f a)).map (fun o => a * 32 + o) ++ rc_fr f n (a + 1))[j]? = _
  unfold rb_cnt at h ⊢
  rw [List.getElem?_append_right (by rw [List.length_map]; exact h), List.length_map]
def rb_z (b : Bool) : Int32 := if b then nI 1 else nI 0
theorem rb_z_nar (b : Bool) : narrow .boolean (.int (rb_z b)) = .int (rb_z b) := by cases b <;> rfl
theorem rb_z_fit (b : Bool) : fits .boolean (.int (rb_z b)) = true := by cases b <;> rfl
theorem rb_z0 {b : Bool} : rb_z b = 0 ↔ b = false := by cases b <;> decide
/-- a fold that ends at the first true -/
def rj_fold {σ α : Type} (f : σ → α → σ × Bool) : σ → List α → σ × Bool
  | st, [] => (st, false)
  | st, c :: l => if (f st c).2 = true then f st c else rj_fold f (f st c).1 l
theorem rj_fold_stop {σ α : Type} {f : σ → α → σ × Bool} {st : σ} {c : α} {l : List α} {r : σ × Bool} (h : rj_fold f st (c :: l) = r) (hs : (f st c).2 = true) : f st c = r := by
  rw [← h]
  show _ = if (f st c).2 = true then f st c else rj_fold f (f st c).1 l
  rw [if_pos hs]
theorem rj_fold_go {σ α : Type} {f : σ → α → σ × Bool} {st : σ} {c : α} {l : List α} {r : σ × Bool} (h : rj_fold f st (c :: l) = r) (hs : (f st c).2 = false) : rj_fold f (f st c).1 l = r := by
  rw [← h]
  show _ = if (f st c).2 = true then f st c else rj_fold f (f st c).1 l
  rw [if_neg (by rw [hs]; simp)]
/-- the three loops of a join over one premise, then the rest -/
def rj_pat (r k : Nat) : Nat := 12 * r + 3 * k
def rj_body {σ : Type} (ch : Nat → Nat → σ → σ) (r k : Nat) (ds : List Nat) (next : List Nat → σ → σ × Bool) (st : σ) (c : Nat) : σ × Bool :=
  match rt_fit (rq_prem.getD (12 * r + 3 * k) 0) (rq_prem.getD (12 * r + 3 * k + 1) 0) (rq_prem.getD (12 * r + 3 * k + 2) 0) c ds with
  | none => (ch k c st, false)
  | some ds' => next ds' (ch k c st)
def rj_join {σ : Type} (TV : Option Nat → Option Nat → Option Nat → List Nat) (mt : List Nat → σ → σ × Bool) (ch : Nat → Nat → σ → σ) (r : Nat) (fx : Option Nat) : Nat → Nat → List Nat → σ → σ × Bool
  | 0, _, ds, st => mt ds st
  | rem + 1, k, ds, st => if fx = some k then rj_join TV mt ch r fx rem (k + 1) ds st else
    rj_fold (rj_body ch r k ds (rj_join TV mt ch r fx rem (k + 1))) st (TV (rt_term (rq_prem.getD (12 * r + 3 * k) 0) ds) (rt_term (rq_prem.getD (12 * r + 3 * k + 1) 0) ds) (rt_term (rq_prem.getD (12 * r + 3 * k + 2) 0) ds))
/-- the letters of the premises that have been fitted are bound -/
def rj_cov (r k : Nat) (fx : Option Nat) (ds : List Nat) : Prop := ∀ j, j < rq_cnts.getD r 0 → j < k ∨ fx = some j → ∀ t, t < 3 → ∃ u, u < 32 ∧ rt_term (rq_prem.getD (12 * r + 3 * j + t) 0) ds = some u
theorem rt_bind_keep {k t : Nat} {ds ds' : List Nat} (h : rt_bind k t ds = some ds') {q u : Nat} (hq : rt_term q ds = some u) : rt_term q ds' = some u := by
  unfold rt_bind at h
  split at h
  · rename_i hn
    cases h
    obtain ⟨hk, h0⟩ := rt_none hn
    unfold rt_term at hq ⊢
    split at hq
    · rename_i hql
      rw [if_pos hql]; exact hq
    · rename_i hql
      rw [if_neg hql]
      by_cases e : q - 32 = k - 32
      · rw [e, h0] at hq
        cases hq
      · rw [List.getD_eq_getElem?_getD, List.getElem?_set_ne (fun z => e z.symm), ← List.getD_eq_getElem?_getD]
        exact hq
  · split at h
    · cases h; exact hq
    · cases h
theorem rt_bind_this {k t : Nat} {ds ds' : List Nat} (hd : rt_ok ds) (hk : k < 42) (h : rt_bind k t ds = some ds') : rt_term k ds' = some t := by
  unfold rt_bind at h
  split at h
  · rename_i hn
    cases h
    obtain ⟨hk1, h0⟩ := rt_none hn
    unfold rt_term
    rw [if_neg (by omega), List.getD_eq_getElem?_getD, List.getElem?_set_self (by rw [hd.1]; omega)]
    rfl
  · rename_i u hu
    split at h
    · rename_i e
      cases h
      rw [hu, e]
    · cases h
theorem rt_fit_keep {k1 k2 k3 c : Nat} {ds ds' : List Nat} (h : rt_fit k1 k2 k3 c ds = some ds') {q u : Nat} (hq : rt_term q ds = some u) : rt_term q ds' = some u := by
  unfold rt_fit at h
  obtain ⟨d1, h1, h⟩ := Option.bind_eq_some_iff.mp h
  obtain ⟨d2, h2, h⟩ := Option.bind_eq_some_iff.mp h
  exact rt_bind_keep h (rt_bind_keep h2 (rt_bind_keep h1 hq))
theorem rt_fit_this {k1 k2 k3 c : Nat} {ds ds' : List Nat} (hd : rt_ok ds) (hc : c < 32768) (a1 : k1 < 42) (a2 : k2 < 42) (a3 : k3 < 42) (h : rt_fit k1 k2 k3 c ds = some ds') : rt_term k1 ds' = some (c / 32 / 32) ∧ rt_term k2 ds' = some (c / 32 % 32) ∧ rt_term k3 ds' = some (c % 32) := by
  unfold rt_fit at h
  obtain ⟨d1, h1, h⟩ := Option.bind_eq_some_iff.mp h
  obtain ⟨d2, h2, h⟩ := Option.bind_eq_some_iff.mp h
  have o1 := rt_bind_ok hd (by omega) h1
  have o2 := rt_bind_ok o1 (by omega) h2
  exact ⟨rt_bind_keep h (rt_bind_this o1 a1 h2), rt_bind_keep h (rt_bind_keep h2 (rt_bind_this hd a2 h1)), rt_bind_this o2 a3 h⟩
theorem rj_cov_step {r k : Nat} {fx : Option Nat} {ds ds' : List Nat} {c : Nat} (hd : rt_ok ds) (hc : c < 32768) (h : rj_cov r k fx ds) (hf : rt_fit (rq_prem.getD (12 * r + 3 * k) 0) (rq_prem.getD (12 * r + 3 * k + 1) 0) (rq_prem.getD (12 * r + 3 * k + 2) 0) c ds = some ds') : rj_cov r (k + 1) fx ds' := by
  obtain ⟨t1, t2, t3⟩ := rt_fit_this hd hc (rq_prem_lt _) (rq_prem_lt _) (rq_prem_lt _) hf
  intro j hj hk t ht
  by_cases e : j = k
  · subst e
    rcases (show t = 0 ∨ t = 1 ∨ t = 2 by omega) with rfl | rfl | rfl
    · exact ⟨_, by omega, t1⟩
    · exact ⟨_, by omega, t2⟩
    · exact ⟨_, by omega, t3⟩
  · obtain ⟨u, hu, hq⟩ := h j hj (hk.elim (fun z => Or.inl (by omega)) Or.inr) t ht
    exact ⟨u, hu, rt_fit_keep hf hq⟩
theorem rj_cov_skip {r k : Nat} {fx : Option Nat} {ds : List Nat} (h : rj_cov r k fx ds) (hf : fx = some k) : rj_cov r (k + 1) fx ds := by
  intro j hj hk t ht
  by_cases e : j = k
  · exact h j hj (Or.inr (by rw [hf, e])) t ht
  · exact h j hj (hk.elim (fun z => Or.inl (by omega)) Or.inr) t ht
theorem rq_given_in : ∀ r, r < 21 → ∀ t, t < 3 → rq_given.getD (3 * r + t) 0 < 32 ∨ ∃ j, j < rq_cnts.getD r 0 ∧ ∃ u, u < 3 ∧ rq_given.getD (3 * r + t) 0 = rq_prem.getD (12 * r + 3 * j + u) 0 := by
  have h : ∀ r, r < 21 → ∀ t, t < 3 → rq_given.getD (3 * r + t) 0 < 32 ∨ (∃ j : Fin 4, j.val < rq_cnts.getD r 0 ∧ ∃ u : Fin 3, rq_given.getD (3 * r + t) 0 = rq_prem.getD (12 * r + 3 * j.val + u.val) 0) := by decide +kernel
  intro r hr t ht
  rcases h r hr t ht with z | ⟨j, hj, u, hu⟩
  · exact Or.inl z
  · exact Or.inr ⟨j.val, hj, u.val, u.isLt, hu⟩
theorem rj_cov_given {r k : Nat} {fx : Option Nat} {ds : List Nat} (hr : r < 21) (hk : rq_cnts.getD r 0 ≤ k) (h : rj_cov r k fx ds) (t : Nat) (ht : t < 3) : ∃ u, u < 32 ∧ rt_term (rq_given.getD (3 * r + t) 0) ds = some u := by
  rcases rq_given_in r hr t ht with z | ⟨j, hj, u, hu, e⟩
  · refine ⟨_, z, ?_⟩
    unfold rt_term
    rw [if_pos z]
  · rw [e]
    exact h j hj (Or.inl (by omega)) u hu
/-- the code that a rule gives -/
def rj_given (r : Nat) (ds : List Nat) : Nat := rx_code ((rt_term (rq_given.getD (3 * r) 0) ds).getD 0) ((rt_term (rq_given.getD (3 * r + 1) 0) ds).getD 0) ((rt_term (rq_given.getD (3 * r + 2) 0) ds).getD 0)
abbrev sT : Type := (Nat → Int32) × (Nat → Int32) × (Nat → Int32) × Int32
def rx_put (c : Nat) (x : sT) : sT := (upd x.1 (c / 32) (x.1 (c / 32) ||| (nI 1) <<< (nI (c % 32) &&& 31)), upd x.2.1 (c / 32 % 32) (x.2.1 (c / 32 % 32) ||| (nI 1) <<< (nI (c / 32 / 32) &&& 31)), upd x.2.2.1 (c / 32 / 32) (x.2.2.1 (c / 32 / 32) ||| (nI 1) <<< (nI (c / 32 % 32) &&& 31)), x.2.2.2 ||| (nI 1) <<< (nI (c / 32 / 32) &&& 31))
/-- the state of a round under way: chosen, come, codes, rounds, how many, too large -/
abbrev sD : Type := (Nat → Int32) × sT × (Nat → Int32) × (Nat → Int32) × Nat × Bool
def rd_ch (k c : Nat) (st : sD) : sD := (upd st.1 k (nI c), st.2)
def rd_add (now : Nat) (c : Nat) (st : sD) : sD := if rb_b (st.2.1.1 (c / 32)) (c % 32) then st else if 400 ≤ st.2.2.2.2.1 then (st.1, st.2.1, st.2.2.1, st.2.2.2.1, st.2.2.2.2.1, true) else
  (st.1, rx_put c st.2.1, upd st.2.2.1 st.2.2.2.2.1 (nI c), upd st.2.2.2.1 st.2.2.2.2.1 (nI now), st.2.2.2.2.1 + 1, st.2.2.2.2.2)
def rd_meet (now r : Nat) (ds : List Nat) (st : sD) : sD × Bool := (rd_add now (rj_given r ds) st, (rd_add now (rj_given r ds) st).2.2.2.2.2)
/-- the seeker's: chosen, met, the row found -/
abbrev sS : Type := (Nat → Int32) × Int32 × Int32
def rs_ch (k c : Nat) (st : sS) : sS := (upd st.1 k (nI c), st.2)
def rs_meet (wanted : Int32) (r : Nat) (_ : List Nat) (st : sS) : sS × Bool := ((st.1, st.2.1 + 1, if st.2.1 = wanted then nI r else st.2.2), decide (st.2.1 = wanted))
theorem rd_cnt_le {now c : Nat} {st : sD} (h : st.2.2.2.2.1 ≤ 400) : (rd_add now c st).2.2.2.2.1 ≤ 400 := by
  unfold rd_add
  split
  · exact h
  · split
    · exact h
    · show st.2.2.2.2.1 + 1 ≤ 400
      omega
end
section
set_option maxHeartbeats 4000000 in
set_option maxRecDepth 100000 in
theorem c_Tr_elementAt (l : Launch) (x : Int32) (i : Nat) (hi : i < rb_cnt x) : Met l y_Tr_elementAt (w_ y_Tr_elementAt b_Tr_elementAt 4 (some .int)) (rm_ 2) (va_Pc [.int x, .int (nI i)] (fun U => rn_ U)) (va_Qi (fun (z9 : Int32) (_ : Unit) => z9 = nI (rb_at x i)) (fun _ _ => True) (fun _ => False)) 0 0 (fun _ => False) := by
  refine Met.ofW (cc := b_Tr_elementAt) (maxL := 4) (ret := (some .int)) (by decide) rfl ?_
  intro p e s m args below meth c s₁ B hml hv
  obtain ⟨rfl, hN⟩ := hv
  have hx := B.exec
  have hb := B.bytes
  have hr := B.returns
  have hts := atoms_spec (ws := (w_ y_Tr_elementAt b_Tr_elementAt 4 (some .int))) B.pre
  have hown : s.vm.findClass R_Tr = some m.cls := findClass_of_methodNamed B.named
  have hlocks := B.notSynchronized
  have hS : va_S (fun _ => False) s.heap s.heap [] := va_S.rf
  have hl := lv_entry ([.int x, .int (nI i)]) (n := 4) (Nat.le_of_ble_eq_true rfl)
  rw [lg_entry_eq]
  generalize (lg_sl ([.int x, .int (nI i)]) ++ List.replicate (4 - (lg_sl ([.int x, .int (nI i)])).length) Slot.unset).toArray = ls at hl ⊢
  have hl : lv_has ls 4 [(0, .int x), (1, .int (nI i))] := hl
  refine lv_iload_n hx hb d_Tr_elementAt_0 rfl (lv_at hl 0 rfl) ?_
  refine lv_istore_n (lv' := [(2, .int x), (0, .int x), (1, .int (nI i))]) hx hb d_Tr_elementAt_1 rfl hl (by decide) rfl (fun ls hl => ?_)
  refine lv_iconst (v := nI 0) hx hb d_Tr_elementAt_2 (by decide) ?_
  refine lv_istore_n (lv' := [(3, .int (nI 0)), (2, .int x), (0, .int x), (1, .int (nI i))]) hx hb d_Tr_elementAt_3 rfl hl (by decide) rfl (fun ls hl => ?_)
  have hl : lv_has ls 4 [(3, .int (nI 0)), (2, .int (rb_drop 0 x)), (0, .int x), (1, .int (nI i))] := hl
  refine rv_Q (fun Q hQ => ?_)
  have lp : ∀ (n : Nat) (j : Nat) (H : Heap) (locs : List Loc) (ls : Array Slot), j + n = i → va_S (fun _ => False) s.heap H locs → lv_has ls 4 [(3, .int (nI j)), (2, .int (rb_drop j x)), (0, .int x), (1, .int (nI i))] → W p l e (headSpec (w_ y_Tr_elementAt b_Tr_elementAt 4 (some .int)) (rm_ 2)).room s m ([.int x, .int (nI i)] : List Value).toArray below meth c H locs 0 0 Q (F0 m 4 ls []) := by
    intro n
    induction n with
    | zero =>
      intro j H locs ls hj hS hl
      obtain rfl : j = i := by omega
      refine lv_iload_n hx hb d_Tr_elementAt_4 rfl (lv_at hl 0 rfl) ?_
      refine lv_iload_n hx hb d_Tr_elementAt_5 rfl (lv_at hl 3 rfl) ?_
      refine rv_icmp_ge (tgt := 20) hx hb d_Tr_elementAt_6 (by decide) (by have := rb_cnt_le x; omega) (by have := rb_cnt_le x; omega) (fun c_6 => ?_) (fun c_6 => absurd c_6 (by omega))
      refine lv_iload_n hx hb d_Tr_elementAt_20 rfl (lv_at hl 1 rfl) ?_
      refine rv_calli (r := nI (rb_least (rb_drop j x))) (va_runSN (As := [.int (rb_drop j x)]) (rest := []) ⟨hx, hb, hml, hown, hts⟩ (c_Rl_leastOf l (rb_drop j x)) ⟨va_cnB 1 hts (rg_G k_Rl_leastOf) rfl rfl rfl (hN _ rn_12) (hts _ (List.mem_cons_of_mem _ m_1)) (by decide +kernel) ⟨Nat.le_of_ble_eq_true rfl, Nat.le_of_ble_eq_true rfl⟩, hts _ (List.mem_cons_of_mem _ m_255), trivial⟩ ⟨fun _ _ _ _ q => q, fun U hU hW => ⟨rfl, trivial⟩⟩ rfl rfl hl.1 rfl (lv_room (Nat.le_of_ble_eq_true rfl)) d_Tr_elementAt_21 ⟨Nat.zero_le _, Nat.zero_le _⟩) hS (fun _ h => h.elim) (fun H locs hk hS => ?_)
      subst hQ
      exact W.iret (v := nI (rb_least (rb_drop j x))) hx hb hr (fun t ht hW => ⟨⟨nI (rb_least (rb_drop j x)), (), rfl, by rw [rb_drop_least hi], trivial⟩, hS.F ht⟩) hS.2.2 d_Tr_elementAt_24
    | succ n ih =>
      intro j H locs ls hj hS hl
      refine lv_iload_n hx hb d_Tr_elementAt_4 rfl (lv_at hl 0 rfl) ?_
      refine lv_iload_n hx hb d_Tr_elementAt_5 rfl (lv_at hl 3 rfl) ?_
      refine rv_icmp_ge (tgt := 20) hx hb d_Tr_elementAt_6 (by decide) (by have := rb_cnt_le x; omega) (by have := rb_cnt_le x; omega) (fun c_6 => absurd c_6 (by omega)) (fun c_6 => ?_)
      refine lv_iload_n hx hb d_Tr_elementAt_9 rfl (lv_at hl 1 rfl) ?_
      refine rv_calli (r := (rb_drop j x) &&& ((rb_drop j x) - 1)) (va_runSN (As := [.int (rb_drop j x)]) (rest := []) ⟨hx, hb, hml, hown, hts⟩ (c_Rl_withoutLeast l (rb_drop j x)) ⟨va_cnB 1 hts (rg_G k_Rl_withoutLeast) rfl rfl rfl (hN _ rn_11) (hts _ (List.mem_cons_of_mem _ m_1)) (by decide +kernel) ⟨Nat.le_of_ble_eq_true rfl, Nat.le_of_ble_eq_true rfl⟩, hts _ (List.mem_cons_of_mem _ m_259), trivial⟩ ⟨fun _ _ _ _ q => q, fun U hU hW => ⟨rfl, trivial⟩⟩ rfl rfl hl.1 rfl (lv_room (Nat.le_of_ble_eq_true rfl)) d_Tr_elementAt_10 ⟨Nat.zero_le _, Nat.zero_le _⟩) hS (fun _ h => h.elim) (fun H locs hk hS => ?_)
      refine rv_eq (y := rb_drop (j + 1) x) ((rb_drop_succ j x).symm) ?_
      refine lv_istore_n (lv' := [(2, .int (rb_drop (j + 1) x)), (3, .int (nI j)), (0, .int x), (1, .int (nI i))]) hx hb d_Tr_elementAt_13 rfl hl (by decide) rfl (fun ls hl => ?_)
      refine rv_inc (k := 1) (lv' := [(3, .int (nI (j + 1))), (2, .int (rb_drop (j + 1) x)), (0, .int x), (1, .int (nI i))]) hx hb d_Tr_elementAt_14 hl rfl (by decide) rfl (fun ls hl => ?_)
      refine lv_goto (tgt := 4) hx hb d_Tr_elementAt_17 (by decide) ?_
      exact ih (j + 1) _ _ _ (by omega) hS (lv_sub hl [0, 1, 2, 3] rfl)
  exact lp i 0 _ _ _ (by omega) hS (lv_sub hl [0, 1, 2, 3] rfl)

set_option maxHeartbeats 4000000 in
set_option maxRecDepth 100000 in
theorem c_Tr_codeAt (l : Launch) (dC : Nat → ClassId) (dI : Nat → Nat → Nat) (dA : ClassId) (h0 q1 q2 q3 : Nat) (f g hh : Nat → Int32) (al : Int32) (i0 : Nat) (hi0 : i0 < 2 ^ 30) : Met l y_Tr_codeAt (w_ y_Tr_codeAt b_Tr_codeAt 5 (some .int)) (rm_ 3) (va_Pc [.ref h0, .int (nI i0)] (fun U => va_K (dC, dI) classes [(dA, .int)] U ∧ va_P (dC, dI) classes [(h0, .inr (1, [.ref q1, .ref q2, .ref q3, .int al])), (q1, .inl (dA, 1024, .inl f)), (q2, .inl (dA, 32, .inl g)), (q3, .inl (dA, 32, .inl hh))] U.heap ∧ rn_ U)) (va_Qi (fun (z9 : Int32) (_ : Unit) => z9 = rc_no ((rc_fr f 1024 0)[i0]?)) (fun _ _ => True) (fun _ => False)) 0 0 (fun _ => False) := by
  refine Met.ofW (cc := b_Tr_codeAt) (maxL := 5) (ret := (some .int)) (by decide) rfl ?_
  intro p e s m args below meth c s₁ B hml hv
  obtain ⟨rfl, hK, hP, hN⟩ := hv
  have hx := B.exec
  have hb := B.bytes
  have hr := B.returns
  have hts := atoms_spec (ws := (w_ y_Tr_codeAt b_Tr_codeAt 5 (some .int))) B.pre
  have hown : s.vm.findClass R_Tr = some m.cls := findClass_of_methodNamed B.named
  have hlocks := B.notSynchronized
  have hS : va_S (fun _ => False) s.heap s.heap [] := va_S.rf
  have hl := lv_entry ([.ref h0, .int (nI i0)]) (n := 5) (Nat.le_of_ble_eq_true rfl)
  rw [lg_entry_eq]
  generalize (lg_sl ([.ref h0, .int (nI i0)]) ++ List.replicate (5 - (lg_sl ([.ref h0, .int (nI i0)])).length) Slot.unset).toArray = ls at hl ⊢
  have hl : lv_has ls 5 [(0, .ref h0), (1, .int (nI i0))] := hl
  refine lv_iload_n hx hb d_Tr_codeAt_0 rfl (lv_at hl 1 rfl) ?_
  refine lv_istore_n (lv' := [(2, .int (nI i0)), (0, .ref h0), (1, .int (nI i0))]) hx hb d_Tr_codeAt_1 rfl hl (by decide) rfl (fun ls hl => ?_)
  refine lv_iconst (v := nI 0) hx hb d_Tr_codeAt_2 (by decide) ?_
  refine lv_istore_n (lv' := [(3, .int (nI 0)), (2, .int (nI i0)), (0, .ref h0), (1, .int (nI i0))]) hx hb d_Tr_codeAt_3 rfl hl (by decide) rfl (fun ls hl => ?_)
  refine rv_Q (fun Q hQ => ?_)
  have lp : ∀ (n : Nat) (a0 j : Nat) (H : Heap) (locs : List Loc) (ls : Array Slot), a0 + n = 1024 → j ≤ i0 → rc_no ((rc_fr f n a0)[j]?) = rc_no ((rc_fr f 1024 0)[i0]?) → va_P (dC, dI) classes [(h0, .inr (1, [.ref q1, .ref q2, .ref q3, .int al])), (q1, .inl (dA, 1024, .inl f)), (q2, .inl (dA, 32, .inl g)), (q3, .inl (dA, 32, .inl hh))] H → va_S (fun _ => False) s.heap H locs → lv_has ls 5 [(3, .int (nI a0)), (2, .int (nI j)), (0, .ref h0), (1, .int (nI i0))] → W p l e (headSpec (w_ y_Tr_codeAt b_Tr_codeAt 5 (some .int)) (rm_ 3)).room s m ([.ref h0, .int (nI i0)] : List Value).toArray below meth c H locs 0 0 Q (F0 m 4 ls []) := by
    intro n
    induction n with
    | zero =>
      intro a0 j H locs ls ha hj hR hP hS hl
      refine lv_iload_n hx hb d_Tr_codeAt_4 rfl (lv_at hl 0 rfl) ?_
      refine lv_sipush (v := nI 1024) hx hb d_Tr_codeAt_5 (by decide) ?_
      refine rv_icmp_ge (tgt := 55) hx hb d_Tr_codeAt_8 (by decide) (by omega) (by omega) (fun c_8 => ?_) (fun c_8 => absurd c_8 (by omega))
      refine lv_bipush (v := (-2)) hx hb d_Tr_codeAt_55 (by decide) ?_
      subst hQ
      exact W.iret (v := (-2)) hx hb hr (fun t ht hW => ⟨⟨(-2), (), rfl, by rw [← hR]; rfl, trivial⟩, hS.F ht⟩) hS.2.2 d_Tr_codeAt_57
    | succ n ih =>
      intro a0 j H locs ls ha hj hR hP hS hl
      have hcl := rb_cnt_le (f a0)
      refine lv_iload_n hx hb d_Tr_codeAt_4 rfl (lv_at hl 0 rfl) ?_
      refine lv_sipush (v := nI 1024) hx hb d_Tr_codeAt_5 (by decide) ?_
      refine rv_icmp_ge (tgt := 55) hx hb d_Tr_codeAt_8 (by decide) (by omega) (by omega) (fun c_8 => absurd c_8 (by omega)) (fun c_8 => ?_)
      refine lv_aload_n hx hb d_Tr_codeAt_11 rfl (lv_at hl 2 rfl) ?_
      refine va_get (D := (dC, dI)) (ci := 1) (v := .ref q1) (C := R_Tr) (T := F_Tr) (N := 4) hx hb hts (rg_c i_Tr) hown hK hP 0 rfl rfl 0 (by decide) (hts _ (List.mem_cons_of_mem _ m_27)) (fun _ h9 => h9) rfl d_Tr_codeAt_12 ?_
      refine lv_iload_n hx hb d_Tr_codeAt_15 rfl (lv_at hl 0 rfl) ?_
      refine rv_ald (k := a0) hx hb hK hP 1 0 rfl rfl (by omega) (by decide) d_Tr_codeAt_16 ?_
      refine rv_calli (r := nI (rb_cnt (f a0))) (va_runS (As := [.int (f a0)]) (rest := []) ⟨hx, hb, hml, hown, hts⟩ (c_Ig_bitCount l (f a0)) (va_cwS 1 hts (rg_S (rg3 m_288 m_249 m_10) k_Ig_bitCount) rfl rfl rfl (by decide +kernel) ⟨Nat.le_of_ble_eq_true rfl, Nat.le_of_ble_eq_true rfl⟩) ⟨fun _ _ _ _ q => q, fun U hU hW => ⟨rfl, trivial⟩⟩ rfl rfl hl.1 rfl (lv_room (Nat.le_of_ble_eq_true rfl)) d_Tr_codeAt_17 ⟨Nat.zero_le _, Nat.zero_le _⟩) hS (fun _ h => h.elim) (fun H locs hk hS => ?_)
      have hP := rv_kept hP hk
      refine lv_istore (lv' := [(4, .int (nI (rb_cnt (f a0)))), (3, .int (nI a0)), (2, .int (nI j)), (0, .ref h0), (1, .int (nI i0))]) hx hb d_Tr_codeAt_20 hl (by decide) rfl (fun ls hl => ?_)
      refine lv_iload_n hx hb d_Tr_codeAt_22 rfl (lv_at hl 2 rfl) ?_
      refine lv_iload hx hb d_Tr_codeAt_23 (lv_at hl 0 rfl) ?_
      refine rv_icmp_ge (tgt := 44) hx hb d_Tr_codeAt_25 (by decide) (by omega) (by omega) (fun c_25 => ?_) (fun c_25 => ?_)
      · refine lv_iload_n hx hb d_Tr_codeAt_44 rfl (lv_at hl 2 rfl) ?_
        refine lv_iload hx hb d_Tr_codeAt_45 (lv_at hl 0 rfl) ?_
        refine rv_isub hx hb d_Tr_codeAt_47 (by omega) ?_
        refine lv_istore_n (lv' := [(2, .int (nI (j - (rb_cnt (f a0))))), (4, .int (nI (rb_cnt (f a0)))), (3, .int (nI a0)), (0, .ref h0), (1, .int (nI i0))]) hx hb d_Tr_codeAt_48 rfl hl (by decide) rfl (fun ls hl => ?_)
        refine rv_inc (k := 2) (lv' := [(3, .int (nI (a0 + 1))), (2, .int (nI (j - (rb_cnt (f a0))))), (4, .int (nI (rb_cnt (f a0)))), (0, .ref h0), (1, .int (nI i0))]) hx hb d_Tr_codeAt_49 hl rfl (by decide) rfl (fun ls hl => ?_)
        refine lv_goto (tgt := 4) hx hb d_Tr_codeAt_52 (by decide) ?_
        have hj2 := rc_fr_miss (n := n) (by assumption : rb_cnt (f a0) ≤ j)
        exact ih (a0 + 1) (j - rb_cnt (f a0)) _ _ _ (by omega) (by omega) (by rw [← hj2]; exact hR) hP hS (lv_sub hl [0, 1, 3, 4] rfl)
      · refine lv_iload_n hx hb d_Tr_codeAt_28 rfl (lv_at hl 1 rfl) ?_
        refine lv_bipush (v := nI 32) hx hb d_Tr_codeAt_29 (by decide) ?_
        refine rv_imul hx hb d_Tr_codeAt_31 ?_
        refine lv_aload_n hx hb d_Tr_codeAt_32 rfl (lv_at hl 3 rfl) ?_
        refine va_get (D := (dC, dI)) (ci := 1) (v := .ref q1) (C := R_Tr) (T := F_Tr) (N := 4) hx hb hts (rg_c i_Tr) hown hK hP 0 rfl rfl 0 (by decide) (hts _ (List.mem_cons_of_mem _ m_27)) (fun _ h9 => h9) rfl d_Tr_codeAt_33 ?_
        refine lv_iload_n hx hb d_Tr_codeAt_36 rfl (lv_at hl 1 rfl) ?_
        refine rv_ald (k := a0) hx hb hK hP 1 0 rfl rfl (by omega) (by decide) d_Tr_codeAt_37 ?_
        refine lv_iload_n hx hb d_Tr_codeAt_38 rfl (lv_at hl 2 rfl) ?_
        refine rv_calli (r := nI (rb_at (f a0) j)) (va_runS (As := [.int (f a0), .int (nI j)]) (rest := [.int (nI (a0 * 32))]) ⟨hx, hb, hml, hown, hts⟩ (c_Tr_elementAt l (f a0) j (by assumption)) (va_cwS 2 hts (rg_S (rg3 m_289 m_290 m_2) k_Tr_elementAt) rfl rfl rfl (by decide +kernel) ⟨Nat.le_of_ble_eq_true rfl, Nat.le_of_ble_eq_true rfl⟩) ⟨fun a U g mk q => ⟨q.1, rn_same (u := U) (U := U.calling g mk a) rfl q.2⟩, fun U hU hW => ⟨rfl, rn_warm hW hN⟩⟩ rfl rfl hl.1 rfl (lv_room (Nat.le_of_ble_eq_true rfl)) d_Tr_codeAt_39 ⟨Nat.zero_le _, Nat.zero_le _⟩) hS (fun _ h => h.elim) (fun H locs hk hS => ?_)
        have hP := rv_kept hP hk
        refine rv_iadd hx hb d_Tr_codeAt_42 ?_
        subst hQ
        exact W.iret (v := nI ((a0 * 32) + (rb_at (f a0) j))) hx hb hr (fun t ht hW => ⟨⟨nI ((a0 * 32) + (rb_at (f a0) j)), (), rfl, by rw [← hR, rc_fr_hit (by assumption)]; rfl, trivial⟩, hS.F ht⟩) hS.2.2 d_Tr_codeAt_43
  exact lp 1024 0 i0 _ _ _ (by omega) (by omega) (rfl) hP hS (lv_sub hl [0, 1, 2, 3] rfl)

set_option maxHeartbeats 4000000 in
set_option maxRecDepth 100000 in
theorem c_De_add (l : Launch) (dC : Nat → ClassId) (dI : Nat → Nat → Nat) (dA : ClassId) (tP tG tC d0 qc aT t1 t2 t3 aU u1 u2 u3 qk qr : Nat) (he : sT) (now c0 : Nat) (st : sD) (sz : Nat) (hc : c0 < 32768) (hcnt : st.2.2.2.2.1 ≤ 400) : Met l y_De_add (w_ y_De_add b_De_add 2 none) (rm_ 1) (va_Pc [.ref d0, .int (nI c0)] (fun U => U.heap.size = sz ∧ va_P (dC, dI) classes [(d0, .inr (2, [.ref aT, .ref qc, .ref aU, .ref qk, .ref qr, .int (nI now), .int (nI st.2.2.2.2.1), .int (rb_z st.2.2.2.2.2)])), (qc, .inl (dA, 4, .inl st.1)), (aT, .inr (1, [.ref t1, .ref t2, .ref t3, .int he.2.2.2])), (t1, .inl (dA, 1024, .inl he.1)), (t2, .inl (dA, 32, .inl he.2.1)), (t3, .inl (dA, 32, .inl he.2.2.1)), (aU, .inr (1, [.ref u1, .ref u2, .ref u3, .int st.2.1.2.2.2])), (u1, .inl (dA, 1024, .inl st.2.1.1)), (u2, .inl (dA, 32, .inl st.2.1.2.1)), (u3, .inl (dA, 32, .inl st.2.1.2.2.1)), (qk, .inl (dA, 400, .inl st.2.2.1)), (qr, .inl (dA, 400, .inl st.2.2.2.1))] U.heap ∧ va_K (dC, dI) classes [(dA, .int)] U ∧ va_D (fun _ => True) [(d0, .inr (2, [.ref aT, .ref qc, .ref aU, .ref qk, .ref qr, .int (nI now), .int (nI st.2.2.2.2.1), .int (rb_z st.2.2.2.2.2)])), (qc, .inl (dA, 4, .inl st.1)), (aT, .inr (1, [.ref t1, .ref t2, .ref t3, .int he.2.2.2])), (t1, .inl (dA, 1024, .inl he.1)), (t2, .inl (dA, 32, .inl he.2.1)), (t3, .inl (dA, 32, .inl he.2.2.1)), (aU, .inr (1, [.ref u1, .ref u2, .ref u3, .int st.2.1.2.2.2])), (u1, .inl (dA, 1024, .inl st.2.1.1)), (u2, .inl (dA, 32, .inl st.2.1.2.1)), (u3, .inl (dA, 32, .inl st.2.1.2.2.1)), (qk, .inl (dA, 400, .inl st.2.2.1)), (qr, .inl (dA, 400, .inl st.2.2.2.1))] ∧ rn_ U ∧ rz_ tP tG tC (va_A [(d0, .inr (2, [.ref aT, .ref qc, .ref aU, .ref qk, .ref qr, .int (nI now), .int (nI st.2.2.2.2.1), .int (rb_z st.2.2.2.2.2)])), (qc, .inl (dA, 4, .inl st.1)), (aT, .inr (1, [.ref t1, .ref t2, .ref t3, .int he.2.2.2])), (t1, .inl (dA, 1024, .inl he.1)), (t2, .inl (dA, 32, .inl he.2.1)), (t3, .inl (dA, 32, .inl he.2.2.1)), (aU, .inr (1, [.ref u1, .ref u2, .ref u3, .int st.2.1.2.2.2])), (u1, .inl (dA, 1024, .inl st.2.1.1)), (u2, .inl (dA, 32, .inl st.2.1.2.1)), (u3, .inl (dA, 32, .inl st.2.1.2.2.1)), (qk, .inl (dA, 400, .inl st.2.2.1)), (qr, .inl (dA, 400, .inl st.2.2.2.1))] sz) U)) (va_Qv (fun (_ : Unit) => True) (fun (_ : Unit) t => va_P (dC, dI) classes [(d0, .inr (2, [.ref aT, .ref qc, .ref aU, .ref qk, .ref qr, .int (nI now), .int (nI (rd_add now c0 st).2.2.2.2.1), .int (rb_z (rd_add now c0 st).2.2.2.2.2)])), (qc, .inl (dA, 4, .inl (rd_add now c0 st).1)), (aT, .inr (1, [.ref t1, .ref t2, .ref t3, .int he.2.2.2])), (t1, .inl (dA, 1024, .inl he.1)), (t2, .inl (dA, 32, .inl he.2.1)), (t3, .inl (dA, 32, .inl he.2.2.1)), (aU, .inr (1, [.ref u1, .ref u2, .ref u3, .int ((rd_add now c0 st).2.1.2.2.2)])), (u1, .inl (dA, 1024, .inl ((rd_add now c0 st).2.1.1))), (u2, .inl (dA, 32, .inl ((rd_add now c0 st).2.1.2.1))), (u3, .inl (dA, 32, .inl ((rd_add now c0 st).2.1.2.2.1))), (qk, .inl (dA, 400, .inl (rd_add now c0 st).2.2.1)), (qr, .inl (dA, 400, .inl (rd_add now c0 st).2.2.2.1))] t.heap ∧ va_D (va_A [(d0, .inr (2, [.ref aT, .ref qc, .ref aU, .ref qk, .ref qr, .int (nI now), .int (nI st.2.2.2.2.1), .int (rb_z st.2.2.2.2.2)])), (qc, .inl (dA, 4, .inl st.1)), (aT, .inr (1, [.ref t1, .ref t2, .ref t3, .int he.2.2.2])), (t1, .inl (dA, 1024, .inl he.1)), (t2, .inl (dA, 32, .inl he.2.1)), (t3, .inl (dA, 32, .inl he.2.2.1)), (aU, .inr (1, [.ref u1, .ref u2, .ref u3, .int st.2.1.2.2.2])), (u1, .inl (dA, 1024, .inl st.2.1.1)), (u2, .inl (dA, 32, .inl st.2.1.2.1)), (u3, .inl (dA, 32, .inl st.2.1.2.2.1)), (qk, .inl (dA, 400, .inl st.2.2.1)), (qr, .inl (dA, 400, .inl st.2.2.2.1))] sz) [(d0, .inr (2, [.ref aT, .ref qc, .ref aU, .ref qk, .ref qr, .int (nI now), .int (nI (rd_add now c0 st).2.2.2.2.1), .int (rb_z (rd_add now c0 st).2.2.2.2.2)])), (qc, .inl (dA, 4, .inl (rd_add now c0 st).1)), (aT, .inr (1, [.ref t1, .ref t2, .ref t3, .int he.2.2.2])), (t1, .inl (dA, 1024, .inl he.1)), (t2, .inl (dA, 32, .inl he.2.1)), (t3, .inl (dA, 32, .inl he.2.2.1)), (aU, .inr (1, [.ref u1, .ref u2, .ref u3, .int ((rd_add now c0 st).2.1.2.2.2)])), (u1, .inl (dA, 1024, .inl ((rd_add now c0 st).2.1.1))), (u2, .inl (dA, 32, .inl ((rd_add now c0 st).2.1.2.1))), (u3, .inl (dA, 32, .inl ((rd_add now c0 st).2.1.2.2.1))), (qk, .inl (dA, 400, .inl (rd_add now c0 st).2.2.1)), (qr, .inl (dA, 400, .inl (rd_add now c0 st).2.2.2.1))]) (va_A [(d0, .inr (2, [.ref aT, .ref qc, .ref aU, .ref qk, .ref qr, .int (nI now), .int (nI st.2.2.2.2.1), .int (rb_z st.2.2.2.2.2)])), (qc, .inl (dA, 4, .inl st.1)), (aT, .inr (1, [.ref t1, .ref t2, .ref t3, .int he.2.2.2])), (t1, .inl (dA, 1024, .inl he.1)), (t2, .inl (dA, 32, .inl he.2.1)), (t3, .inl (dA, 32, .inl he.2.2.1)), (aU, .inr (1, [.ref u1, .ref u2, .ref u3, .int st.2.1.2.2.2])), (u1, .inl (dA, 1024, .inl st.2.1.1)), (u2, .inl (dA, 32, .inl st.2.1.2.1)), (u3, .inl (dA, 32, .inl st.2.1.2.2.1)), (qk, .inl (dA, 400, .inl st.2.2.1)), (qr, .inl (dA, 400, .inl st.2.2.2.1))] sz)) 0 0 (va_A [(d0, .inr (2, [.ref aT, .ref qc, .ref aU, .ref qk, .ref qr, .int (nI now), .int (nI st.2.2.2.2.1), .int (rb_z st.2.2.2.2.2)])), (qc, .inl (dA, 4, .inl st.1)), (aT, .inr (1, [.ref t1, .ref t2, .ref t3, .int he.2.2.2])), (t1, .inl (dA, 1024, .inl he.1)), (t2, .inl (dA, 32, .inl he.2.1)), (t3, .inl (dA, 32, .inl he.2.2.1)), (aU, .inr (1, [.ref u1, .ref u2, .ref u3, .int st.2.1.2.2.2])), (u1, .inl (dA, 1024, .inl st.2.1.1)), (u2, .inl (dA, 32, .inl st.2.1.2.1)), (u3, .inl (dA, 32, .inl st.2.1.2.2.1)), (qk, .inl (dA, 400, .inl st.2.2.1)), (qr, .inl (dA, 400, .inl st.2.2.2.1))] sz) := by
  refine Met.ofW (cc := b_De_add) (maxL := 2) (ret := none) (by decide) rfl ?_
  intro p e s m args below meth c s₁ B hml hv
  obtain ⟨rfl, hsz, hP, hK, hD0, hN, hZ⟩ := hv
  have hx := B.exec
  have hb := B.bytes
  have hr := B.returns
  have hts := atoms_spec (ws := (w_ y_De_add b_De_add 2 none)) B.pre
  have hown : s.vm.findClass R_De = some m.cls := findClass_of_methodNamed B.named
  have hlocks := B.notSynchronized
  subst hsz
  have hD := hD0.self (sz := s.heap.size)
  generalize hAe : va_A [(d0, .inr (2, [.ref aT, .ref qc, .ref aU, .ref qk, .ref qr, .int (nI now), .int (nI st.2.2.2.2.1), .int (rb_z st.2.2.2.2.2)])), (qc, .inl (dA, 4, .inl st.1)), (aT, .inr (1, [.ref t1, .ref t2, .ref t3, .int he.2.2.2])), (t1, .inl (dA, 1024, .inl he.1)), (t2, .inl (dA, 32, .inl he.2.1)), (t3, .inl (dA, 32, .inl he.2.2.1)), (aU, .inr (1, [.ref u1, .ref u2, .ref u3, .int st.2.1.2.2.2])), (u1, .inl (dA, 1024, .inl st.2.1.1)), (u2, .inl (dA, 32, .inl st.2.1.2.1)), (u3, .inl (dA, 32, .inl st.2.1.2.2.1)), (qk, .inl (dA, 400, .inl st.2.2.1)), (qr, .inl (dA, 400, .inl st.2.2.2.1))] s.heap.size = A at hD hZ ⊢
  have hA : ∀ q : Nat, s.heap.size ≤ q → A q := fun q h => by rw [← hAe]; exact Or.inr h
  have hS : va_S A s.heap s.heap [] := va_S.rf
  have hl := lv_entry ([.ref d0, .int (nI c0)]) (n := 2) (Nat.le_of_ble_eq_true rfl)
  rw [lg_entry_eq]
  generalize (lg_sl ([.ref d0, .int (nI c0)]) ++ List.replicate (2 - (lg_sl ([.ref d0, .int (nI c0)])).length) Slot.unset).toArray = ls at hl ⊢
  have hl : lv_has ls 2 [(0, .ref d0), (1, .int (nI c0))] := hl
  refine lv_aload_n hx hb d_De_add_0 rfl (lv_at hl 0 rfl) ?_
  refine va_get (D := (dC, dI)) (ci := 2) (v := .ref aU) (C := R_De) (T := F_De) (N := 8) hx hb hts (rg_c i_De) hown hK hP 0 rfl rfl 2 (by decide) (hts _ (List.mem_cons_of_mem _ m_52)) (fun _ h9 => h9) rfl d_De_add_1 ?_
  refine lv_iload_n hx hb d_De_add_4 rfl (lv_at hl 1 rfl) ?_
  refine rv_calli (r := if rb_b (st.2.1.1 (c0 / 32)) (c0 % 32) then nI 1 else nI 0) (va_runV (As := [.int (nI c0)]) (rest := []) ⟨hx, hb, hml, hown, hts⟩ (c_Tr_has l dC dI dA aU u1 u2 u3 st.2.1.1 st.2.1.2.1 st.2.1.2.2.1 st.2.1.2.2.2 c0 (by omega)) (cwV 1 hts (rg_V (rg4 m_175 m_176 m_177 m_2) k_Tr_has) rfl rfl rfl (by decide +kernel) ⟨Nat.le_of_ble_eq_true rfl, Nat.le_of_ble_eq_true rfl⟩) ⟨fun a U g mk q => ⟨q.1, va_K.moved (u := U) (U := U.calling g mk a) (Vm.Alike.refl U.vm) q.2.1, q.2.2⟩, va_recv hK hP (ci := 1) (q0 := 6) rfl rfl, fun U hU hW => ⟨rfl, va_K.moved hW.alike hK, by rw [hU]; exact hP.sub (ws' := [(aU, .inr (1, [.ref u1, .ref u2, .ref u3, .int st.2.1.2.2.2])), (u1, .inl (dA, 1024, .inl st.2.1.1)), (u2, .inl (dA, 32, .inl st.2.1.2.1)), (u3, .inl (dA, 32, .inl st.2.1.2.2.1))]) [6, 7, 8, 9] rfl⟩⟩ rfl rfl hl.1 rfl (lv_room (Nat.le_of_ble_eq_true rfl)) d_De_add_5 ⟨Nat.zero_le _, Nat.zero_le _⟩) hS (fun _ h => h.elim) (fun H locs hk hS => ?_)
  have hP := rv_kept hP hk
  rcases hq : rb_b (st.2.1.1 (c0 / 32)) (c0 % 32) with _ | _
  · refine rv_eq (y := nI 0) (rfl) ?_
    refine rv_if_eq (tgt := 12) hx hb d_De_add_8 (by decide) (by omega) (fun c_8 => ?_) (fun c_8 => absurd c_8 (by omega))
    refine lv_aload_n hx hb d_De_add_12 rfl (lv_at hl 0 rfl) ?_
    refine va_get (D := (dC, dI)) (ci := 2) (v := .int (nI st.2.2.2.2.1)) (C := R_De) (T := F_De) (N := 8) hx hb hts (rg_c i_De) hown hK hP 0 rfl rfl 6 (by decide) (hts _ (List.mem_cons_of_mem _ m_56)) (fun _ h9 => h9) rfl d_De_add_13 ?_
    refine lv_sipush (v := nI 400) hx hb d_De_add_16 (by decide) ?_
    refine rv_icmp_lt (tgt := 28) hx hb d_De_add_19 (by decide) (by omega) (by omega) (fun c_19 => ?_) (fun c_19 => ?_)
    · refine lv_aload_n hx hb d_De_add_28 rfl (lv_at hl 0 rfl) ?_
      refine va_get (D := (dC, dI)) (ci := 2) (v := .ref aU) (C := R_De) (T := F_De) (N := 8) hx hb hts (rg_c i_De) hown hK hP 0 rfl rfl 2 (by decide) (hts _ (List.mem_cons_of_mem _ m_52)) (fun _ h9 => h9) rfl d_De_add_29 ?_
      refine lv_iload_n hx hb d_De_add_32 rfl (lv_at hl 1 rfl) ?_
      have hPc := hP.sub (ws' := [(aU, .inr (1, [.ref u1, .ref u2, .ref u3, .int st.2.1.2.2.2])), (u1, .inl (dA, 1024, .inl st.2.1.1)), (u2, .inl (dA, 32, .inl st.2.1.2.1)), (u3, .inl (dA, 32, .inl st.2.1.2.2.1))]) [6, 7, 8, 9] rfl
      have hDc := hD.sub (ws' := [(aU, .inr (1, [.ref u1, .ref u2, .ref u3, .int st.2.1.2.2.2])), (u1, .inl (dA, 1024, .inl st.2.1.1)), (u2, .inl (dA, 32, .inl st.2.1.2.1)), (u3, .inl (dA, 32, .inl st.2.1.2.2.1))]) [6, 7, 8, 9] (by decide) rfl
      have hFc := va_free (wc := [(aU, .inr (1, [.ref u1, .ref u2, .ref u3, .int st.2.1.2.2.2])), (u1, .inl (dA, 1024, .inl st.2.1.1)), (u2, .inl (dA, 32, .inl st.2.1.2.1)), (u3, .inl (dA, 32, .inl st.2.1.2.2.1))]) hD hS hA [6, 7, 8, 9] rfl
      refine va_callv (va_runV (As := [.int (nI c0)]) (rest := []) ⟨hx, hb, hml, hown, hts⟩ (c_Tr_put l dC dI dA aU u1 u2 u3 st.2.1.1 st.2.1.2.1 st.2.1.2.2.1 st.2.1.2.2.2 c0 H.size (by omega)) (cwV 1 hts (rg_V (rg4 m_180 m_181 m_182 m_2) k_Tr_put) rfl rfl rfl (by decide +kernel) ⟨Nat.le_of_ble_eq_true rfl, Nat.le_of_ble_eq_true rfl⟩) ⟨fun a U g mk q => ⟨q.1, q.2.1, q.2.2.1, va_K.moved (u := U) (U := U.calling g mk a) (Vm.Alike.refl U.vm) q.2.2.2.1, q.2.2.2.2⟩, va_recv hK hPc (ci := 1) (q0 := 0) rfl rfl, fun U hU hW => ⟨rfl, by rw [hU], by rw [hU]; exact hPc, va_K.moved hW.alike hK, hDc.weaken (fun _ _ _ _ => trivial)⟩⟩ rfl rfl hl.1 rfl (lv_room (Nat.le_of_ble_eq_true rfl)) d_De_add_33 ⟨Nat.zero_le _, Nat.zero_le _⟩) hS (fun q _ h => hFc q h) hFc (fun u t H1 locs ht hvm hw hB hz1 hk1 hS => ?_)
      obtain ⟨hP1, hD1⟩ := hB
      rw [ht] at hP1
      obtain ⟨hP, hD⟩ := va_join (wr := [(d0, .inr (2, [.ref aT, .ref qc, .ref aU, .ref qk, .ref qr, .int (nI now), .int (nI st.2.2.2.2.1), .int (rb_z st.2.2.2.2.2)])), (qc, .inl (dA, 4, .inl st.1)), (aT, .inr (1, [.ref t1, .ref t2, .ref t3, .int he.2.2.2])), (t1, .inl (dA, 1024, .inl he.1)), (t2, .inl (dA, 32, .inl he.2.1)), (t3, .inl (dA, 32, .inl he.2.2.1)), (qk, .inl (dA, 400, .inl st.2.2.1)), (qr, .inl (dA, 400, .inl st.2.2.2.1))]) (w1 := [(aU, .inr (1, [.ref u1, .ref u2, .ref u3, .int (st.2.1.2.2.2 ||| (nI 1) <<< (nI (c0 / 32 / 32) &&& 31))])), (u1, .inl (dA, 1024, .inl (upd st.2.1.1 (c0 / 32) (st.2.1.1 (c0 / 32) ||| (nI 1) <<< (nI (c0 % 32) &&& 31))))), (u2, .inl (dA, 32, .inl (upd st.2.1.2.1 (c0 / 32 % 32) (st.2.1.2.1 (c0 / 32 % 32) ||| (nI 1) <<< (nI (c0 / 32 / 32) &&& 31))))), (u3, .inl (dA, 32, .inl (upd st.2.1.2.2.1 (c0 / 32 / 32) (st.2.1.2.2.1 (c0 / 32 / 32) ||| (nI 1) <<< (nI (c0 / 32 % 32) &&& 31)))))]) hP hD [6, 7, 8, 9] [0, 1, 2, 3, 4, 5, 10, 11] rfl rfl (by decide) (by decide) hk1 hFc hP1 hD1
      clear hk1 hFc hPc hDc hP1 hD1
      generalize H1 = H at hP hS ⊢
      have hP : va_P (dC, dI) classes [(d0, .inr (2, [.ref aT, .ref qc, .ref aU, .ref qk, .ref qr, .int (nI now), .int (nI st.2.2.2.2.1), .int (rb_z st.2.2.2.2.2)])), (qc, .inl (dA, 4, .inl st.1)), (aT, .inr (1, [.ref t1, .ref t2, .ref t3, .int he.2.2.2])), (t1, .inl (dA, 1024, .inl he.1)), (t2, .inl (dA, 32, .inl he.2.1)), (t3, .inl (dA, 32, .inl he.2.2.1)), (aU, .inr (1, [.ref u1, .ref u2, .ref u3, .int (st.2.1.2.2.2 ||| (nI 1) <<< (nI (c0 / 32 / 32) &&& 31))])), (u1, .inl (dA, 1024, .inl (upd st.2.1.1 (c0 / 32) (st.2.1.1 (c0 / 32) ||| (nI 1) <<< (nI (c0 % 32) &&& 31))))), (u2, .inl (dA, 32, .inl (upd st.2.1.2.1 (c0 / 32 % 32) (st.2.1.2.1 (c0 / 32 % 32) ||| (nI 1) <<< (nI (c0 / 32 / 32) &&& 31))))), (u3, .inl (dA, 32, .inl (upd st.2.1.2.2.1 (c0 / 32 / 32) (st.2.1.2.2.1 (c0 / 32 / 32) ||| (nI 1) <<< (nI (c0 / 32 % 32) &&& 31))))), (qk, .inl (dA, 400, .inl st.2.2.1)), (qr, .inl (dA, 400, .inl st.2.2.2.1))] H := hP.sub [0, 1, 2, 3, 4, 5, 8, 9, 10, 11, 6, 7] rfl
      have hD : va_D A [(d0, .inr (2, [.ref aT, .ref qc, .ref aU, .ref qk, .ref qr, .int (nI now), .int (nI st.2.2.2.2.1), .int (rb_z st.2.2.2.2.2)])), (qc, .inl (dA, 4, .inl st.1)), (aT, .inr (1, [.ref t1, .ref t2, .ref t3, .int he.2.2.2])), (t1, .inl (dA, 1024, .inl he.1)), (t2, .inl (dA, 32, .inl he.2.1)), (t3, .inl (dA, 32, .inl he.2.2.1)), (aU, .inr (1, [.ref u1, .ref u2, .ref u3, .int (st.2.1.2.2.2 ||| (nI 1) <<< (nI (c0 / 32 / 32) &&& 31))])), (u1, .inl (dA, 1024, .inl (upd st.2.1.1 (c0 / 32) (st.2.1.1 (c0 / 32) ||| (nI 1) <<< (nI (c0 % 32) &&& 31))))), (u2, .inl (dA, 32, .inl (upd st.2.1.2.1 (c0 / 32 % 32) (st.2.1.2.1 (c0 / 32 % 32) ||| (nI 1) <<< (nI (c0 / 32 / 32) &&& 31))))), (u3, .inl (dA, 32, .inl (upd st.2.1.2.2.1 (c0 / 32 / 32) (st.2.1.2.2.1 (c0 / 32 / 32) ||| (nI 1) <<< (nI (c0 / 32 % 32) &&& 31))))), (qk, .inl (dA, 400, .inl st.2.2.1)), (qr, .inl (dA, 400, .inl st.2.2.2.1))] := hD.sub [0, 1, 2, 3, 4, 5, 8, 9, 10, 11, 6, 7] (by decide) rfl
      refine lv_aload_n hx hb d_De_add_36 rfl (lv_at hl 0 rfl) ?_
      refine va_get (D := (dC, dI)) (ci := 2) (v := .ref qk) (C := R_De) (T := F_De) (N := 8) hx hb hts (rg_c i_De) hown hK hP 0 rfl rfl 3 (by decide) (hts _ (List.mem_cons_of_mem _ m_53)) (fun _ h9 => h9) rfl d_De_add_37 ?_
      refine lv_aload_n hx hb d_De_add_40 rfl (lv_at hl 0 rfl) ?_
      refine va_get (D := (dC, dI)) (ci := 2) (v := .int (nI st.2.2.2.2.1)) (C := R_De) (T := F_De) (N := 8) hx hb hts (rg_c i_De) hown hK hP 0 rfl rfl 6 (by decide) (hts _ (List.mem_cons_of_mem _ m_56)) (fun _ h9 => h9) rfl d_De_add_41 ?_
      refine lv_iload_n hx hb d_De_add_44 rfl (lv_at hl 1 rfl) ?_
      refine rv_ast (k := st.2.2.2.2.1) (x := nI c0) hx hb hK hP hD hS 10 0 rfl rfl (by omega) (by decide) d_De_add_45 (fun H locs hP hD hS => ?_)
      have hP : va_P (dC, dI) classes [(d0, .inr (2, [.ref aT, .ref qc, .ref aU, .ref qk, .ref qr, .int (nI now), .int (nI st.2.2.2.2.1), .int (rb_z st.2.2.2.2.2)])), (qc, .inl (dA, 4, .inl st.1)), (aT, .inr (1, [.ref t1, .ref t2, .ref t3, .int he.2.2.2])), (t1, .inl (dA, 1024, .inl he.1)), (t2, .inl (dA, 32, .inl he.2.1)), (t3, .inl (dA, 32, .inl he.2.2.1)), (aU, .inr (1, [.ref u1, .ref u2, .ref u3, .int (st.2.1.2.2.2 ||| (nI 1) <<< (nI (c0 / 32 / 32) &&& 31))])), (u1, .inl (dA, 1024, .inl (upd st.2.1.1 (c0 / 32) (st.2.1.1 (c0 / 32) ||| (nI 1) <<< (nI (c0 % 32) &&& 31))))), (u2, .inl (dA, 32, .inl (upd st.2.1.2.1 (c0 / 32 % 32) (st.2.1.2.1 (c0 / 32 % 32) ||| (nI 1) <<< (nI (c0 / 32 / 32) &&& 31))))), (u3, .inl (dA, 32, .inl (upd st.2.1.2.2.1 (c0 / 32 / 32) (st.2.1.2.2.1 (c0 / 32 / 32) ||| (nI 1) <<< (nI (c0 / 32 % 32) &&& 31))))), (qk, .inl (dA, 400, .inl (upd st.2.2.1 st.2.2.2.2.1 (nI c0)))), (qr, .inl (dA, 400, .inl st.2.2.2.1))] H := hP
      have hD : va_D A [(d0, .inr (2, [.ref aT, .ref qc, .ref aU, .ref qk, .ref qr, .int (nI now), .int (nI st.2.2.2.2.1), .int (rb_z st.2.2.2.2.2)])), (qc, .inl (dA, 4, .inl st.1)), (aT, .inr (1, [.ref t1, .ref t2, .ref t3, .int he.2.2.2])), (t1, .inl (dA, 1024, .inl he.1)), (t2, .inl (dA, 32, .inl he.2.1)), (t3, .inl (dA, 32, .inl he.2.2.1)), (aU, .inr (1, [.ref u1, .ref u2, .ref u3, .int (st.2.1.2.2.2 ||| (nI 1) <<< (nI (c0 / 32 / 32) &&& 31))])), (u1, .inl (dA, 1024, .inl (upd st.2.1.1 (c0 / 32) (st.2.1.1 (c0 / 32) ||| (nI 1) <<< (nI (c0 % 32) &&& 31))))), (u2, .inl (dA, 32, .inl (upd st.2.1.2.1 (c0 / 32 % 32) (st.2.1.2.1 (c0 / 32 % 32) ||| (nI 1) <<< (nI (c0 / 32 / 32) &&& 31))))), (u3, .inl (dA, 32, .inl (upd st.2.1.2.2.1 (c0 / 32 / 32) (st.2.1.2.2.1 (c0 / 32 / 32) ||| (nI 1) <<< (nI (c0 / 32 % 32) &&& 31))))), (qk, .inl (dA, 400, .inl (upd st.2.2.1 st.2.2.2.2.1 (nI c0)))), (qr, .inl (dA, 400, .inl st.2.2.2.1))] := hD
      refine lv_aload_n hx hb d_De_add_46 rfl (lv_at hl 0 rfl) ?_
      refine va_get (D := (dC, dI)) (ci := 2) (v := .ref qr) (C := R_De) (T := F_De) (N := 8) hx hb hts (rg_c i_De) hown hK hP 0 rfl rfl 4 (by decide) (hts _ (List.mem_cons_of_mem _ m_54)) (fun _ h9 => h9) rfl d_De_add_47 ?_
      refine lv_aload_n hx hb d_De_add_50 rfl (lv_at hl 0 rfl) ?_
      refine va_get (D := (dC, dI)) (ci := 2) (v := .int (nI st.2.2.2.2.1)) (C := R_De) (T := F_De) (N := 8) hx hb hts (rg_c i_De) hown hK hP 0 rfl rfl 6 (by decide) (hts _ (List.mem_cons_of_mem _ m_56)) (fun _ h9 => h9) rfl d_De_add_51 ?_
      refine lv_aload_n hx hb d_De_add_54 rfl (lv_at hl 0 rfl) ?_
      refine va_get (D := (dC, dI)) (ci := 2) (v := .int (nI now)) (C := R_De) (T := F_De) (N := 8) hx hb hts (rg_c i_De) hown hK hP 0 rfl rfl 5 (by decide) (hts _ (List.mem_cons_of_mem _ m_55)) (fun _ h9 => h9) rfl d_De_add_55 ?_
      refine rv_ast (k := st.2.2.2.2.1) (x := nI now) hx hb hK hP hD hS 11 0 rfl rfl (by omega) (by decide) d_De_add_58 (fun H locs hP hD hS => ?_)
      have hP : va_P (dC, dI) classes [(d0, .inr (2, [.ref aT, .ref qc, .ref aU, .ref qk, .ref qr, .int (nI now), .int (nI st.2.2.2.2.1), .int (rb_z st.2.2.2.2.2)])), (qc, .inl (dA, 4, .inl st.1)), (aT, .inr (1, [.ref t1, .ref t2, .ref t3, .int he.2.2.2])), (t1, .inl (dA, 1024, .inl he.1)), (t2, .inl (dA, 32, .inl he.2.1)), (t3, .inl (dA, 32, .inl he.2.2.1)), (aU, .inr (1, [.ref u1, .ref u2, .ref u3, .int (st.2.1.2.2.2 ||| (nI 1) <<< (nI (c0 / 32 / 32) &&& 31))])), (u1, .inl (dA, 1024, .inl (upd st.2.1.1 (c0 / 32) (st.2.1.1 (c0 / 32) ||| (nI 1) <<< (nI (c0 % 32) &&& 31))))), (u2, .inl (dA, 32, .inl (upd st.2.1.2.1 (c0 / 32 % 32) (st.2.1.2.1 (c0 / 32 % 32) ||| (nI 1) <<< (nI (c0 / 32 / 32) &&& 31))))), (u3, .inl (dA, 32, .inl (upd st.2.1.2.2.1 (c0 / 32 / 32) (st.2.1.2.2.1 (c0 / 32 / 32) ||| (nI 1) <<< (nI (c0 / 32 % 32) &&& 31))))), (qk, .inl (dA, 400, .inl (upd st.2.2.1 st.2.2.2.2.1 (nI c0)))), (qr, .inl (dA, 400, .inl (upd st.2.2.2.1 st.2.2.2.2.1 (nI now))))] H := hP
      have hD : va_D A [(d0, .inr (2, [.ref aT, .ref qc, .ref aU, .ref qk, .ref qr, .int (nI now), .int (nI st.2.2.2.2.1), .int (rb_z st.2.2.2.2.2)])), (qc, .inl (dA, 4, .inl st.1)), (aT, .inr (1, [.ref t1, .ref t2, .ref t3, .int he.2.2.2])), (t1, .inl (dA, 1024, .inl he.1)), (t2, .inl (dA, 32, .inl he.2.1)), (t3, .inl (dA, 32, .inl he.2.2.1)), (aU, .inr (1, [.ref u1, .ref u2, .ref u3, .int (st.2.1.2.2.2 ||| (nI 1) <<< (nI (c0 / 32 / 32) &&& 31))])), (u1, .inl (dA, 1024, .inl (upd st.2.1.1 (c0 / 32) (st.2.1.1 (c0 / 32) ||| (nI 1) <<< (nI (c0 % 32) &&& 31))))), (u2, .inl (dA, 32, .inl (upd st.2.1.2.1 (c0 / 32 % 32) (st.2.1.2.1 (c0 / 32 % 32) ||| (nI 1) <<< (nI (c0 / 32 / 32) &&& 31))))), (u3, .inl (dA, 32, .inl (upd st.2.1.2.2.1 (c0 / 32 / 32) (st.2.1.2.2.1 (c0 / 32 / 32) ||| (nI 1) <<< (nI (c0 / 32 % 32) &&& 31))))), (qk, .inl (dA, 400, .inl (upd st.2.2.1 st.2.2.2.2.1 (nI c0)))), (qr, .inl (dA, 400, .inl (upd st.2.2.2.1 st.2.2.2.2.1 (nI now))))] := hD
      refine lv_aload_n hx hb d_De_add_59 rfl (lv_at hl 0 rfl) ?_
      refine lv_dup hx hb d_De_add_60 rfl ?_
      refine va_get (D := (dC, dI)) (ci := 2) (v := .int (nI st.2.2.2.2.1)) (C := R_De) (T := F_De) (N := 8) hx hb hts (rg_c i_De) hown hK hP 0 rfl rfl 6 (by decide) (hts _ (List.mem_cons_of_mem _ m_56)) (fun _ h9 => h9) rfl d_De_add_61 ?_
      refine lv_iconst (v := nI 1) hx hb d_De_add_64 (by decide) ?_
      refine rv_iadd hx hb d_De_add_65 ?_
      refine va_put (D := (dC, dI)) (ci := 2) (v := .int (nI (st.2.2.2.2.1 + 1))) (ty := .int) (C := R_De) (T := F_De) (N := 8) hx hb hts (rg_c i_De) t_De t_De_ok n_De hown hK hP hD hS 0 rfl rfl 6 (by decide) (hts _ (List.mem_cons_of_mem _ m_56)) (fun _ h9 => h9) rfl (by decide +kernel) (by rfl) (by rfl) (Nat.le_of_ble_eq_true rfl) d_De_add_66 (fun H locs hP hD hS => ?_)
      have hP : va_P (dC, dI) classes [(d0, .inr (2, [.ref aT, .ref qc, .ref aU, .ref qk, .ref qr, .int (nI now), .int (nI (st.2.2.2.2.1 + 1)), .int (rb_z st.2.2.2.2.2)])), (qc, .inl (dA, 4, .inl st.1)), (aT, .inr (1, [.ref t1, .ref t2, .ref t3, .int he.2.2.2])), (t1, .inl (dA, 1024, .inl he.1)), (t2, .inl (dA, 32, .inl he.2.1)), (t3, .inl (dA, 32, .inl he.2.2.1)), (aU, .inr (1, [.ref u1, .ref u2, .ref u3, .int (st.2.1.2.2.2 ||| (nI 1) <<< (nI (c0 / 32 / 32) &&& 31))])), (u1, .inl (dA, 1024, .inl (upd st.2.1.1 (c0 / 32) (st.2.1.1 (c0 / 32) ||| (nI 1) <<< (nI (c0 % 32) &&& 31))))), (u2, .inl (dA, 32, .inl (upd st.2.1.2.1 (c0 / 32 % 32) (st.2.1.2.1 (c0 / 32 % 32) ||| (nI 1) <<< (nI (c0 / 32 / 32) &&& 31))))), (u3, .inl (dA, 32, .inl (upd st.2.1.2.2.1 (c0 / 32 / 32) (st.2.1.2.2.1 (c0 / 32 / 32) ||| (nI 1) <<< (nI (c0 / 32 % 32) &&& 31))))), (qk, .inl (dA, 400, .inl (upd st.2.2.1 st.2.2.2.2.1 (nI c0)))), (qr, .inl (dA, 400, .inl (upd st.2.2.2.1 st.2.2.2.2.1 (nI now))))] H := hP
      have hD : va_D A [(d0, .inr (2, [.ref aT, .ref qc, .ref aU, .ref qk, .ref qr, .int (nI now), .int (nI (st.2.2.2.2.1 + 1)), .int (rb_z st.2.2.2.2.2)])), (qc, .inl (dA, 4, .inl st.1)), (aT, .inr (1, [.ref t1, .ref t2, .ref t3, .int he.2.2.2])), (t1, .inl (dA, 1024, .inl he.1)), (t2, .inl (dA, 32, .inl he.2.1)), (t3, .inl (dA, 32, .inl he.2.2.1)), (aU, .inr (1, [.ref u1, .ref u2, .ref u3, .int (st.2.1.2.2.2 ||| (nI 1) <<< (nI (c0 / 32 / 32) &&& 31))])), (u1, .inl (dA, 1024, .inl (upd st.2.1.1 (c0 / 32) (st.2.1.1 (c0 / 32) ||| (nI 1) <<< (nI (c0 % 32) &&& 31))))), (u2, .inl (dA, 32, .inl (upd st.2.1.2.1 (c0 / 32 % 32) (st.2.1.2.1 (c0 / 32 % 32) ||| (nI 1) <<< (nI (c0 / 32 / 32) &&& 31))))), (u3, .inl (dA, 32, .inl (upd st.2.1.2.2.1 (c0 / 32 / 32) (st.2.1.2.2.1 (c0 / 32 / 32) ||| (nI 1) <<< (nI (c0 / 32 % 32) &&& 31))))), (qk, .inl (dA, 400, .inl (upd st.2.2.1 st.2.2.2.2.1 (nI c0)))), (qr, .inl (dA, 400, .inl (upd st.2.2.2.1 st.2.2.2.2.1 (nI now))))] := hD
      exact W.vret hx hb hr (fun t ht hW => ⟨⟨(), rfl, trivial, by rw [ht]; rw [show rd_add now c0 st = (st.1, rx_put c0 st.2.1, upd st.2.2.1 st.2.2.2.2.1 (nI c0), upd st.2.2.2.1 st.2.2.2.2.1 (nI now), st.2.2.2.2.1 + 1, st.2.2.2.2.2) from by unfold rd_add; rw [if_neg (by rw [hq]; simp), if_neg (by omega)]]; exact hP, by rw [show rd_add now c0 st = (st.1, rx_put c0 st.2.1, upd st.2.2.1 st.2.2.2.2.1 (nI c0), upd st.2.2.2.1 st.2.2.2.2.1 (nI now), st.2.2.2.2.1 + 1, st.2.2.2.2.2) from by unfold rd_add; rw [if_neg (by rw [hq]; simp), if_neg (by omega)]]; exact hD⟩, hS.F ht⟩) hS.2.2 d_De_add_69
    · refine lv_aload_n hx hb d_De_add_22 rfl (lv_at hl 0 rfl) ?_
      refine lv_iconst (v := nI 1) hx hb d_De_add_23 (by decide) ?_
      refine va_put (D := (dC, dI)) (ci := 2) (v := .int (nI 1)) (ty := .boolean) (C := R_De) (T := F_De) (N := 8) hx hb hts (rg_c i_De) t_De t_De_ok n_De hown hK hP hD hS 0 rfl rfl 7 (by decide) (hts _ (List.mem_cons_of_mem _ m_58)) (fun _ h9 => h9) rfl (by decide +kernel) (by rfl) (by rfl) (Nat.le_of_ble_eq_true rfl) d_De_add_24 (fun H locs hP hD hS => ?_)
      have hP : va_P (dC, dI) classes [(d0, .inr (2, [.ref aT, .ref qc, .ref aU, .ref qk, .ref qr, .int (nI now), .int (nI st.2.2.2.2.1), .int (nI 1)])), (qc, .inl (dA, 4, .inl st.1)), (aT, .inr (1, [.ref t1, .ref t2, .ref t3, .int he.2.2.2])), (t1, .inl (dA, 1024, .inl he.1)), (t2, .inl (dA, 32, .inl he.2.1)), (t3, .inl (dA, 32, .inl he.2.2.1)), (aU, .inr (1, [.ref u1, .ref u2, .ref u3, .int st.2.1.2.2.2])), (u1, .inl (dA, 1024, .inl st.2.1.1)), (u2, .inl (dA, 32, .inl st.2.1.2.1)), (u3, .inl (dA, 32, .inl st.2.1.2.2.1)), (qk, .inl (dA, 400, .inl st.2.2.1)), (qr, .inl (dA, 400, .inl st.2.2.2.1))] H := hP
      have hD : va_D A [(d0, .inr (2, [.ref aT, .ref qc, .ref aU, .ref qk, .ref qr, .int (nI now), .int (nI st.2.2.2.2.1), .int (nI 1)])), (qc, .inl (dA, 4, .inl st.1)), (aT, .inr (1, [.ref t1, .ref t2, .ref t3, .int he.2.2.2])), (t1, .inl (dA, 1024, .inl he.1)), (t2, .inl (dA, 32, .inl he.2.1)), (t3, .inl (dA, 32, .inl he.2.2.1)), (aU, .inr (1, [.ref u1, .ref u2, .ref u3, .int st.2.1.2.2.2])), (u1, .inl (dA, 1024, .inl st.2.1.1)), (u2, .inl (dA, 32, .inl st.2.1.2.1)), (u3, .inl (dA, 32, .inl st.2.1.2.2.1)), (qk, .inl (dA, 400, .inl st.2.2.1)), (qr, .inl (dA, 400, .inl st.2.2.2.1))] := hD
      exact W.vret hx hb hr (fun t ht hW => ⟨⟨(), rfl, trivial, by rw [ht]; rw [show rd_add now c0 st = (st.1, st.2.1, st.2.2.1, st.2.2.2.1, st.2.2.2.2.1, true) from by unfold rd_add; rw [if_neg (by rw [hq]; simp), if_pos (by assumption)]]; exact hP, by rw [show rd_add now c0 st = (st.1, st.2.1, st.2.2.1, st.2.2.2.1, st.2.2.2.2.1, true) from by unfold rd_add; rw [if_neg (by rw [hq]; simp), if_pos (by assumption)]]; exact hD⟩, hS.F ht⟩) hS.2.2 d_De_add_27
  · refine rv_eq (y := nI 1) (rfl) ?_
    refine rv_if_eq (tgt := 12) hx hb d_De_add_8 (by decide) (by omega) (fun c_8 => absurd c_8 (by omega)) (fun c_8 => ?_)
    exact W.vret hx hb hr (fun t ht hW => ⟨⟨(), rfl, trivial, by rw [ht]; rw [show rd_add now c0 st = st from by unfold rd_add; rw [if_pos hq]]; exact hP, by rw [show rd_add now c0 st = st from by unfold rd_add; rw [if_pos hq]]; exact hD⟩, hS.F ht⟩) hS.2.2 d_De_add_11

set_option maxHeartbeats 4000000 in
set_option maxRecDepth 100000 in
theorem c_De_meet (l : Launch) (dC : Nat → ClassId) (dI : Nat → Nat → Nat) (dA : ClassId) (tP tG tC d0 qc aT t1 t2 t3 aU u1 u2 u3 qk qr : Nat) (he : sT) (now r x y z : Nat) (ds : List Nat) (st : sD) (sz : Nat) (hr0 : r < 21) (hd : rt_ok ds) (hcnt : st.2.2.2.2.1 ≤ 400) (hx0 : x < 32) (hy0 : y < 32) (hz0 : z < 32) (h1 : rt_term (rq_given.getD (3 * r) 0) ds = some x) (h2 : rt_term (rq_given.getD (3 * r + 1) 0) ds = some y) (h3 : rt_term (rq_given.getD (3 * r + 2) 0) ds = some z) : Met l y_De_meet (w_ y_De_meet b_De_meet 4 (some .boolean)) (rm_ 2) (va_Pc [.ref d0, .int (nI r), .long (lN (rt_pk ds))] (fun U => U.heap.size = sz ∧ va_P (dC, dI) classes [(d0, .inr (2, [.ref aT, .ref qc, .ref aU, .ref qk, .ref qr, .int (nI now), .int (nI st.2.2.2.2.1), .int (rb_z st.2.2.2.2.2)])), (qc, .inl (dA, 4, .inl st.1)), (aT, .inr (1, [.ref t1, .ref t2, .ref t3, .int he.2.2.2])), (t1, .inl (dA, 1024, .inl he.1)), (t2, .inl (dA, 32, .inl he.2.1)), (t3, .inl (dA, 32, .inl he.2.2.1)), (aU, .inr (1, [.ref u1, .ref u2, .ref u3, .int st.2.1.2.2.2])), (u1, .inl (dA, 1024, .inl st.2.1.1)), (u2, .inl (dA, 32, .inl st.2.1.2.1)), (u3, .inl (dA, 32, .inl st.2.1.2.2.1)), (qk, .inl (dA, 400, .inl st.2.2.1)), (qr, .inl (dA, 400, .inl st.2.2.2.1))] U.heap ∧ va_K (dC, dI) classes [(dA, .int)] U ∧ va_D (fun _ => True) [(d0, .inr (2, [.ref aT, .ref qc, .ref aU, .ref qk, .ref qr, .int (nI now), .int (nI st.2.2.2.2.1), .int (rb_z st.2.2.2.2.2)])), (qc, .inl (dA, 4, .inl st.1)), (aT, .inr (1, [.ref t1, .ref t2, .ref t3, .int he.2.2.2])), (t1, .inl (dA, 1024, .inl he.1)), (t2, .inl (dA, 32, .inl he.2.1)), (t3, .inl (dA, 32, .inl he.2.2.1)), (aU, .inr (1, [.ref u1, .ref u2, .ref u3, .int st.2.1.2.2.2])), (u1, .inl (dA, 1024, .inl st.2.1.1)), (u2, .inl (dA, 32, .inl st.2.1.2.1)), (u3, .inl (dA, 32, .inl st.2.1.2.2.1)), (qk, .inl (dA, 400, .inl st.2.2.1)), (qr, .inl (dA, 400, .inl st.2.2.2.1))] ∧ rn_ U ∧ rz_ tP tG tC (va_A [(d0, .inr (2, [.ref aT, .ref qc, .ref aU, .ref qk, .ref qr, .int (nI now), .int (nI st.2.2.2.2.1), .int (rb_z st.2.2.2.2.2)])), (qc, .inl (dA, 4, .inl st.1)), (aT, .inr (1, [.ref t1, .ref t2, .ref t3, .int he.2.2.2])), (t1, .inl (dA, 1024, .inl he.1)), (t2, .inl (dA, 32, .inl he.2.1)), (t3, .inl (dA, 32, .inl he.2.2.1)), (aU, .inr (1, [.ref u1, .ref u2, .ref u3, .int st.2.1.2.2.2])), (u1, .inl (dA, 1024, .inl st.2.1.1)), (u2, .inl (dA, 32, .inl st.2.1.2.1)), (u3, .inl (dA, 32, .inl st.2.1.2.2.1)), (qk, .inl (dA, 400, .inl st.2.2.1)), (qr, .inl (dA, 400, .inl st.2.2.2.1))] sz) U)) (va_Qi (fun (z9 : Int32) (_ : Unit) => z9 = rb_z (rd_meet now r ds st).2) (fun (_ : Unit) t => va_P (dC, dI) classes [(d0, .inr (2, [.ref aT, .ref qc, .ref aU, .ref qk, .ref qr, .int (nI now), .int (nI ((rd_meet now r ds st).1).2.2.2.2.1), .int (rb_z ((rd_meet now r ds st).1).2.2.2.2.2)])), (qc, .inl (dA, 4, .inl ((rd_meet now r ds st).1).1)), (aT, .inr (1, [.ref t1, .ref t2, .ref t3, .int he.2.2.2])), (t1, .inl (dA, 1024, .inl he.1)), (t2, .inl (dA, 32, .inl he.2.1)), (t3, .inl (dA, 32, .inl he.2.2.1)), (aU, .inr (1, [.ref u1, .ref u2, .ref u3, .int (((rd_meet now r ds st).1).2.1.2.2.2)])), (u1, .inl (dA, 1024, .inl (((rd_meet now r ds st).1).2.1.1))), (u2, .inl (dA, 32, .inl (((rd_meet now r ds st).1).2.1.2.1))), (u3, .inl (dA, 32, .inl (((rd_meet now r ds st).1).2.1.2.2.1))), (qk, .inl (dA, 400, .inl ((rd_meet now r ds st).1).2.2.1)), (qr, .inl (dA, 400, .inl ((rd_meet now r ds st).1).2.2.2.1))] t.heap ∧ va_D (va_A [(d0, .inr (2, [.ref aT, .ref qc, .ref aU, .ref qk, .ref qr, .int (nI now), .int (nI st.2.2.2.2.1), .int (rb_z st.2.2.2.2.2)])), (qc, .inl (dA, 4, .inl st.1)), (aT, .inr (1, [.ref t1, .ref t2, .ref t3, .int he.2.2.2])), (t1, .inl (dA, 1024, .inl he.1)), (t2, .inl (dA, 32, .inl he.2.1)), (t3, .inl (dA, 32, .inl he.2.2.1)), (aU, .inr (1, [.ref u1, .ref u2, .ref u3, .int st.2.1.2.2.2])), (u1, .inl (dA, 1024, .inl st.2.1.1)), (u2, .inl (dA, 32, .inl st.2.1.2.1)), (u3, .inl (dA, 32, .inl st.2.1.2.2.1)), (qk, .inl (dA, 400, .inl st.2.2.1)), (qr, .inl (dA, 400, .inl st.2.2.2.1))] sz) [(d0, .inr (2, [.ref aT, .ref qc, .ref aU, .ref qk, .ref qr, .int (nI now), .int (nI ((rd_meet now r ds st).1).2.2.2.2.1), .int (rb_z ((rd_meet now r ds st).1).2.2.2.2.2)])), (qc, .inl (dA, 4, .inl ((rd_meet now r ds st).1).1)), (aT, .inr (1, [.ref t1, .ref t2, .ref t3, .int he.2.2.2])), (t1, .inl (dA, 1024, .inl he.1)), (t2, .inl (dA, 32, .inl he.2.1)), (t3, .inl (dA, 32, .inl he.2.2.1)), (aU, .inr (1, [.ref u1, .ref u2, .ref u3, .int (((rd_meet now r ds st).1).2.1.2.2.2)])), (u1, .inl (dA, 1024, .inl (((rd_meet now r ds st).1).2.1.1))), (u2, .inl (dA, 32, .inl (((rd_meet now r ds st).1).2.1.2.1))), (u3, .inl (dA, 32, .inl (((rd_meet now r ds st).1).2.1.2.2.1))), (qk, .inl (dA, 400, .inl ((rd_meet now r ds st).1).2.2.1)), (qr, .inl (dA, 400, .inl ((rd_meet now r ds st).1).2.2.2.1))]) (va_A [(d0, .inr (2, [.ref aT, .ref qc, .ref aU, .ref qk, .ref qr, .int (nI now), .int (nI st.2.2.2.2.1), .int (rb_z st.2.2.2.2.2)])), (qc, .inl (dA, 4, .inl st.1)), (aT, .inr (1, [.ref t1, .ref t2, .ref t3, .int he.2.2.2])), (t1, .inl (dA, 1024, .inl he.1)), (t2, .inl (dA, 32, .inl he.2.1)), (t3, .inl (dA, 32, .inl he.2.2.1)), (aU, .inr (1, [.ref u1, .ref u2, .ref u3, .int st.2.1.2.2.2])), (u1, .inl (dA, 1024, .inl st.2.1.1)), (u2, .inl (dA, 32, .inl st.2.1.2.1)), (u3, .inl (dA, 32, .inl st.2.1.2.2.1)), (qk, .inl (dA, 400, .inl st.2.2.1)), (qr, .inl (dA, 400, .inl st.2.2.2.1))] sz)) 0 0 (va_A [(d0, .inr (2, [.ref aT, .ref qc, .ref aU, .ref qk, .ref qr, .int (nI now), .int (nI st.2.2.2.2.1), .int (rb_z st.2.2.2.2.2)])), (qc, .inl (dA, 4, .inl st.1)), (aT, .inr (1, [.ref t1, .ref t2, .ref t3, .int he.2.2.2])), (t1, .inl (dA, 1024, .inl he.1)), (t2, .inl (dA, 32, .inl he.2.1)), (t3, .inl (dA, 32, .inl he.2.2.1)), (aU, .inr (1, [.ref u1, .ref u2, .ref u3, .int st.2.1.2.2.2])), (u1, .inl (dA, 1024, .inl st.2.1.1)), (u2, .inl (dA, 32, .inl st.2.1.2.1)), (u3, .inl (dA, 32, .inl st.2.1.2.2.1)), (qk, .inl (dA, 400, .inl st.2.2.1)), (qr, .inl (dA, 400, .inl st.2.2.2.1))] sz) := by
  refine Met.ofW (cc := b_De_meet) (maxL := 4) (ret := (some .boolean)) (by decide) rfl ?_
  intro p e s m args below meth c s₁ B hml hv
  obtain ⟨rfl, hsz, hP, hK, hD0, hN, hZ⟩ := hv
  have hx := B.exec
  have hb := B.bytes
  have hr := B.returns
  have hts := atoms_spec (ws := (w_ y_De_meet b_De_meet 4 (some .boolean))) B.pre
  have hown : s.vm.findClass R_De = some m.cls := findClass_of_methodNamed B.named
  have hlocks := B.notSynchronized
  subst hsz
  have hD := hD0.self (sz := s.heap.size)
  generalize hAe : va_A [(d0, .inr (2, [.ref aT, .ref qc, .ref aU, .ref qk, .ref qr, .int (nI now), .int (nI st.2.2.2.2.1), .int (rb_z st.2.2.2.2.2)])), (qc, .inl (dA, 4, .inl st.1)), (aT, .inr (1, [.ref t1, .ref t2, .ref t3, .int he.2.2.2])), (t1, .inl (dA, 1024, .inl he.1)), (t2, .inl (dA, 32, .inl he.2.1)), (t3, .inl (dA, 32, .inl he.2.2.1)), (aU, .inr (1, [.ref u1, .ref u2, .ref u3, .int st.2.1.2.2.2])), (u1, .inl (dA, 1024, .inl st.2.1.1)), (u2, .inl (dA, 32, .inl st.2.1.2.1)), (u3, .inl (dA, 32, .inl st.2.1.2.2.1)), (qk, .inl (dA, 400, .inl st.2.2.1)), (qr, .inl (dA, 400, .inl st.2.2.2.1))] s.heap.size = A at hD hZ ⊢
  have hA : ∀ q : Nat, s.heap.size ≤ q → A q := fun q h => by rw [← hAe]; exact Or.inr h
  have hS : va_S A s.heap s.heap [] := va_S.rf
  have hl := lv_entry ([.ref d0, .int (nI r), .long (lN (rt_pk ds))]) (n := 4) (Nat.le_of_ble_eq_true rfl)
  rw [lg_entry_eq]
  generalize (lg_sl ([.ref d0, .int (nI r), .long (lN (rt_pk ds))]) ++ List.replicate (4 - (lg_sl ([.ref d0, .int (nI r), .long (lN (rt_pk ds))])).length) Slot.unset).toArray = ls at hl ⊢
  have hl : lv_has ls 4 [(0, .ref d0), (1, .int (nI r)), (2, .long (lN (rt_pk ds)))] := hl
  refine lv_aload_n hx hb d_De_meet_0 rfl (lv_at hl 0 rfl) ?_
  refine lv_iload_n hx hb d_De_meet_1 rfl (lv_at hl 1 rfl) ?_
  refine lv_lload_n hx hb d_De_meet_2 rfl (lv_at hl 2 rfl) ?_
  refine rv_calli (r := nI (rx_code x y z)) (va_runS (As := [.int (nI r), .long (lN (rt_pk ds))]) (rest := [.ref d0]) ⟨hx, hb, hml, hown, hts⟩ (c_Tb_givenCode l tP tG tC r x y z ds hr0 hd h1 h2 h3) (va_cwS 2 hts (rg_S (rg3 m_230 m_231 m_8) k_Tb_givenCode) rfl rfl rfl (by decide +kernel) ⟨Nat.le_of_ble_eq_true rfl, Nat.le_of_ble_eq_true rfl⟩) ⟨fun a U g mk q => ⟨q.1, rz_same q.2.1, rn_same (u := U) (U := U.calling g mk a) rfl q.2.2⟩, fun U hU hW => ⟨rfl, rz_at hZ hS hU hW (fun _ h => h.elim), rn_warm hW hN⟩⟩ rfl rfl hl.1 rfl (lv_room (Nat.le_of_ble_eq_true rfl)) d_De_meet_3 ⟨Nat.zero_le _, Nat.zero_le _⟩) hS (fun _ h => h.elim) (fun H locs hk hS => ?_)
  have hP := rv_kept hP hk
  have hPc := hP.sub (ws' := [(d0, .inr (2, [.ref aT, .ref qc, .ref aU, .ref qk, .ref qr, .int (nI now), .int (nI st.2.2.2.2.1), .int (rb_z st.2.2.2.2.2)])), (qc, .inl (dA, 4, .inl st.1)), (aT, .inr (1, [.ref t1, .ref t2, .ref t3, .int he.2.2.2])), (t1, .inl (dA, 1024, .inl he.1)), (t2, .inl (dA, 32, .inl he.2.1)), (t3, .inl (dA, 32, .inl he.2.2.1)), (aU, .inr (1, [.ref u1, .ref u2, .ref u3, .int st.2.1.2.2.2])), (u1, .inl (dA, 1024, .inl st.2.1.1)), (u2, .inl (dA, 32, .inl st.2.1.2.1)), (u3, .inl (dA, 32, .inl st.2.1.2.2.1)), (qk, .inl (dA, 400, .inl st.2.2.1)), (qr, .inl (dA, 400, .inl st.2.2.2.1))]) [0, 1, 2, 3, 4, 5, 6, 7, 8, 9, 10, 11] rfl
  have hDc := hD.sub (ws' := [(d0, .inr (2, [.ref aT, .ref qc, .ref aU, .ref qk, .ref qr, .int (nI now), .int (nI st.2.2.2.2.1), .int (rb_z st.2.2.2.2.2)])), (qc, .inl (dA, 4, .inl st.1)), (aT, .inr (1, [.ref t1, .ref t2, .ref t3, .int he.2.2.2])), (t1, .inl (dA, 1024, .inl he.1)), (t2, .inl (dA, 32, .inl he.2.1)), (t3, .inl (dA, 32, .inl he.2.2.1)), (aU, .inr (1, [.ref u1, .ref u2, .ref u3, .int st.2.1.2.2.2])), (u1, .inl (dA, 1024, .inl st.2.1.1)), (u2, .inl (dA, 32, .inl st.2.1.2.1)), (u3, .inl (dA, 32, .inl st.2.1.2.2.1)), (qk, .inl (dA, 400, .inl st.2.2.1)), (qr, .inl (dA, 400, .inl st.2.2.2.1))]) [0, 1, 2, 3, 4, 5, 6, 7, 8, 9, 10, 11] (by decide) rfl
  have hFc := va_free (wc := [(d0, .inr (2, [.ref aT, .ref qc, .ref aU, .ref qk, .ref qr, .int (nI now), .int (nI st.2.2.2.2.1), .int (rb_z st.2.2.2.2.2)])), (qc, .inl (dA, 4, .inl st.1)), (aT, .inr (1, [.ref t1, .ref t2, .ref t3, .int he.2.2.2])), (t1, .inl (dA, 1024, .inl he.1)), (t2, .inl (dA, 32, .inl he.2.1)), (t3, .inl (dA, 32, .inl he.2.2.1)), (aU, .inr (1, [.ref u1, .ref u2, .ref u3, .int st.2.1.2.2.2])), (u1, .inl (dA, 1024, .inl st.2.1.1)), (u2, .inl (dA, 32, .inl st.2.1.2.1)), (u3, .inl (dA, 32, .inl st.2.1.2.2.1)), (qk, .inl (dA, 400, .inl st.2.2.1)), (qr, .inl (dA, 400, .inl st.2.2.2.1))]) hD hS hA [0, 1, 2, 3, 4, 5, 6, 7, 8, 9, 10, 11] rfl
  refine va_callv (va_runV (As := [.int (nI (rx_code x y z))]) (rest := []) ⟨hx, hb, hml, hown, hts⟩ (c_De_add l dC dI dA tP tG tC d0 qc aT t1 t2 t3 aU u1 u2 u3 qk qr he now (rx_code x y z) st H.size (rx_code_lt hx0 hy0 hz0) (hcnt)) (cwV 1 hts (rg_V (rg4 m_171 m_173 s_2 m_4) k_De_add) rfl rfl rfl (by decide +kernel) ⟨Nat.le_of_ble_eq_true rfl, Nat.le_of_ble_eq_true rfl⟩) ⟨fun a U g mk q => ⟨q.1, q.2.1, q.2.2.1, va_K.moved (u := U) (U := U.calling g mk a) (Vm.Alike.refl U.vm) q.2.2.2.1, q.2.2.2.2.1, rn_same (u := U) (U := U.calling g mk a) rfl q.2.2.2.2.2.1, rz_same q.2.2.2.2.2.2⟩, va_recv hK hPc (ci := 2) (q0 := 0) rfl rfl, fun U hU hW => ⟨rfl, by rw [hU], by rw [hU]; exact hPc, va_K.moved hW.alike hK, hDc.weaken (fun _ _ _ _ => trivial), rn_warm hW hN, rz_at hZ hS hU hW hFc⟩⟩ rfl rfl hl.1 rfl (lv_room (Nat.le_of_ble_eq_true rfl)) d_De_meet_6 ⟨Nat.zero_le _, Nat.zero_le _⟩) hS (fun q _ h => hFc q h) hFc (fun u t H1 locs ht hvm hw hB hz1 hk1 hS => ?_)
  obtain ⟨hP1, hD1⟩ := hB
  rw [ht] at hP1
  obtain ⟨hP, hD⟩ := va_join (wr := []) (w1 := [(d0, .inr (2, [.ref aT, .ref qc, .ref aU, .ref qk, .ref qr, .int (nI now), .int (nI (rd_add now (rx_code x y z) st).2.2.2.2.1), .int (rb_z (rd_add now (rx_code x y z) st).2.2.2.2.2)])), (qc, .inl (dA, 4, .inl (rd_add now (rx_code x y z) st).1)), (aT, .inr (1, [.ref t1, .ref t2, .ref t3, .int he.2.2.2])), (t1, .inl (dA, 1024, .inl he.1)), (t2, .inl (dA, 32, .inl he.2.1)), (t3, .inl (dA, 32, .inl he.2.2.1)), (aU, .inr (1, [.ref u1, .ref u2, .ref u3, .int ((rd_add now (rx_code x y z) st).2.1.2.2.2)])), (u1, .inl (dA, 1024, .inl ((rd_add now (rx_code x y z) st).2.1.1))), (u2, .inl (dA, 32, .inl ((rd_add now (rx_code x y z) st).2.1.2.1))), (u3, .inl (dA, 32, .inl ((rd_add now (rx_code x y z) st).2.1.2.2.1))), (qk, .inl (dA, 400, .inl (rd_add now (rx_code x y z) st).2.2.1)), (qr, .inl (dA, 400, .inl (rd_add now (rx_code x y z) st).2.2.2.1))]) hP hD [0, 1, 2, 3, 4, 5, 6, 7, 8, 9, 10, 11] [] rfl rfl (by decide) (by decide) hk1 hFc hP1 hD1
  clear hk1 hFc hPc hDc hP1 hD1
  generalize H1 = H at hP hS ⊢
  have hP : va_P (dC, dI) classes [(d0, .inr (2, [.ref aT, .ref qc, .ref aU, .ref qk, .ref qr, .int (nI now), .int (nI (rd_add now (rx_code x y z) st).2.2.2.2.1), .int (rb_z (rd_add now (rx_code x y z) st).2.2.2.2.2)])), (qc, .inl (dA, 4, .inl (rd_add now (rx_code x y z) st).1)), (aT, .inr (1, [.ref t1, .ref t2, .ref t3, .int he.2.2.2])), (t1, .inl (dA, 1024, .inl he.1)), (t2, .inl (dA, 32, .inl he.2.1)), (t3, .inl (dA, 32, .inl he.2.2.1)), (aU, .inr (1, [.ref u1, .ref u2, .ref u3, .int ((rd_add now (rx_code x y z) st).2.1.2.2.2)])), (u1, .inl (dA, 1024, .inl ((rd_add now (rx_code x y z) st).2.1.1))), (u2, .inl (dA, 32, .inl ((rd_add now (rx_code x y z) st).2.1.2.1))), (u3, .inl (dA, 32, .inl ((rd_add now (rx_code x y z) st).2.1.2.2.1))), (qk, .inl (dA, 400, .inl (rd_add now (rx_code x y z) st).2.2.1)), (qr, .inl (dA, 400, .inl (rd_add now (rx_code x y z) st).2.2.2.1))] H := hP.sub [0, 1, 2, 3, 4, 5, 6, 7, 8, 9, 10, 11] rfl
  have hD : va_D A [(d0, .inr (2, [.ref aT, .ref qc, .ref aU, .ref qk, .ref qr, .int (nI now), .int (nI (rd_add now (rx_code x y z) st).2.2.2.2.1), .int (rb_z (rd_add now (rx_code x y z) st).2.2.2.2.2)])), (qc, .inl (dA, 4, .inl (rd_add now (rx_code x y z) st).1)), (aT, .inr (1, [.ref t1, .ref t2, .ref t3, .int he.2.2.2])), (t1, .inl (dA, 1024, .inl he.1)), (t2, .inl (dA, 32, .inl he.2.1)), (t3, .inl (dA, 32, .inl he.2.2.1)), (aU, .inr (1, [.ref u1, .ref u2, .ref u3, .int ((rd_add now (rx_code x y z) st).2.1.2.2.2)])), (u1, .inl (dA, 1024, .inl ((rd_add now (rx_code x y z) st).2.1.1))), (u2, .inl (dA, 32, .inl ((rd_add now (rx_code x y z) st).2.1.2.1))), (u3, .inl (dA, 32, .inl ((rd_add now (rx_code x y z) st).2.1.2.2.1))), (qk, .inl (dA, 400, .inl (rd_add now (rx_code x y z) st).2.2.1)), (qr, .inl (dA, 400, .inl (rd_add now (rx_code x y z) st).2.2.2.1))] := hD.sub [0, 1, 2, 3, 4, 5, 6, 7, 8, 9, 10, 11] (by decide) rfl
  refine lv_aload_n hx hb d_De_meet_9 rfl (lv_at hl 0 rfl) ?_
  refine va_get (D := (dC, dI)) (ci := 2) (v := .int (rb_z (rd_add now (rx_code x y z) st).2.2.2.2.2)) (C := R_De) (T := F_De) (N := 8) hx hb hts (rg_c i_De) hown hK hP 0 rfl rfl 7 (by decide) (hts _ (List.mem_cons_of_mem _ m_58)) (fun _ h9 => h9) rfl d_De_meet_10 ?_
  exact W.zret (v := rb_z (rd_add now (rx_code x y z) st).2.2.2.2.2) hx hb hr (rb_z_nar _) (fun t ht hW => ⟨⟨rb_z (rd_add now (rx_code x y z) st).2.2.2.2.2, (), rfl, by unfold rd_meet rj_given; rw [h1, h2, h3]; rfl, by rw [ht]; rw [show (rd_meet now r ds st).1 = rd_add now (rx_code x y z) st from by unfold rd_meet rj_given; rw [h1, h2, h3]; rfl]; exact hP, by rw [show (rd_meet now r ds st).1 = rd_add now (rx_code x y z) st from by unfold rd_meet rj_given; rw [h1, h2, h3]; rfl]; exact hD⟩, hS.F ht⟩) hS.2.2 d_De_meet_13

set_option maxHeartbeats 4000000 in
set_option maxRecDepth 100000 in
theorem c_Se_meet (l : Launch) (dC : Nat → ClassId) (dI : Nat → Nat → Nat) (dA : ClassId) (tP tG tC s0 qc aT t1 t2 t3 : Nat) (he : sT) (r : Nat) (wt : Int32) (ds : List Nat) (st : sS) (sz : Nat) : Met l y_Se_meet (w_ y_Se_meet b_Se_meet 5 (some .boolean)) (rm_ 0) (va_Pc [.ref s0, .int (nI r), .long (lN (rt_pk ds))] (fun U => U.heap.size = sz ∧ va_P (dC, dI) classes [(s0, .inr (3, [.ref aT, .ref qc, .int wt, .int st.2.1, .int st.2.2])), (qc, .inl (dA, 4, .inl st.1)), (aT, .inr (1, [.ref t1, .ref t2, .ref t3, .int he.2.2.2])), (t1, .inl (dA, 1024, .inl he.1)), (t2, .inl (dA, 32, .inl he.2.1)), (t3, .inl (dA, 32, .inl he.2.2.1))] U.heap ∧ va_K (dC, dI) classes [(dA, .int)] U ∧ va_D (fun _ => True) [(s0, .inr (3, [.ref aT, .ref qc, .int wt, .int st.2.1, .int st.2.2])), (qc, .inl (dA, 4, .inl st.1)), (aT, .inr (1, [.ref t1, .ref t2, .ref t3, .int he.2.2.2])), (t1, .inl (dA, 1024, .inl he.1)), (t2, .inl (dA, 32, .inl he.2.1)), (t3, .inl (dA, 32, .inl he.2.2.1))] ∧ rn_ U ∧ rz_ tP tG tC (va_A [(s0, .inr (3, [.ref aT, .ref qc, .int wt, .int st.2.1, .int st.2.2])), (qc, .inl (dA, 4, .inl st.1)), (aT, .inr (1, [.ref t1, .ref t2, .ref t3, .int he.2.2.2])), (t1, .inl (dA, 1024, .inl he.1)), (t2, .inl (dA, 32, .inl he.2.1)), (t3, .inl (dA, 32, .inl he.2.2.1))] sz) U)) (va_Qi (fun (z9 : Int32) (_ : Unit) => z9 = rb_z (rs_meet wt r ds st).2) (fun (_ : Unit) t => va_P (dC, dI) classes [(s0, .inr (3, [.ref aT, .ref qc, .int wt, .int ((rs_meet wt r ds st).1).2.1, .int ((rs_meet wt r ds st).1).2.2])), (qc, .inl (dA, 4, .inl ((rs_meet wt r ds st).1).1)), (aT, .inr (1, [.ref t1, .ref t2, .ref t3, .int he.2.2.2])), (t1, .inl (dA, 1024, .inl he.1)), (t2, .inl (dA, 32, .inl he.2.1)), (t3, .inl (dA, 32, .inl he.2.2.1))] t.heap ∧ va_D (va_A [(s0, .inr (3, [.ref aT, .ref qc, .int wt, .int st.2.1, .int st.2.2])), (qc, .inl (dA, 4, .inl st.1)), (aT, .inr (1, [.ref t1, .ref t2, .ref t3, .int he.2.2.2])), (t1, .inl (dA, 1024, .inl he.1)), (t2, .inl (dA, 32, .inl he.2.1)), (t3, .inl (dA, 32, .inl he.2.2.1))] sz) [(s0, .inr (3, [.ref aT, .ref qc, .int wt, .int ((rs_meet wt r ds st).1).2.1, .int ((rs_meet wt r ds st).1).2.2])), (qc, .inl (dA, 4, .inl ((rs_meet wt r ds st).1).1)), (aT, .inr (1, [.ref t1, .ref t2, .ref t3, .int he.2.2.2])), (t1, .inl (dA, 1024, .inl he.1)), (t2, .inl (dA, 32, .inl he.2.1)), (t3, .inl (dA, 32, .inl he.2.2.1))]) (va_A [(s0, .inr (3, [.ref aT, .ref qc, .int wt, .int st.2.1, .int st.2.2])), (qc, .inl (dA, 4, .inl st.1)), (aT, .inr (1, [.ref t1, .ref t2, .ref t3, .int he.2.2.2])), (t1, .inl (dA, 1024, .inl he.1)), (t2, .inl (dA, 32, .inl he.2.1)), (t3, .inl (dA, 32, .inl he.2.2.1))] sz)) 0 0 (va_A [(s0, .inr (3, [.ref aT, .ref qc, .int wt, .int st.2.1, .int st.2.2])), (qc, .inl (dA, 4, .inl st.1)), (aT, .inr (1, [.ref t1, .ref t2, .ref t3, .int he.2.2.2])), (t1, .inl (dA, 1024, .inl he.1)), (t2, .inl (dA, 32, .inl he.2.1)), (t3, .inl (dA, 32, .inl he.2.2.1))] sz) := by
  refine Met.ofW (cc := b_Se_meet) (maxL := 5) (ret := (some .boolean)) (by decide) rfl ?_
  intro p e s m args below meth c s₁ B hml hv
  obtain ⟨rfl, hsz, hP, hK, hD0, hN, hZ⟩ := hv
  have hx := B.exec
  have hb := B.bytes
  have hr := B.returns
  have hts := atoms_spec (ws := (w_ y_Se_meet b_Se_meet 5 (some .boolean))) B.pre
  have hown : s.vm.findClass R_Se = some m.cls := findClass_of_methodNamed B.named
  have hlocks := B.notSynchronized
  subst hsz
  have hD := hD0.self (sz := s.heap.size)
  generalize hAe : va_A [(s0, .inr (3, [.ref aT, .ref qc, .int wt, .int st.2.1, .int st.2.2])), (qc, .inl (dA, 4, .inl st.1)), (aT, .inr (1, [.ref t1, .ref t2, .ref t3, .int he.2.2.2])), (t1, .inl (dA, 1024, .inl he.1)), (t2, .inl (dA, 32, .inl he.2.1)), (t3, .inl (dA, 32, .inl he.2.2.1))] s.heap.size = A at hD hZ ⊢
  have hA : ∀ q : Nat, s.heap.size ≤ q → A q := fun q h => by rw [← hAe]; exact Or.inr h
  have hS : va_S A s.heap s.heap [] := va_S.rf
  have hl := lv_entry ([.ref s0, .int (nI r), .long (lN (rt_pk ds))]) (n := 5) (Nat.le_of_ble_eq_true rfl)
  rw [lg_entry_eq]
  generalize (lg_sl ([.ref s0, .int (nI r), .long (lN (rt_pk ds))]) ++ List.replicate (5 - (lg_sl ([.ref s0, .int (nI r), .long (lN (rt_pk ds))])).length) Slot.unset).toArray = ls at hl ⊢
  have hl : lv_has ls 5 [(0, .ref s0), (1, .int (nI r)), (2, .long (lN (rt_pk ds)))] := hl
  refine lv_aload_n hx hb d_Se_meet_0 rfl (lv_at hl 0 rfl) ?_
  refine va_get (D := (dC, dI)) (ci := 3) (v := .int st.2.1) (C := R_Se) (T := F_Se) (N := 5) hx hb hts (rg_c i_Se) hown hK hP 0 rfl rfl 3 (by decide) (hts _ (List.mem_cons_of_mem _ m_90)) (fun _ h9 => h9) rfl d_Se_meet_1 ?_
  refine lv_aload_n hx hb d_Se_meet_4 rfl (lv_at hl 0 rfl) ?_
  refine va_get (D := (dC, dI)) (ci := 3) (v := .int wt) (C := R_Se) (T := F_Se) (N := 5) hx hb hts (rg_c i_Se) hown hK hP 0 rfl rfl 2 (by decide) (hts _ (List.mem_cons_of_mem _ m_89)) (fun _ h9 => h9) rfl d_Se_meet_5 ?_
  refine lv_icmp_ne (tgt := 15) hx hb d_Se_meet_8 (by decide) (fun c_8 => ?_) (fun c_8 => ?_)
  · refine lv_iconst (v := nI 0) hx hb d_Se_meet_15 (by decide) ?_
    refine lv_istore (lv' := [(4, .int (nI 0)), (0, .ref s0), (1, .int (nI r)), (2, .long (lN (rt_pk ds)))]) hx hb d_Se_meet_16 hl (by decide) rfl (fun ls hl => ?_)
    refine lv_iload hx hb d_Se_meet_18 (lv_at hl 0 rfl) ?_
    refine rv_if_eq (tgt := 28) hx hb d_Se_meet_20 (by decide) (by omega) (fun c_20 => ?_) (fun c_20 => absurd c_20 (by omega))
    refine lv_aload_n hx hb d_Se_meet_28 rfl (lv_at hl 1 rfl) ?_
    refine lv_dup hx hb d_Se_meet_29 rfl ?_
    refine va_get (D := (dC, dI)) (ci := 3) (v := .int st.2.1) (C := R_Se) (T := F_Se) (N := 5) hx hb hts (rg_c i_Se) hown hK hP 0 rfl rfl 3 (by decide) (hts _ (List.mem_cons_of_mem _ m_90)) (fun _ h9 => h9) rfl d_Se_meet_30 ?_
    refine lv_iconst (v := nI 1) hx hb d_Se_meet_33 (by decide) ?_
    refine lv_iadd hx hb d_Se_meet_34 ?_
    refine va_put (D := (dC, dI)) (ci := 3) (v := .int (st.2.1 + (nI 1))) (ty := .int) (C := R_Se) (T := F_Se) (N := 5) hx hb hts (rg_c i_Se) t_Se t_Se_ok n_Se hown hK hP hD hS 0 rfl rfl 3 (by decide) (hts _ (List.mem_cons_of_mem _ m_90)) (fun _ h9 => h9) rfl (by decide +kernel) (by rfl) (by rfl) (Nat.le_of_ble_eq_true rfl) d_Se_meet_35 (fun H locs hP hD hS => ?_)
    have hP : va_P (dC, dI) classes [(s0, .inr (3, [.ref aT, .ref qc, .int wt, .int (st.2.1 + (nI 1)), .int st.2.2])), (qc, .inl (dA, 4, .inl st.1)), (aT, .inr (1, [.ref t1, .ref t2, .ref t3, .int he.2.2.2])), (t1, .inl (dA, 1024, .inl he.1)), (t2, .inl (dA, 32, .inl he.2.1)), (t3, .inl (dA, 32, .inl he.2.2.1))] H := hP
    have hD : va_D A [(s0, .inr (3, [.ref aT, .ref qc, .int wt, .int (st.2.1 + (nI 1)), .int st.2.2])), (qc, .inl (dA, 4, .inl st.1)), (aT, .inr (1, [.ref t1, .ref t2, .ref t3, .int he.2.2.2])), (t1, .inl (dA, 1024, .inl he.1)), (t2, .inl (dA, 32, .inl he.2.1)), (t3, .inl (dA, 32, .inl he.2.2.1))] := hD
    refine lv_iload hx hb d_Se_meet_38 (lv_at hl 0 rfl) ?_
    exact W.zret (v := nI 0) hx hb hr (by rfl) (fun t ht hW => ⟨⟨nI 0, (), rfl, by unfold rs_meet rb_z; simp only; first | rw [if_pos (by simpa using (by assumption : st.2.1 = wt))] | rw [if_neg (by simpa using (by assumption : ¬ st.2.1 = wt))], by rw [ht]; rw [show (rs_meet wt r ds st).1 = (st.1, st.2.1 + 1, st.2.2) from by unfold rs_meet; rw [if_neg (by assumption)]]; exact hP, by rw [show (rs_meet wt r ds st).1 = (st.1, st.2.1 + 1, st.2.2) from by unfold rs_meet; rw [if_neg (by assumption)]]; exact hD⟩, hS.F ht⟩) hS.2.2 d_Se_meet_40
  · refine lv_iconst (v := nI 1) hx hb d_Se_meet_11 (by decide) ?_
    refine lv_goto (tgt := 16) hx hb d_Se_meet_12 (by decide) ?_
    refine lv_istore (lv' := [(4, .int (nI 1)), (0, .ref s0), (1, .int (nI r)), (2, .long (lN (rt_pk ds)))]) hx hb d_Se_meet_16 hl (by decide) rfl (fun ls hl => ?_)
    refine lv_iload hx hb d_Se_meet_18 (lv_at hl 0 rfl) ?_
    refine rv_if_eq (tgt := 28) hx hb d_Se_meet_20 (by decide) (by omega) (fun c_20 => absurd c_20 (by omega)) (fun c_20 => ?_)
    refine lv_aload_n hx hb d_Se_meet_23 rfl (lv_at hl 1 rfl) ?_
    refine lv_iload_n hx hb d_Se_meet_24 rfl (lv_at hl 2 rfl) ?_
    refine va_put (D := (dC, dI)) (ci := 3) (v := .int (nI r)) (ty := .int) (C := R_Se) (T := F_Se) (N := 5) hx hb hts (rg_c i_Se) t_Se t_Se_ok n_Se hown hK hP hD hS 0 rfl rfl 4 (by decide) (hts _ (List.mem_cons_of_mem _ m_91)) (fun _ h9 => h9) rfl (by decide +kernel) (by rfl) (by rfl) (Nat.le_of_ble_eq_true rfl) d_Se_meet_25 (fun H locs hP hD hS => ?_)
    have hP : va_P (dC, dI) classes [(s0, .inr (3, [.ref aT, .ref qc, .int wt, .int st.2.1, .int (nI r)])), (qc, .inl (dA, 4, .inl st.1)), (aT, .inr (1, [.ref t1, .ref t2, .ref t3, .int he.2.2.2])), (t1, .inl (dA, 1024, .inl he.1)), (t2, .inl (dA, 32, .inl he.2.1)), (t3, .inl (dA, 32, .inl he.2.2.1))] H := hP
    have hD : va_D A [(s0, .inr (3, [.ref aT, .ref qc, .int wt, .int st.2.1, .int (nI r)])), (qc, .inl (dA, 4, .inl st.1)), (aT, .inr (1, [.ref t1, .ref t2, .ref t3, .int he.2.2.2])), (t1, .inl (dA, 1024, .inl he.1)), (t2, .inl (dA, 32, .inl he.2.1)), (t3, .inl (dA, 32, .inl he.2.2.1))] := hD
    refine lv_aload_n hx hb d_Se_meet_28 rfl (lv_at hl 1 rfl) ?_
    refine lv_dup hx hb d_Se_meet_29 rfl ?_
    refine va_get (D := (dC, dI)) (ci := 3) (v := .int st.2.1) (C := R_Se) (T := F_Se) (N := 5) hx hb hts (rg_c i_Se) hown hK hP 0 rfl rfl 3 (by decide) (hts _ (List.mem_cons_of_mem _ m_90)) (fun _ h9 => h9) rfl d_Se_meet_30 ?_
    refine lv_iconst (v := nI 1) hx hb d_Se_meet_33 (by decide) ?_
    refine lv_iadd hx hb d_Se_meet_34 ?_
    refine va_put (D := (dC, dI)) (ci := 3) (v := .int (st.2.1 + (nI 1))) (ty := .int) (C := R_Se) (T := F_Se) (N := 5) hx hb hts (rg_c i_Se) t_Se t_Se_ok n_Se hown hK hP hD hS 0 rfl rfl 3 (by decide) (hts _ (List.mem_cons_of_mem _ m_90)) (fun _ h9 => h9) rfl (by decide +kernel) (by rfl) (by rfl) (Nat.le_of_ble_eq_true rfl) d_Se_meet_35 (fun H locs hP hD hS => ?_)
    have hP : va_P (dC, dI) classes [(s0, .inr (3, [.ref aT, .ref qc, .int wt, .int (st.2.1 + (nI 1)), .int (nI r)])), (qc, .inl (dA, 4, .inl st.1)), (aT, .inr (1, [.ref t1, .ref t2, .ref t3, .int he.2.2.2])), (t1, .inl (dA, 1024, .inl he.1)), (t2, .inl (dA, 32, .inl he.2.1)), (t3, .inl (dA, 32, .inl he.2.2.1))] H := hP
    have hD : va_D A [(s0, .inr (3, [.ref aT, .ref qc, .int wt, .int (st.2.1 + (nI 1)), .int (nI r)])), (qc, .inl (dA, 4, .inl st.1)), (aT, .inr (1, [.ref t1, .ref t2, .ref t3, .int he.2.2.2])), (t1, .inl (dA, 1024, .inl he.1)), (t2, .inl (dA, 32, .inl he.2.1)), (t3, .inl (dA, 32, .inl he.2.2.1))] := hD
    refine lv_iload hx hb d_Se_meet_38 (lv_at hl 0 rfl) ?_
    exact W.zret (v := nI 1) hx hb hr (by rfl) (fun t ht hW => ⟨⟨nI 1, (), rfl, by unfold rs_meet rb_z; simp only; first | rw [if_pos (by simpa using (by assumption : st.2.1 = wt))] | rw [if_neg (by simpa using (by assumption : ¬ st.2.1 = wt))], by rw [ht]; rw [show (rs_meet wt r ds st).1 = (st.1, st.2.1 + 1, nI r) from by unfold rs_meet; rw [if_pos (by assumption)]]; exact hP, by rw [show (rs_meet wt r ds st).1 = (st.1, st.2.1 + 1, nI r) from by unfold rs_meet; rw [if_pos (by assumption)]]; exact hD⟩, hS.F ht⟩) hS.2.2 d_Se_meet_40
end
section
theorem rj_fold_inv {σ α : Type} {I : σ → Prop} {f : σ → α → σ × Bool} (hf : ∀ st c, I st → I (f st c).1) : ∀ (l : List α) (st : σ), I st → I (rj_fold f st l).1
  | [], _, h => h
  | c :: l, st, h => by
    show I (if (f st c).2 = true then f st c else rj_fold f (f st c).1 l).1
    split
    · exact hf st c h
    · exact rj_fold_inv hf l _ (hf st c h)
theorem rj_join_inv {σ : Type} {I : σ → Prop} {TV : Option Nat → Option Nat → Option Nat → List Nat} {mt : List Nat → σ → σ × Bool} {ch : Nat → Nat → σ → σ} {r : Nat} {fx : Option Nat} (hm : ∀ ds st, I st → I (mt ds st).1) (hc : ∀ k c st, I st → I (ch k c st)) : ∀ (rem k : Nat) (ds : List Nat) (st : σ), I st → I (rj_join TV mt ch r fx rem k ds st).1
  | 0, _, ds, st, h => hm ds st h
  | rem + 1, k, ds, st, h => by
    show I (if fx = some k then rj_join TV mt ch r fx rem (k + 1) ds st else _).1
    split
    · exact rj_join_inv hm hc rem (k + 1) ds st h
    · refine rj_fold_inv (fun st c h => ?_) _ _ h
      unfold rj_body
      split
      · exact hc k c st h
      · exact rj_join_inv hm hc rem (k + 1) _ _ (hc k c st h)
theorem rd_join_cnt {TV : Option Nat → Option Nat → Option Nat → List Nat} {now r : Nat} {fx : Option Nat} (rem k : Nat) (ds : List Nat) (st : sD) (h : st.2.2.2.2.1 ≤ 400) : (rj_join TV (rd_meet now r) rd_ch r fx rem k ds st).1.2.2.2.2.1 ≤ 400 :=
  rj_join_inv (I := fun st : sD => st.2.2.2.2.1 ≤ 400) (mt := rd_meet now r) (ch := rd_ch) (fun _ _ h => rd_cnt_le h) (fun _ _ _ h => h) rem k ds st h
theorem rj_cnt_pos {x : Int32} {n : Nat} (h : rb_cnt x = n + 1) : ∃ a l, rb_els x = a :: l ∧ rb_least x = a ∧ a < 32 ∧ rb_els (x &&& (x - 1)) = l ∧ rb_cnt (x &&& (x - 1)) = n := by
  unfold rb_cnt at h
  cases hx : rb_els x with
  | nil => rw [hx] at h; cases h
  | cons a l =>
    refine ⟨a, l, rfl, ?_, (rb_head hx).1, rb_rest hx, ?_⟩
    · unfold rb_least; rw [hx]
    · unfold rb_cnt
      rw [rb_rest hx]
      rw [hx] at h
      simpa using h
theorem rj_cnt_zero {x : Int32} (h : rb_cnt x = 0) : rb_els x = [] := List.length_eq_zero_iff.mp h
theorem rj_term_i {x : Option Nat} {k : Nat} (h : k < 2 ^ 31) (hx : ∀ u, x = some u → u < 2 ^ 31) : nI k = rt_i x ↔ x = some k := by
  cases x with
  | none => exact ⟨fun e => absurd e (rt_nm1 h), fun e => by cases e⟩
  | some u =>
    show nI k = nI u ↔ _
    rw [nI_eq h (hx u rfl)]
    exact ⟨fun e => by rw [e], fun e => (Option.some.inj e).symm⟩

set_option maxHeartbeats 4000000 in
set_option maxRecDepth 100000 in
theorem c_Ma_joinD0 (l : Launch) (dC : Nat → ClassId) (dI : Nat → Nat → Nat) (dA : ClassId) (tP tG tC d0 qc aT t1 t2 t3 aU u1 u2 u3 qk qr : Nat) (he : sT) (now r k : Nat) (fx : Option Nat) (ds : List Nat) (st : sD) (sz : Nat) (hr0 : r < 21) (hfx : ∀ u, fx = some u → u < 4) (hd : rt_ok ds) (hcnt : st.2.2.2.2.1 ≤ 400) (hcov : rj_cov r k fx ds) (hk : k = rq_cnts.getD r 0) : Met l y_Ma_join (w_ y_Ma_join b_Ma_join 21 (some .boolean)) (rm_ 3) (va_Pc [.ref d0, .int (nI r), .int (nI k), .int (rt_i fx), .long (lN (rt_pk ds))] (fun U => U.heap.size = sz ∧ va_P (dC, dI) classes [(d0, .inr (2, [.ref aT, .ref qc, .ref aU, .ref qk, .ref qr, .int (nI now), .int (nI st.2.2.2.2.1), .int (rb_z st.2.2.2.2.2)])), (qc, .inl (dA, 4, .inl st.1)), (aT, .inr (1, [.ref t1, .ref t2, .ref t3, .int he.2.2.2])), (t1, .inl (dA, 1024, .inl he.1)), (t2, .inl (dA, 32, .inl he.2.1)), (t3, .inl (dA, 32, .inl he.2.2.1)), (aU, .inr (1, [.ref u1, .ref u2, .ref u3, .int st.2.1.2.2.2])), (u1, .inl (dA, 1024, .inl st.2.1.1)), (u2, .inl (dA, 32, .inl st.2.1.2.1)), (u3, .inl (dA, 32, .inl st.2.1.2.2.1)), (qk, .inl (dA, 400, .inl st.2.2.1)), (qr, .inl (dA, 400, .inl st.2.2.2.1))] U.heap ∧ va_K (dC, dI) classes [(dA, .int)] U ∧ va_D (fun _ => True) [(d0, .inr (2, [.ref aT, .ref qc, .ref aU, .ref qk, .ref qr, .int (nI now), .int (nI st.2.2.2.2.1), .int (rb_z st.2.2.2.2.2)])), (qc, .inl (dA, 4, .inl st.1)), (aT, .inr (1, [.ref t1, .ref t2, .ref t3, .int he.2.2.2])), (t1, .inl (dA, 1024, .inl he.1)), (t2, .inl (dA, 32, .inl he.2.1)), (t3, .inl (dA, 32, .inl he.2.2.1)), (aU, .inr (1, [.ref u1, .ref u2, .ref u3, .int st.2.1.2.2.2])), (u1, .inl (dA, 1024, .inl st.2.1.1)), (u2, .inl (dA, 32, .inl st.2.1.2.1)), (u3, .inl (dA, 32, .inl st.2.1.2.2.1)), (qk, .inl (dA, 400, .inl st.2.2.1)), (qr, .inl (dA, 400, .inl st.2.2.2.1))] ∧ rn_ U ∧ rz_ tP tG tC (va_A [(d0, .inr (2, [.ref aT, .ref qc, .ref aU, .ref qk, .ref qr, .int (nI now), .int (nI st.2.2.2.2.1), .int (rb_z st.2.2.2.2.2)])), (qc, .inl (dA, 4, .inl st.1)), (aT, .inr (1, [.ref t1, .ref t2, .ref t3, .int he.2.2.2])), (t1, .inl (dA, 1024, .inl he.1)), (t2, .inl (dA, 32, .inl he.2.1)), (t3, .inl (dA, 32, .inl he.2.2.1)), (aU, .inr (1, [.ref u1, .ref u2, .ref u3, .int st.2.1.2.2.2])), (u1, .inl (dA, 1024, .inl st.2.1.1)), (u2, .inl (dA, 32, .inl st.2.1.2.1)), (u3, .inl (dA, 32, .inl st.2.1.2.2.1)), (qk, .inl (dA, 400, .inl st.2.2.1)), (qr, .inl (dA, 400, .inl st.2.2.2.1))] sz) U)) (va_Qi (fun (z9 : Int32) (_ : Unit) => z9 = rb_z (rj_join (rx_trav he.1 he.2.1 he.2.2.1 he.2.2.2) (rd_meet now r) rd_ch r fx 0 k ds st).2) (fun (_ : Unit) t => va_P (dC, dI) classes [(d0, .inr (2, [.ref aT, .ref qc, .ref aU, .ref qk, .ref qr, .int (nI now), .int (nI ((rj_join (rx_trav he.1 he.2.1 he.2.2.1 he.2.2.2) (rd_meet now r) rd_ch r fx 0 k ds st).1).2.2.2.2.1), .int (rb_z ((rj_join (rx_trav he.1 he.2.1 he.2.2.1 he.2.2.2) (rd_meet now r) rd_ch r fx 0 k ds st).1).2.2.2.2.2)])), (qc, .inl (dA, 4, .inl ((rj_join (rx_trav he.1 he.2.1 he.2.2.1 he.2.2.2) (rd_meet now r) rd_ch r fx 0 k ds st).1).1)), (aT, .inr (1, [.ref t1, .ref t2, .ref t3, .int he.2.2.2])), (t1, .inl (dA, 1024, .inl he.1)), (t2, .inl (dA, 32, .inl he.2.1)), (t3, .inl (dA, 32, .inl he.2.2.1)), (aU, .inr (1, [.ref u1, .ref u2, .ref u3, .int (((rj_join (rx_trav he.1 he.2.1 he.2.2.1 he.2.2.2) (rd_meet now r) rd_ch r fx 0 k ds st).1).2.1.2.2.2)])), (u1, .inl (dA, 1024, .inl (((rj_join (rx_trav he.1 he.2.1 he.2.2.1 he.2.2.2) (rd_meet now r) rd_ch r fx 0 k ds st).1).2.1.1))), (u2, .inl (dA, 32, .inl (((rj_join (rx_trav he.1 he.2.1 he.2.2.1 he.2.2.2) (rd_meet now r) rd_ch r fx 0 k ds st).1).2.1.2.1))), (u3, .inl (dA, 32, .inl (((rj_join (rx_trav he.1 he.2.1 he.2.2.1 he.2.2.2) (rd_meet now r) rd_ch r fx 0 k ds st).1).2.1.2.2.1))), (qk, .inl (dA, 400, .inl ((rj_join (rx_trav he.1 he.2.1 he.2.2.1 he.2.2.2) (rd_meet now r) rd_ch r fx 0 k ds st).1).2.2.1)), (qr, .inl (dA, 400, .inl ((rj_join (rx_trav he.1 he.2.1 he.2.2.1 he.2.2.2) (rd_meet now r) rd_ch r fx 0 k ds st).1).2.2.2.1))] t.heap ∧ va_D (va_A [(d0, .inr (2, [.ref aT, .ref qc, .ref aU, .ref qk, .ref qr, .int (nI now), .int (nI st.2.2.2.2.1), .int (rb_z st.2.2.2.2.2)])), (qc, .inl (dA, 4, .inl st.1)), (aT, .inr (1, [.ref t1, .ref t2, .ref t3, .int he.2.2.2])), (t1, .inl (dA, 1024, .inl he.1)), (t2, .inl (dA, 32, .inl he.2.1)), (t3, .inl (dA, 32, .inl he.2.2.1)), (aU, .inr (1, [.ref u1, .ref u2, .ref u3, .int st.2.1.2.2.2])), (u1, .inl (dA, 1024, .inl st.2.1.1)), (u2, .inl (dA, 32, .inl st.2.1.2.1)), (u3, .inl (dA, 32, .inl st.2.1.2.2.1)), (qk, .inl (dA, 400, .inl st.2.2.1)), (qr, .inl (dA, 400, .inl st.2.2.2.1))] sz) [(d0, .inr (2, [.ref aT, .ref qc, .ref aU, .ref qk, .ref qr, .int (nI now), .int (nI ((rj_join (rx_trav he.1 he.2.1 he.2.2.1 he.2.2.2) (rd_meet now r) rd_ch r fx 0 k ds st).1).2.2.2.2.1), .int (rb_z ((rj_join (rx_trav he.1 he.2.1 he.2.2.1 he.2.2.2) (rd_meet now r) rd_ch r fx 0 k ds st).1).2.2.2.2.2)])), (qc, .inl (dA, 4, .inl ((rj_join (rx_trav he.1 he.2.1 he.2.2.1 he.2.2.2) (rd_meet now r) rd_ch r fx 0 k ds st).1).1)), (aT, .inr (1, [.ref t1, .ref t2, .ref t3, .int he.2.2.2])), (t1, .inl (dA, 1024, .inl he.1)), (t2, .inl (dA, 32, .inl he.2.1)), (t3, .inl (dA, 32, .inl he.2.2.1)), (aU, .inr (1, [.ref u1, .ref u2, .ref u3, .int (((rj_join (rx_trav he.1 he.2.1 he.2.2.1 he.2.2.2) (rd_meet now r) rd_ch r fx 0 k ds st).1).2.1.2.2.2)])), (u1, .inl (dA, 1024, .inl (((rj_join (rx_trav he.1 he.2.1 he.2.2.1 he.2.2.2) (rd_meet now r) rd_ch r fx 0 k ds st).1).2.1.1))), (u2, .inl (dA, 32, .inl (((rj_join (rx_trav he.1 he.2.1 he.2.2.1 he.2.2.2) (rd_meet now r) rd_ch r fx 0 k ds st).1).2.1.2.1))), (u3, .inl (dA, 32, .inl (((rj_join (rx_trav he.1 he.2.1 he.2.2.1 he.2.2.2) (rd_meet now r) rd_ch r fx 0 k ds st).1).2.1.2.2.1))), (qk, .inl (dA, 400, .inl ((rj_join (rx_trav he.1 he.2.1 he.2.2.1 he.2.2.2) (rd_meet now r) rd_ch r fx 0 k ds st).1).2.2.1)), (qr, .inl (dA, 400, .inl ((rj_join (rx_trav he.1 he.2.1 he.2.2.1 he.2.2.2) (rd_meet now r) rd_ch r fx 0 k ds st).1).2.2.2.1))]) (va_A [(d0, .inr (2, [.ref aT, .ref qc, .ref aU, .ref qk, .ref qr, .int (nI now), .int (nI st.2.2.2.2.1), .int (rb_z st.2.2.2.2.2)])), (qc, .inl (dA, 4, .inl st.1)), (aT, .inr (1, [.ref t1, .ref t2, .ref t3, .int he.2.2.2])), (t1, .inl (dA, 1024, .inl he.1)), (t2, .inl (dA, 32, .inl he.2.1)), (t3, .inl (dA, 32, .inl he.2.2.1)), (aU, .inr (1, [.ref u1, .ref u2, .ref u3, .int st.2.1.2.2.2])), (u1, .inl (dA, 1024, .inl st.2.1.1)), (u2, .inl (dA, 32, .inl st.2.1.2.1)), (u3, .inl (dA, 32, .inl st.2.1.2.2.1)), (qk, .inl (dA, 400, .inl st.2.2.1)), (qr, .inl (dA, 400, .inl st.2.2.2.1))] sz)) 0 0 (va_A [(d0, .inr (2, [.ref aT, .ref qc, .ref aU, .ref qk, .ref qr, .int (nI now), .int (nI st.2.2.2.2.1), .int (rb_z st.2.2.2.2.2)])), (qc, .inl (dA, 4, .inl st.1)), (aT, .inr (1, [.ref t1, .ref t2, .ref t3, .int he.2.2.2])), (t1, .inl (dA, 1024, .inl he.1)), (t2, .inl (dA, 32, .inl he.2.1)), (t3, .inl (dA, 32, .inl he.2.2.1)), (aU, .inr (1, [.ref u1, .ref u2, .ref u3, .int st.2.1.2.2.2])), (u1, .inl (dA, 1024, .inl st.2.1.1)), (u2, .inl (dA, 32, .inl st.2.1.2.1)), (u3, .inl (dA, 32, .inl st.2.1.2.2.1)), (qk, .inl (dA, 400, .inl st.2.2.1)), (qr, .inl (dA, 400, .inl st.2.2.2.1))] sz) := by
  refine Met.ofW (cc := b_Ma_join) (maxL := 21) (ret := (some .boolean)) (by decide) rfl ?_
  have hcl := rq_cnts_le r (by omega)
  intro p e s m args below meth c s₁ B hml hv
  obtain ⟨rfl, hsz, hP, hK, hD0, hN, hZ⟩ := hv
  have hx := B.exec
  have hb := B.bytes
  have hr := B.returns
  have hts := atoms_spec (ws := (w_ y_Ma_join b_Ma_join 21 (some .boolean))) B.pre
  have hown : s.vm.findClass R_Ma = some m.cls := findClass_of_methodNamed B.named
  have hlocks := B.notSynchronized
  subst hsz
  have hD := hD0.self (sz := s.heap.size)
  generalize hAe : va_A [(d0, .inr (2, [.ref aT, .ref qc, .ref aU, .ref qk, .ref qr, .int (nI now), .int (nI st.2.2.2.2.1), .int (rb_z st.2.2.2.2.2)])), (qc, .inl (dA, 4, .inl st.1)), (aT, .inr (1, [.ref t1, .ref t2, .ref t3, .int he.2.2.2])), (t1, .inl (dA, 1024, .inl he.1)), (t2, .inl (dA, 32, .inl he.2.1)), (t3, .inl (dA, 32, .inl he.2.2.1)), (aU, .inr (1, [.ref u1, .ref u2, .ref u3, .int st.2.1.2.2.2])), (u1, .inl (dA, 1024, .inl st.2.1.1)), (u2, .inl (dA, 32, .inl st.2.1.2.1)), (u3, .inl (dA, 32, .inl st.2.1.2.2.1)), (qk, .inl (dA, 400, .inl st.2.2.1)), (qr, .inl (dA, 400, .inl st.2.2.2.1))] s.heap.size = A at hD hZ ⊢
  have hA : ∀ q : Nat, s.heap.size ≤ q → A q := fun q h => by rw [← hAe]; exact Or.inr h
  have hS : va_S A s.heap s.heap [] := va_S.rf
  have hl := lv_entry ([.ref d0, .int (nI r), .int (nI k), .int (rt_i fx), .long (lN (rt_pk ds))]) (n := 21) (Nat.le_of_ble_eq_true rfl)
  rw [lg_entry_eq]
  generalize (lg_sl ([.ref d0, .int (nI r), .int (nI k), .int (rt_i fx), .long (lN (rt_pk ds))]) ++ List.replicate (21 - (lg_sl ([.ref d0, .int (nI r), .int (nI k), .int (rt_i fx), .long (lN (rt_pk ds))])).length) Slot.unset).toArray = ls at hl ⊢
  have hl : lv_has ls 21 [(0, .ref d0), (1, .int (nI r)), (2, .int (nI k)), (3, .int (rt_i fx)), (4, .long (lN (rt_pk ds)))] := hl
  refine lv_iload_n hx hb d_Ma_join_0 rfl (lv_at hl 2 rfl) ?_
  refine lv_iload_n hx hb d_Ma_join_1 rfl (lv_at hl 1 rfl) ?_
  refine rv_calli (r := nI (rq_cnts.getD r 0)) (va_runS (As := [.int (nI r)]) (rest := [.int (nI k)]) ⟨hx, hb, hml, hown, hts⟩ (c_Tb_premiseCount l tP tG tC r (by omega)) (va_cwS 1 hts (rg_S (rg3 m_223 m_204 m_8) k_Tb_premiseCount) rfl rfl rfl (by decide +kernel) ⟨Nat.le_of_ble_eq_true rfl, Nat.le_of_ble_eq_true rfl⟩) ⟨fun a U g mk q => ⟨q.1, rz_same q.2⟩, fun U hU hW => ⟨rfl, rz_at hZ hS hU hW (fun _ h => h.elim)⟩⟩ rfl rfl hl.1 rfl (lv_room (Nat.le_of_ble_eq_true rfl)) d_Ma_join_2 ⟨Nat.zero_le _, Nat.zero_le _⟩) hS (fun _ h => h.elim) (fun H locs hk hS => ?_)
  have hP := rv_kept hP hk
  refine rv_icmp_ge (tgt := 13) hx hb d_Ma_join_5 (by decide) (by omega) (by omega) (fun c_5 => ?_) (fun c_5 => absurd c_5 (by omega))
  refine lv_aload_n hx hb d_Ma_join_13 rfl (lv_at hl 0 rfl) ?_
  refine lv_iload_n hx hb d_Ma_join_14 rfl (lv_at hl 1 rfl) ?_
  refine lv_lload hx hb d_Ma_join_15 (lv_at hl 4 rfl) ?_
  obtain ⟨x, hx0, hx1⟩ := rj_cov_given hr0 (by omega) hcov 0 (by omega)
  obtain ⟨y, hy0, hy1⟩ := rj_cov_given hr0 (by omega) hcov 1 (by omega)
  obtain ⟨z, hz0, hz1⟩ := rj_cov_given hr0 (by omega) hcov 2 (by omega)
  have hPc := hP.sub (ws' := [(d0, .inr (2, [.ref aT, .ref qc, .ref aU, .ref qk, .ref qr, .int (nI now), .int (nI st.2.2.2.2.1), .int (rb_z st.2.2.2.2.2)])), (qc, .inl (dA, 4, .inl st.1)), (aT, .inr (1, [.ref t1, .ref t2, .ref t3, .int he.2.2.2])), (t1, .inl (dA, 1024, .inl he.1)), (t2, .inl (dA, 32, .inl he.2.1)), (t3, .inl (dA, 32, .inl he.2.2.1)), (aU, .inr (1, [.ref u1, .ref u2, .ref u3, .int st.2.1.2.2.2])), (u1, .inl (dA, 1024, .inl st.2.1.1)), (u2, .inl (dA, 32, .inl st.2.1.2.1)), (u3, .inl (dA, 32, .inl st.2.1.2.2.1)), (qk, .inl (dA, 400, .inl st.2.2.1)), (qr, .inl (dA, 400, .inl st.2.2.2.1))]) [0, 1, 2, 3, 4, 5, 6, 7, 8, 9, 10, 11] rfl
  have hDc := hD.sub (ws' := [(d0, .inr (2, [.ref aT, .ref qc, .ref aU, .ref qk, .ref qr, .int (nI now), .int (nI st.2.2.2.2.1), .int (rb_z st.2.2.2.2.2)])), (qc, .inl (dA, 4, .inl st.1)), (aT, .inr (1, [.ref t1, .ref t2, .ref t3, .int he.2.2.2])), (t1, .inl (dA, 1024, .inl he.1)), (t2, .inl (dA, 32, .inl he.2.1)), (t3, .inl (dA, 32, .inl he.2.2.1)), (aU, .inr (1, [.ref u1, .ref u2, .ref u3, .int st.2.1.2.2.2])), (u1, .inl (dA, 1024, .inl st.2.1.1)), (u2, .inl (dA, 32, .inl st.2.1.2.1)), (u3, .inl (dA, 32, .inl st.2.1.2.2.1)), (qk, .inl (dA, 400, .inl st.2.2.1)), (qr, .inl (dA, 400, .inl st.2.2.2.1))]) [0, 1, 2, 3, 4, 5, 6, 7, 8, 9, 10, 11] (by decide) rfl
  have hFc := va_free (wc := [(d0, .inr (2, [.ref aT, .ref qc, .ref aU, .ref qk, .ref qr, .int (nI now), .int (nI st.2.2.2.2.1), .int (rb_z st.2.2.2.2.2)])), (qc, .inl (dA, 4, .inl st.1)), (aT, .inr (1, [.ref t1, .ref t2, .ref t3, .int he.2.2.2])), (t1, .inl (dA, 1024, .inl he.1)), (t2, .inl (dA, 32, .inl he.2.1)), (t3, .inl (dA, 32, .inl he.2.2.1)), (aU, .inr (1, [.ref u1, .ref u2, .ref u3, .int st.2.1.2.2.2])), (u1, .inl (dA, 1024, .inl st.2.1.1)), (u2, .inl (dA, 32, .inl st.2.1.2.1)), (u3, .inl (dA, 32, .inl st.2.1.2.2.1)), (qk, .inl (dA, 400, .inl st.2.2.1)), (qr, .inl (dA, 400, .inl st.2.2.2.1))]) hD hS hA [0, 1, 2, 3, 4, 5, 6, 7, 8, 9, 10, 11] rfl
  refine va_calli (va_runU (As := [.int (nI r), .long (lN (rt_pk ds))]) (rest := []) ⟨hx, hb, hml, hown, hts⟩ (c_De_meet l dC dI dA tP tG tC d0 qc aT t1 t2 t3 aU u1 u2 u3 qk qr he now r x y z ds st H.size hr0 hd hcnt hx0 hy0 hz0 hx1 hy1 hz1) (va_cwA (owner := "RlRounds$Matcher") 2 hts (rg_U (rg5 m_224 m_226 m_227 m_228 m_4) k_De_meet) rfl rfl rfl (hN _ rn_6) (by decide +kernel) ⟨Nat.le_of_ble_eq_true rfl, Nat.le_of_ble_eq_true rfl⟩) ⟨fun a U g mk q => ⟨q.1, q.2.1, q.2.2.1, va_K.moved (u := U) (U := U.calling g mk a) (Vm.Alike.refl U.vm) q.2.2.2.1, q.2.2.2.2.1, rn_same (u := U) (U := U.calling g mk a) rfl q.2.2.2.2.2.1, rz_same q.2.2.2.2.2.2⟩, va_recv hK hPc (ci := 2) (q0 := 0) rfl rfl, fun U hU hW => ⟨rfl, by rw [hU], by rw [hU]; exact hPc, va_K.moved hW.alike hK, hDc.weaken (fun _ _ _ _ => trivial), rn_warm hW hN, rz_at hZ hS hU hW hFc⟩⟩ rfl rfl hl.1 rfl (lv_room (Nat.le_of_ble_eq_true rfl)) d_Ma_join_17 ⟨Nat.zero_le _, Nat.zero_le _⟩) hS (fun q _ h => hFc q h) hFc (fun r9 u t H1 locs ht hvm hw hB hz1 hk1 hS => ?_)
  subst hw
  obtain ⟨hP1, hD1⟩ := hB
  rw [ht] at hP1
  obtain ⟨hP, hD⟩ := va_join (wr := []) (w1 := [(d0, .inr (2, [.ref aT, .ref qc, .ref aU, .ref qk, .ref qr, .int (nI now), .int (nI ((rd_meet now r ds st).1).2.2.2.2.1), .int (rb_z ((rd_meet now r ds st).1).2.2.2.2.2)])), (qc, .inl (dA, 4, .inl ((rd_meet now r ds st).1).1)), (aT, .inr (1, [.ref t1, .ref t2, .ref t3, .int he.2.2.2])), (t1, .inl (dA, 1024, .inl he.1)), (t2, .inl (dA, 32, .inl he.2.1)), (t3, .inl (dA, 32, .inl he.2.2.1)), (aU, .inr (1, [.ref u1, .ref u2, .ref u3, .int (((rd_meet now r ds st).1).2.1.2.2.2)])), (u1, .inl (dA, 1024, .inl (((rd_meet now r ds st).1).2.1.1))), (u2, .inl (dA, 32, .inl (((rd_meet now r ds st).1).2.1.2.1))), (u3, .inl (dA, 32, .inl (((rd_meet now r ds st).1).2.1.2.2.1))), (qk, .inl (dA, 400, .inl ((rd_meet now r ds st).1).2.2.1)), (qr, .inl (dA, 400, .inl ((rd_meet now r ds st).1).2.2.2.1))]) hP hD [0, 1, 2, 3, 4, 5, 6, 7, 8, 9, 10, 11] [] rfl rfl (by decide) (by decide) hk1 hFc hP1 hD1
  clear hk1 hFc hPc hDc hP1 hD1
  generalize H1 = H at hP hS ⊢
  have hP : va_P (dC, dI) classes [(d0, .inr (2, [.ref aT, .ref qc, .ref aU, .ref qk, .ref qr, .int (nI now), .int (nI ((rd_meet now r ds st).1).2.2.2.2.1), .int (rb_z ((rd_meet now r ds st).1).2.2.2.2.2)])), (qc, .inl (dA, 4, .inl ((rd_meet now r ds st).1).1)), (aT, .inr (1, [.ref t1, .ref t2, .ref t3, .int he.2.2.2])), (t1, .inl (dA, 1024, .inl he.1)), (t2, .inl (dA, 32, .inl he.2.1)), (t3, .inl (dA, 32, .inl he.2.2.1)), (aU, .inr (1, [.ref u1, .ref u2, .ref u3, .int (((rd_meet now r ds st).1).2.1.2.2.2)])), (u1, .inl (dA, 1024, .inl (((rd_meet now r ds st).1).2.1.1))), (u2, .inl (dA, 32, .inl (((rd_meet now r ds st).1).2.1.2.1))), (u3, .inl (dA, 32, .inl (((rd_meet now r ds st).1).2.1.2.2.1))), (qk, .inl (dA, 400, .inl ((rd_meet now r ds st).1).2.2.1)), (qr, .inl (dA, 400, .inl ((rd_meet now r ds st).1).2.2.2.1))] H := hP.sub [0, 1, 2, 3, 4, 5, 6, 7, 8, 9, 10, 11] rfl
  have hD : va_D A [(d0, .inr (2, [.ref aT, .ref qc, .ref aU, .ref qk, .ref qr, .int (nI now), .int (nI ((rd_meet now r ds st).1).2.2.2.2.1), .int (rb_z ((rd_meet now r ds st).1).2.2.2.2.2)])), (qc, .inl (dA, 4, .inl ((rd_meet now r ds st).1).1)), (aT, .inr (1, [.ref t1, .ref t2, .ref t3, .int he.2.2.2])), (t1, .inl (dA, 1024, .inl he.1)), (t2, .inl (dA, 32, .inl he.2.1)), (t3, .inl (dA, 32, .inl he.2.2.1)), (aU, .inr (1, [.ref u1, .ref u2, .ref u3, .int (((rd_meet now r ds st).1).2.1.2.2.2)])), (u1, .inl (dA, 1024, .inl (((rd_meet now r ds st).1).2.1.1))), (u2, .inl (dA, 32, .inl (((rd_meet now r ds st).1).2.1.2.1))), (u3, .inl (dA, 32, .inl (((rd_meet now r ds st).1).2.1.2.2.1))), (qk, .inl (dA, 400, .inl ((rd_meet now r ds st).1).2.2.1)), (qr, .inl (dA, 400, .inl ((rd_meet now r ds st).1).2.2.2.1))] := hD.sub [0, 1, 2, 3, 4, 5, 6, 7, 8, 9, 10, 11] (by decide) rfl
  exact W.zret (v := rb_z (rd_meet now r ds st).2) hx hb hr (rb_z_nar _) (fun t ht hW => ⟨⟨rb_z (rd_meet now r ds st).2, (), rfl, rfl, by rw [ht]; exact hP, hD⟩, hS.F ht⟩) hS.2.2 d_Ma_join_20

set_option maxHeartbeats 4000000 in
set_option maxRecDepth 100000 in
theorem c_Ma_joinDs (l : Launch) (d rem : Nat) (hd3 : 3 ≤ d) (IH : ∀ (dC : Nat → ClassId) (dI : Nat → Nat → Nat) (dA : ClassId) (tP tG tC d0 qc aT t1 t2 t3 aU u1 u2 u3 qk qr : Nat) (he : sT) (now r k : Nat) (fx : Option Nat) (ds : List Nat) (st : sD) (sz : Nat) (hr0 : r < 21) (hfx : ∀ u, fx = some u → u < 4) (hd : rt_ok ds) (hcnt : st.2.2.2.2.1 ≤ 400) (hcov : rj_cov r k fx ds) (hk : k + rem = rq_cnts.getD r 0), Met l y_Ma_join (w_ y_Ma_join b_Ma_join 21 (some .boolean)) (rm_ d) (va_Pc [.ref d0, .int (nI r), .int (nI k), .int (rt_i fx), .long (lN (rt_pk ds))] (fun U => U.heap.size = sz ∧ va_P (dC, dI) classes [(d0, .inr (2, [.ref aT, .ref qc, .ref aU, .ref qk, .ref qr, .int (nI now), .int (nI st.2.2.2.2.1), .int (rb_z st.2.2.2.2.2)])), (qc, .inl (dA, 4, .inl st.1)), (aT, .inr (1, [.ref t1, .ref t2, .ref t3, .int he.2.2.2])), (t1, .inl (dA, 1024, .inl he.1)), (t2, .inl (dA, 32, .inl he.2.1)), (t3, .inl (dA, 32, .inl he.2.2.1)), (aU, .inr (1, [.ref u1, .ref u2, .ref u3, .int st.2.1.2.2.2])), (u1, .inl (dA, 1024, .inl st.2.1.1)), (u2, .inl (dA, 32, .inl st.2.1.2.1)), (u3, .inl (dA, 32, .inl st.2.1.2.2.1)), (qk, .inl (dA, 400, .inl st.2.2.1)), (qr, .inl (dA, 400, .inl st.2.2.2.1))] U.heap ∧ va_K (dC, dI) classes [(dA, .int)] U ∧ va_D (fun _ => True) [(d0, .inr (2, [.ref aT, .ref qc, .ref aU, .ref qk, .ref qr, .int (nI now), .int (nI st.2.2.2.2.1), .int (rb_z st.2.2.2.2.2)])), (qc, .inl (dA, 4, .inl st.1)), (aT, .inr (1, [.ref t1, .ref t2, .ref t3, .int he.2.2.2])), (t1, .inl (dA, 1024, .inl he.1)), (t2, .inl (dA, 32, .inl he.2.1)), (t3, .inl (dA, 32, .inl he.2.2.1)), (aU, .inr (1, [.ref u1, .ref u2, .ref u3, .int st.2.1.2.2.2])), (u1, .inl (dA, 1024, .inl st.2.1.1)), (u2, .inl (dA, 32, .inl st.2.1.2.1)), (u3, .inl (dA, 32, .inl st.2.1.2.2.1)), (qk, .inl (dA, 400, .inl st.2.2.1)), (qr, .inl (dA, 400, .inl st.2.2.2.1))] ∧ rn_ U ∧ rz_ tP tG tC (va_A [(d0, .inr (2, [.ref aT, .ref qc, .ref aU, .ref qk, .ref qr, .int (nI now), .int (nI st.2.2.2.2.1), .int (rb_z st.2.2.2.2.2)])), (qc, .inl (dA, 4, .inl st.1)), (aT, .inr (1, [.ref t1, .ref t2, .ref t3, .int he.2.2.2])), (t1, .inl (dA, 1024, .inl he.1)), (t2, .inl (dA, 32, .inl he.2.1)), (t3, .inl (dA, 32, .inl he.2.2.1)), (aU, .inr (1, [.ref u1, .ref u2, .ref u3, .int st.2.1.2.2.2])), (u1, .inl (dA, 1024, .inl st.2.1.1)), (u2, .inl (dA, 32, .inl st.2.1.2.1)), (u3, .inl (dA, 32, .inl st.2.1.2.2.1)), (qk, .inl (dA, 400, .inl st.2.2.1)), (qr, .inl (dA, 400, .inl st.2.2.2.1))] sz) U)) (va_Qi (fun (z9 : Int32) (_ : Unit) => z9 = rb_z (rj_join (rx_trav he.1 he.2.1 he.2.2.1 he.2.2.2) (rd_meet now r) rd_ch r fx rem k ds st).2) (fun (_ : Unit) t => va_P (dC, dI) classes [(d0, .inr (2, [.ref aT, .ref qc, .ref aU, .ref qk, .ref qr, .int (nI now), .int (nI ((rj_join (rx_trav he.1 he.2.1 he.2.2.1 he.2.2.2) (rd_meet now r) rd_ch r fx rem k ds st).1).2.2.2.2.1), .int (rb_z ((rj_join (rx_trav he.1 he.2.1 he.2.2.1 he.2.2.2) (rd_meet now r) rd_ch r fx rem k ds st).1).2.2.2.2.2)])), (qc, .inl (dA, 4, .inl ((rj_join (rx_trav he.1 he.2.1 he.2.2.1 he.2.2.2) (rd_meet now r) rd_ch r fx rem k ds st).1).1)), (aT, .inr (1, [.ref t1, .ref t2, .ref t3, .int he.2.2.2])), (t1, .inl (dA, 1024, .inl he.1)), (t2, .inl (dA, 32, .inl he.2.1)), (t3, .inl (dA, 32, .inl he.2.2.1)), (aU, .inr (1, [.ref u1, .ref u2, .ref u3, .int (((rj_join (rx_trav he.1 he.2.1 he.2.2.1 he.2.2.2) (rd_meet now r) rd_ch r fx rem k ds st).1).2.1.2.2.2)])), (u1, .inl (dA, 1024, .inl (((rj_join (rx_trav he.1 he.2.1 he.2.2.1 he.2.2.2) (rd_meet now r) rd_ch r fx rem k ds st).1).2.1.1))), (u2, .inl (dA, 32, .inl (((rj_join (rx_trav he.1 he.2.1 he.2.2.1 he.2.2.2) (rd_meet now r) rd_ch r fx rem k ds st).1).2.1.2.1))), (u3, .inl (dA, 32, .inl (((rj_join (rx_trav he.1 he.2.1 he.2.2.1 he.2.2.2) (rd_meet now r) rd_ch r fx rem k ds st).1).2.1.2.2.1))), (qk, .inl (dA, 400, .inl ((rj_join (rx_trav he.1 he.2.1 he.2.2.1 he.2.2.2) (rd_meet now r) rd_ch r fx rem k ds st).1).2.2.1)), (qr, .inl (dA, 400, .inl ((rj_join (rx_trav he.1 he.2.1 he.2.2.1 he.2.2.2) (rd_meet now r) rd_ch r fx rem k ds st).1).2.2.2.1))] t.heap ∧ va_D (va_A [(d0, .inr (2, [.ref aT, .ref qc, .ref aU, .ref qk, .ref qr, .int (nI now), .int (nI st.2.2.2.2.1), .int (rb_z st.2.2.2.2.2)])), (qc, .inl (dA, 4, .inl st.1)), (aT, .inr (1, [.ref t1, .ref t2, .ref t3, .int he.2.2.2])), (t1, .inl (dA, 1024, .inl he.1)), (t2, .inl (dA, 32, .inl he.2.1)), (t3, .inl (dA, 32, .inl he.2.2.1)), (aU, .inr (1, [.ref u1, .ref u2, .ref u3, .int st.2.1.2.2.2])), (u1, .inl (dA, 1024, .inl st.2.1.1)), (u2, .inl (dA, 32, .inl st.2.1.2.1)), (u3, .inl (dA, 32, .inl st.2.1.2.2.1)), (qk, .inl (dA, 400, .inl st.2.2.1)), (qr, .inl (dA, 400, .inl st.2.2.2.1))] sz) [(d0, .inr (2, [.ref aT, .ref qc, .ref aU, .ref qk, .ref qr, .int (nI now), .int (nI ((rj_join (rx_trav he.1 he.2.1 he.2.2.1 he.2.2.2) (rd_meet now r) rd_ch r fx rem k ds st).1).2.2.2.2.1), .int (rb_z ((rj_join (rx_trav he.1 he.2.1 he.2.2.1 he.2.2.2) (rd_meet now r) rd_ch r fx rem k ds st).1).2.2.2.2.2)])), (qc, .inl (dA, 4, .inl ((rj_join (rx_trav he.1 he.2.1 he.2.2.1 he.2.2.2) (rd_meet now r) rd_ch r fx rem k ds st).1).1)), (aT, .inr (1, [.ref t1, .ref t2, .ref t3, .int he.2.2.2])), (t1, .inl (dA, 1024, .inl he.1)), (t2, .inl (dA, 32, .inl he.2.1)), (t3, .inl (dA, 32, .inl he.2.2.1)), (aU, .inr (1, [.ref u1, .ref u2, .ref u3, .int (((rj_join (rx_trav he.1 he.2.1 he.2.2.1 he.2.2.2) (rd_meet now r) rd_ch r fx rem k ds st).1).2.1.2.2.2)])), (u1, .inl (dA, 1024, .inl (((rj_join (rx_trav he.1 he.2.1 he.2.2.1 he.2.2.2) (rd_meet now r) rd_ch r fx rem k ds st).1).2.1.1))), (u2, .inl (dA, 32, .inl (((rj_join (rx_trav he.1 he.2.1 he.2.2.1 he.2.2.2) (rd_meet now r) rd_ch r fx rem k ds st).1).2.1.2.1))), (u3, .inl (dA, 32, .inl (((rj_join (rx_trav he.1 he.2.1 he.2.2.1 he.2.2.2) (rd_meet now r) rd_ch r fx rem k ds st).1).2.1.2.2.1))), (qk, .inl (dA, 400, .inl ((rj_join (rx_trav he.1 he.2.1 he.2.2.1 he.2.2.2) (rd_meet now r) rd_ch r fx rem k ds st).1).2.2.1)), (qr, .inl (dA, 400, .inl ((rj_join (rx_trav he.1 he.2.1 he.2.2.1 he.2.2.2) (rd_meet now r) rd_ch r fx rem k ds st).1).2.2.2.1))]) (va_A [(d0, .inr (2, [.ref aT, .ref qc, .ref aU, .ref qk, .ref qr, .int (nI now), .int (nI st.2.2.2.2.1), .int (rb_z st.2.2.2.2.2)])), (qc, .inl (dA, 4, .inl st.1)), (aT, .inr (1, [.ref t1, .ref t2, .ref t3, .int he.2.2.2])), (t1, .inl (dA, 1024, .inl he.1)), (t2, .inl (dA, 32, .inl he.2.1)), (t3, .inl (dA, 32, .inl he.2.2.1)), (aU, .inr (1, [.ref u1, .ref u2, .ref u3, .int st.2.1.2.2.2])), (u1, .inl (dA, 1024, .inl st.2.1.1)), (u2, .inl (dA, 32, .inl st.2.1.2.1)), (u3, .inl (dA, 32, .inl st.2.1.2.2.1)), (qk, .inl (dA, 400, .inl st.2.2.1)), (qr, .inl (dA, 400, .inl st.2.2.2.1))] sz)) 0 0 (va_A [(d0, .inr (2, [.ref aT, .ref qc, .ref aU, .ref qk, .ref qr, .int (nI now), .int (nI st.2.2.2.2.1), .int (rb_z st.2.2.2.2.2)])), (qc, .inl (dA, 4, .inl st.1)), (aT, .inr (1, [.ref t1, .ref t2, .ref t3, .int he.2.2.2])), (t1, .inl (dA, 1024, .inl he.1)), (t2, .inl (dA, 32, .inl he.2.1)), (t3, .inl (dA, 32, .inl he.2.2.1)), (aU, .inr (1, [.ref u1, .ref u2, .ref u3, .int st.2.1.2.2.2])), (u1, .inl (dA, 1024, .inl st.2.1.1)), (u2, .inl (dA, 32, .inl st.2.1.2.1)), (u3, .inl (dA, 32, .inl st.2.1.2.2.1)), (qk, .inl (dA, 400, .inl st.2.2.1)), (qr, .inl (dA, 400, .inl st.2.2.2.1))] sz)) (dC : Nat → ClassId) (dI : Nat → Nat → Nat) (dA : ClassId) (tP tG tC d0 qc aT t1 t2 t3 aU u1 u2 u3 qk qr : Nat) (he : sT) (now r k : Nat) (fx : Option Nat) (ds : List Nat) (st : sD) (sz : Nat) (hr0 : r < 21) (hfx : ∀ u, fx = some u → u < 4) (hd : rt_ok ds) (hcnt : st.2.2.2.2.1 ≤ 400) (hcov : rj_cov r k fx ds) (hk : k + (rem + 1) = rq_cnts.getD r 0) : Met l y_Ma_join (w_ y_Ma_join b_Ma_join 21 (some .boolean)) (rm_ (d + 1)) (va_Pc [.ref d0, .int (nI r), .int (nI k), .int (rt_i fx), .long (lN (rt_pk ds))] (fun U => U.heap.size = sz ∧ va_P (dC, dI) classes [(d0, .inr (2, [.ref aT, .ref qc, .ref aU, .ref qk, .ref qr, .int (nI now), .int (nI st.2.2.2.2.1), .int (rb_z st.2.2.2.2.2)])), (qc, .inl (dA, 4, .inl st.1)), (aT, .inr (1, [.ref t1, .ref t2, .ref t3, .int he.2.2.2])), (t1, .inl (dA, 1024, .inl he.1)), (t2, .inl (dA, 32, .inl he.2.1)), (t3, .inl (dA, 32, .inl he.2.2.1)), (aU, .inr (1, [.ref u1, .ref u2, .ref u3, .int st.2.1.2.2.2])), (u1, .inl (dA, 1024, .inl st.2.1.1)), (u2, .inl (dA, 32, .inl st.2.1.2.1)), (u3, .inl (dA, 32, .inl st.2.1.2.2.1)), (qk, .inl (dA, 400, .inl st.2.2.1)), (qr, .inl (dA, 400, .inl st.2.2.2.1))] U.heap ∧ va_K (dC, dI) classes [(dA, .int)] U ∧ va_D (fun _ => True) [(d0, .inr (2, [.ref aT, .ref qc, .ref aU, .ref qk, .ref qr, .int (nI now), .int (nI st.2.2.2.2.1), .int (rb_z st.2.2.2.2.2)])), (qc, .inl (dA, 4, .inl st.1)), (aT, .inr (1, [.ref t1, .ref t2, .ref t3, .int he.2.2.2])), (t1, .inl (dA, 1024, .inl he.1)), (t2, .inl (dA, 32, .inl he.2.1)), (t3, .inl (dA, 32, .inl he.2.2.1)), (aU, .inr (1, [.ref u1, .ref u2, .ref u3, .int st.2.1.2.2.2])), (u1, .inl (dA, 1024, .inl st.2.1.1)), (u2, .inl (dA, 32, .inl st.2.1.2.1)), (u3, .inl (dA, 32, .inl st.2.1.2.2.1)), (qk, .inl (dA, 400, .inl st.2.2.1)), (qr, .inl (dA, 400, .inl st.2.2.2.1))] ∧ rn_ U ∧ rz_ tP tG tC (va_A [(d0, .inr (2, [.ref aT, .ref qc, .ref aU, .ref qk, .ref qr, .int (nI now), .int (nI st.2.2.2.2.1), .int (rb_z st.2.2.2.2.2)])), (qc, .inl (dA, 4, .inl st.1)), (aT, .inr (1, [.ref t1, .ref t2, .ref t3, .int he.2.2.2])), (t1, .inl (dA, 1024, .inl he.1)), (t2, .inl (dA, 32, .inl he.2.1)), (t3, .inl (dA, 32, .inl he.2.2.1)), (aU, .inr (1, [.ref u1, .ref u2, .ref u3, .int st.2.1.2.2.2])), (u1, .inl (dA, 1024, .inl st.2.1.1)), (u2, .inl (dA, 32, .inl st.2.1.2.1)), (u3, .inl (dA, 32, .inl st.2.1.2.2.1)), (qk, .inl (dA, 400, .inl st.2.2.1)), (qr, .inl (dA, 400, .inl st.2.2.2.1))] sz) U)) (va_Qi (fun (z9 : Int32) (_ : Unit) => z9 = rb_z (rj_join (rx_trav he.1 he.2.1 he.2.2.1 he.2.2.2) (rd_meet now r) rd_ch r fx (rem + 1) k ds st).2) (fun (_ : Unit) t => va_P (dC, dI) classes [(d0, .inr (2, [.ref aT, .ref qc, .ref aU, .ref qk, .ref qr, .int (nI now), .int (nI ((rj_join (rx_trav he.1 he.2.1 he.2.2.1 he.2.2.2) (rd_meet now r) rd_ch r fx (rem + 1) k ds st).1).2.2.2.2.1), .int (rb_z ((rj_join (rx_trav he.1 he.2.1 he.2.2.1 he.2.2.2) (rd_meet now r) rd_ch r fx (rem + 1) k ds st).1).2.2.2.2.2)])), (qc, .inl (dA, 4, .inl ((rj_join (rx_trav he.1 he.2.1 he.2.2.1 he.2.2.2) (rd_meet now r) rd_ch r fx (rem + 1) k ds st).1).1)), (aT, .inr (1, [.ref t1, .ref t2, .ref t3, .int he.2.2.2])), (t1, .inl (dA, 1024, .inl he.1)), (t2, .inl (dA, 32, .inl he.2.1)), (t3, .inl (dA, 32, .inl he.2.2.1)), (aU, .inr (1, [.ref u1, .ref u2, .ref u3, .int (((rj_join (rx_trav he.1 he.2.1 he.2.2.1 he.2.2.2) (rd_meet now r) rd_ch r fx (rem + 1) k ds st).1).2.1.2.2.2)])), (u1, .inl (dA, 1024, .inl (((rj_join (rx_trav he.1 he.2.1 he.2.2.1 he.2.2.2) (rd_meet now r) rd_ch r fx (rem + 1) k ds st).1).2.1.1))), (u2, .inl (dA, 32, .inl (((rj_join (rx_trav he.1 he.2.1 he.2.2.1 he.2.2.2) (rd_meet now r) rd_ch r fx (rem + 1) k ds st).1).2.1.2.1))), (u3, .inl (dA, 32, .inl (((rj_join (rx_trav he.1 he.2.1 he.2.2.1 he.2.2.2) (rd_meet now r) rd_ch r fx (rem + 1) k ds st).1).2.1.2.2.1))), (qk, .inl (dA, 400, .inl ((rj_join (rx_trav he.1 he.2.1 he.2.2.1 he.2.2.2) (rd_meet now r) rd_ch r fx (rem + 1) k ds st).1).2.2.1)), (qr, .inl (dA, 400, .inl ((rj_join (rx_trav he.1 he.2.1 he.2.2.1 he.2.2.2) (rd_meet now r) rd_ch r fx (rem + 1) k ds st).1).2.2.2.1))] t.heap ∧ va_D (va_A [(d0, .inr (2, [.ref aT, .ref qc, .ref aU, .ref qk, .ref qr, .int (nI now), .int (nI st.2.2.2.2.1), .int (rb_z st.2.2.2.2.2)])), (qc, .inl (dA, 4, .inl st.1)), (aT, .inr (1, [.ref t1, .ref t2, .ref t3, .int he.2.2.2])), (t1, .inl (dA, 1024, .inl he.1)), (t2, .inl (dA, 32, .inl he.2.1)), (t3, .inl (dA, 32, .inl he.2.2.1)), (aU, .inr (1, [.ref u1, .ref u2, .ref u3, .int st.2.1.2.2.2])), (u1, .inl (dA, 1024, .inl st.2.1.1)), (u2, .inl (dA, 32, .inl st.2.1.2.1)), (u3, .inl (dA, 32, .inl st.2.1.2.2.1)), (qk, .inl (dA, 400, .inl st.2.2.1)), (qr, .inl (dA, 400, .inl st.2.2.2.1))] sz) [(d0, .inr (2, [.ref aT, .ref qc, .ref aU, .ref qk, .ref qr, .int (nI now), .int (nI ((rj_join (rx_trav he.1 he.2.1 he.2.2.1 he.2.2.2) (rd_meet now r) rd_ch r fx (rem + 1) k ds st).1).2.2.2.2.1), .int (rb_z ((rj_join (rx_trav he.1 he.2.1 he.2.2.1 he.2.2.2) (rd_meet now r) rd_ch r fx (rem + 1) k ds st).1).2.2.2.2.2)])), (qc, .inl (dA, 4, .inl ((rj_join (rx_trav he.1 he.2.1 he.2.2.1 he.2.2.2) (rd_meet now r) rd_ch r fx (rem + 1) k ds st).1).1)), (aT, .inr (1, [.ref t1, .ref t2, .ref t3, .int he.2.2.2])), (t1, .inl (dA, 1024, .inl he.1)), (t2, .inl (dA, 32, .inl he.2.1)), (t3, .inl (dA, 32, .inl he.2.2.1)), (aU, .inr (1, [.ref u1, .ref u2, .ref u3, .int (((rj_join (rx_trav he.1 he.2.1 he.2.2.1 he.2.2.2) (rd_meet now r) rd_ch r fx (rem + 1) k ds st).1).2.1.2.2.2)])), (u1, .inl (dA, 1024, .inl (((rj_join (rx_trav he.1 he.2.1 he.2.2.1 he.2.2.2) (rd_meet now r) rd_ch r fx (rem + 1) k ds st).1).2.1.1))), (u2, .inl (dA, 32, .inl (((rj_join (rx_trav he.1 he.2.1 he.2.2.1 he.2.2.2) (rd_meet now r) rd_ch r fx (rem + 1) k ds st).1).2.1.2.1))), (u3, .inl (dA, 32, .inl (((rj_join (rx_trav he.1 he.2.1 he.2.2.1 he.2.2.2) (rd_meet now r) rd_ch r fx (rem + 1) k ds st).1).2.1.2.2.1))), (qk, .inl (dA, 400, .inl ((rj_join (rx_trav he.1 he.2.1 he.2.2.1 he.2.2.2) (rd_meet now r) rd_ch r fx (rem + 1) k ds st).1).2.2.1)), (qr, .inl (dA, 400, .inl ((rj_join (rx_trav he.1 he.2.1 he.2.2.1 he.2.2.2) (rd_meet now r) rd_ch r fx (rem + 1) k ds st).1).2.2.2.1))]) (va_A [(d0, .inr (2, [.ref aT, .ref qc, .ref aU, .ref qk, .ref qr, .int (nI now), .int (nI st.2.2.2.2.1), .int (rb_z st.2.2.2.2.2)])), (qc, .inl (dA, 4, .inl st.1)), (aT, .inr (1, [.ref t1, .ref t2, .ref t3, .int he.2.2.2])), (t1, .inl (dA, 1024, .inl he.1)), (t2, .inl (dA, 32, .inl he.2.1)), (t3, .inl (dA, 32, .inl he.2.2.1)), (aU, .inr (1, [.ref u1, .ref u2, .ref u3, .int st.2.1.2.2.2])), (u1, .inl (dA, 1024, .inl st.2.1.1)), (u2, .inl (dA, 32, .inl st.2.1.2.1)), (u3, .inl (dA, 32, .inl st.2.1.2.2.1)), (qk, .inl (dA, 400, .inl st.2.2.1)), (qr, .inl (dA, 400, .inl st.2.2.2.1))] sz)) 0 0 (va_A [(d0, .inr (2, [.ref aT, .ref qc, .ref aU, .ref qk, .ref qr, .int (nI now), .int (nI st.2.2.2.2.1), .int (rb_z st.2.2.2.2.2)])), (qc, .inl (dA, 4, .inl st.1)), (aT, .inr (1, [.ref t1, .ref t2, .ref t3, .int he.2.2.2])), (t1, .inl (dA, 1024, .inl he.1)), (t2, .inl (dA, 32, .inl he.2.1)), (t3, .inl (dA, 32, .inl he.2.2.1)), (aU, .inr (1, [.ref u1, .ref u2, .ref u3, .int st.2.1.2.2.2])), (u1, .inl (dA, 1024, .inl st.2.1.1)), (u2, .inl (dA, 32, .inl st.2.1.2.1)), (u3, .inl (dA, 32, .inl st.2.1.2.2.1)), (qk, .inl (dA, 400, .inl st.2.2.1)), (qr, .inl (dA, 400, .inl st.2.2.2.1))] sz) := by
  refine Met.ofW (cc := b_Ma_join) (maxL := 21) (ret := (some .boolean)) (by decide) rfl ?_
  have hcl := rq_cnts_le r (by omega)
  intro p e s m args below meth c s₁ B hml hv
  obtain ⟨rfl, hsz, hP, hK, hD0, hN, hZ⟩ := hv
  have hx := B.exec
  have hb := B.bytes
  have hr := B.returns
  have hts := atoms_spec (ws := (w_ y_Ma_join b_Ma_join 21 (some .boolean))) B.pre
  have hown : s.vm.findClass R_Ma = some m.cls := findClass_of_methodNamed B.named
  have hlocks := B.notSynchronized
  subst hsz
  have hD := hD0.self (sz := s.heap.size)
  generalize hAe : va_A [(d0, .inr (2, [.ref aT, .ref qc, .ref aU, .ref qk, .ref qr, .int (nI now), .int (nI st.2.2.2.2.1), .int (rb_z st.2.2.2.2.2)])), (qc, .inl (dA, 4, .inl st.1)), (aT, .inr (1, [.ref t1, .ref t2, .ref t3, .int he.2.2.2])), (t1, .inl (dA, 1024, .inl he.1)), (t2, .inl (dA, 32, .inl he.2.1)), (t3, .inl (dA, 32, .inl he.2.2.1)), (aU, .inr (1, [.ref u1, .ref u2, .ref u3, .int st.2.1.2.2.2])), (u1, .inl (dA, 1024, .inl st.2.1.1)), (u2, .inl (dA, 32, .inl st.2.1.2.1)), (u3, .inl (dA, 32, .inl st.2.1.2.2.1)), (qk, .inl (dA, 400, .inl st.2.2.1)), (qr, .inl (dA, 400, .inl st.2.2.2.1))] s.heap.size = A at hD hZ ⊢
  have hA : ∀ q : Nat, s.heap.size ≤ q → A q := fun q h => by rw [← hAe]; exact Or.inr h
  have hS : va_S A s.heap s.heap [] := va_S.rf
  have hl := lv_entry ([.ref d0, .int (nI r), .int (nI k), .int (rt_i fx), .long (lN (rt_pk ds))]) (n := 21) (Nat.le_of_ble_eq_true rfl)
  rw [lg_entry_eq]
  generalize (lg_sl ([.ref d0, .int (nI r), .int (nI k), .int (rt_i fx), .long (lN (rt_pk ds))]) ++ List.replicate (21 - (lg_sl ([.ref d0, .int (nI r), .int (nI k), .int (rt_i fx), .long (lN (rt_pk ds))])).length) Slot.unset).toArray = ls at hl ⊢
  have hl : lv_has ls 21 [(0, .ref d0), (1, .int (nI r)), (2, .int (nI k)), (3, .int (rt_i fx)), (4, .long (lN (rt_pk ds)))] := hl
  refine lv_iload_n hx hb d_Ma_join_0 rfl (lv_at hl 2 rfl) ?_
  refine lv_iload_n hx hb d_Ma_join_1 rfl (lv_at hl 1 rfl) ?_
  refine rv_calli (r := nI (rq_cnts.getD r 0)) (va_runS (As := [.int (nI r)]) (rest := [.int (nI k)]) ⟨hx, hb, hml, hown, hts⟩ (c_Tb_premiseCount l tP tG tC r (by omega)) (va_cwS 1 hts (rg_S (rg3 m_223 m_204 m_8) k_Tb_premiseCount) rfl rfl rfl (by decide +kernel) ⟨by show 0 + 1 ≤ d + 1; omega, by show 8 + (1 + 11) + 64 * 0 ≤ 64 * (d + 1); omega⟩) ⟨fun a U g mk q => ⟨q.1, rz_same q.2⟩, fun U hU hW => ⟨rfl, rz_at hZ hS hU hW (fun _ h => h.elim)⟩⟩ rfl rfl hl.1 rfl (lv_room (Nat.le_of_ble_eq_true rfl)) d_Ma_join_2 ⟨Nat.zero_le _, Nat.zero_le _⟩) hS (fun _ h => h.elim) (fun H locs hk hS => ?_)
  have hP := rv_kept hP hk
  refine rv_icmp_ge (tgt := 13) hx hb d_Ma_join_5 (by decide) (by omega) (by omega) (fun c_5 => absurd c_5 (by omega)) (fun c_5 => ?_)
  refine lv_iload_n hx hb d_Ma_join_8 rfl (lv_at hl 2 rfl) ?_
  refine lv_iconst (v := nI 4) hx hb d_Ma_join_9 (by decide) ?_
  refine rv_icmp_lt (tgt := 21) hx hb d_Ma_join_10 (by decide) (by omega) (by omega) (fun c_10 => ?_) (fun c_10 => absurd c_10 (by omega))
  refine lv_iload_n hx hb d_Ma_join_21 rfl (lv_at hl 2 rfl) ?_
  refine lv_iload_n hx hb d_Ma_join_22 rfl (lv_at hl 3 rfl) ?_
  refine lv_icmp_ne (tgt := 38) hx hb d_Ma_join_23 (by decide) (fun c_23 => ?_) (fun c_23 => ?_)
  · refine lv_iload_n hx hb d_Ma_join_38 rfl (lv_at hl 1 rfl) ?_
    refine lv_iload_n hx hb d_Ma_join_39 rfl (lv_at hl 2 rfl) ?_
    refine rv_calli (r := nI (12 * r + 3 * k)) (va_runS (As := [.int (nI r), .int (nI k)]) (rest := []) ⟨hx, hb, hml, hown, hts⟩ (c_Tb_premiseAt l r k) (va_cwS 2 hts (rg_S (rg3 m_244 m_191 m_8) k_Tb_premiseAt) rfl rfl rfl (by decide +kernel) ⟨by show 0 + 1 ≤ d + 1; omega, by show 8 + (2 + 11) + 64 * 0 ≤ 64 * (d + 1); omega⟩) ⟨fun _ _ _ _ q => q, fun U hU hW => ⟨rfl, trivial⟩⟩ rfl rfl hl.1 rfl (lv_room (Nat.le_of_ble_eq_true rfl)) d_Ma_join_40 ⟨Nat.zero_le _, Nat.zero_le _⟩) hS (fun _ h => h.elim) (fun H locs hk hS => ?_)
    have hP := rv_kept hP hk
    refine lv_istore (lv' := [(6, .int (nI (12 * r + 3 * k))), (0, .ref d0), (1, .int (nI r)), (2, .int (nI k)), (3, .int (rt_i fx)), (4, .long (lN (rt_pk ds)))]) hx hb d_Ma_join_43 hl (by decide) rfl (fun ls hl => ?_)
    refine va_gets hx hb hZ.1.1 hS hown (hts _ (List.mem_cons_of_mem _ m_245)) (fun _ h9 => h9) d_Ma_join_45 ?_
    refine lv_iload hx hb d_Ma_join_48 (lv_at hl 0 rfl) ?_
    refine rv_ti (k := (12 * r + 3 * k)) hx hb hZ.1.2 hS (by omega) (by decide) (v := .int (nI (rq_prem.getD (12 * r + 3 * k) 0))) rfl d_Ma_join_50 ?_
    refine lv_lload hx hb d_Ma_join_51 (lv_at hl 5 rfl) ?_
    refine rv_calli (r := rt_i (rt_term (rq_prem.getD (12 * r + 3 * k) 0) ds)) (va_runS (As := [.int (nI (rq_prem.getD (12 * r + 3 * k) 0)), .long (lN (rt_pk ds))]) (rest := []) ⟨hx, hb, hml, hown, hts⟩ (c_Le_termOf l (rq_prem.getD (12 * r + 3 * k) 0) ds (rq_prem_lt _) (hd)) (va_cwS 2 hts (rg_S (rg3 m_246 m_216 m_9) k_Le_termOf) rfl rfl rfl (by decide +kernel) ⟨by show 0 + 1 ≤ d + 1; omega, by show 8 + (3 + 11) + 64 * 0 ≤ 64 * (d + 1); omega⟩) ⟨fun _ _ _ _ q => q, fun U hU hW => ⟨rfl, trivial⟩⟩ rfl rfl hl.1 rfl (lv_room (Nat.le_of_ble_eq_true rfl)) d_Ma_join_53 ⟨Nat.zero_le _, Nat.zero_le _⟩) hS (fun _ h => h.elim) (fun H locs hk hS => ?_)
    have hP := rv_kept hP hk
    obtain ⟨kS, ekS⟩ : ∃ x, x = rt_term (rq_prem.getD (12 * r + 3 * k) 0) ds := ⟨_, rfl⟩
    have hkS : ∀ x, kS = some x → x < 32 := fun x hx => rt_term_lt hd (ekS.symm.trans hx)
    refine rv_eq (y := rt_i kS) (by rw [ekS]) ?_
    refine lv_istore (lv' := [(7, .int (rt_i kS)), (6, .int (nI (12 * r + 3 * k))), (0, .ref d0), (1, .int (nI r)), (2, .int (nI k)), (3, .int (rt_i fx)), (4, .long (lN (rt_pk ds)))]) hx hb d_Ma_join_56 hl (by decide) rfl (fun ls hl => ?_)
    refine va_gets hx hb hZ.1.1 hS hown (hts _ (List.mem_cons_of_mem _ m_245)) (fun _ h9 => h9) d_Ma_join_58 ?_
    refine lv_iload hx hb d_Ma_join_61 (lv_at hl 1 rfl) ?_
    refine lv_iconst (v := nI 1) hx hb d_Ma_join_63 (by decide) ?_
    refine rv_iadd hx hb d_Ma_join_64 ?_
    refine rv_ti (k := ((12 * r + 3 * k) + 1)) hx hb hZ.1.2 hS (by omega) (by decide) (v := .int (nI (rq_prem.getD ((12 * r + 3 * k) + 1) 0))) rfl d_Ma_join_65 ?_
    refine lv_lload hx hb d_Ma_join_66 (lv_at hl 6 rfl) ?_
    refine rv_calli (r := rt_i (rt_term (rq_prem.getD ((12 * r + 3 * k) + 1) 0) ds)) (va_runS (As := [.int (nI (rq_prem.getD ((12 * r + 3 * k) + 1) 0)), .long (lN (rt_pk ds))]) (rest := []) ⟨hx, hb, hml, hown, hts⟩ (c_Le_termOf l (rq_prem.getD ((12 * r + 3 * k) + 1) 0) ds (rq_prem_lt _) (hd)) (va_cwS 2 hts (rg_S (rg3 m_246 m_216 m_9) k_Le_termOf) rfl rfl rfl (by decide +kernel) ⟨by show 0 + 1 ≤ d + 1; omega, by show 8 + (3 + 11) + 64 * 0 ≤ 64 * (d + 1); omega⟩) ⟨fun _ _ _ _ q => q, fun U hU hW => ⟨rfl, trivial⟩⟩ rfl rfl hl.1 rfl (lv_room (Nat.le_of_ble_eq_true rfl)) d_Ma_join_68 ⟨Nat.zero_le _, Nat.zero_le _⟩) hS (fun _ h => h.elim) (fun H locs hk hS => ?_)
    have hP := rv_kept hP hk
    obtain ⟨kP, ekP⟩ : ∃ x, x = rt_term (rq_prem.getD (12 * r + 3 * k + 1) 0) ds := ⟨_, rfl⟩
    have hkP : ∀ x, kP = some x → x < 32 := fun x hx => rt_term_lt hd (ekP.symm.trans hx)
    refine rv_eq (y := rt_i kP) (by rw [ekP]) ?_
    refine lv_istore (lv' := [(8, .int (rt_i kP)), (7, .int (rt_i kS)), (6, .int (nI (12 * r + 3 * k))), (0, .ref d0), (1, .int (nI r)), (2, .int (nI k)), (3, .int (rt_i fx)), (4, .long (lN (rt_pk ds)))]) hx hb d_Ma_join_71 hl (by decide) rfl (fun ls hl => ?_)
    refine va_gets hx hb hZ.1.1 hS hown (hts _ (List.mem_cons_of_mem _ m_245)) (fun _ h9 => h9) d_Ma_join_73 ?_
    refine lv_iload hx hb d_Ma_join_76 (lv_at hl 2 rfl) ?_
    refine lv_iconst (v := nI 2) hx hb d_Ma_join_78 (by decide) ?_
    refine rv_iadd hx hb d_Ma_join_79 ?_
    refine rv_ti (k := ((12 * r + 3 * k) + 2)) hx hb hZ.1.2 hS (by omega) (by decide) (v := .int (nI (rq_prem.getD ((12 * r + 3 * k) + 2) 0))) rfl d_Ma_join_80 ?_
    refine lv_lload hx hb d_Ma_join_81 (lv_at hl 7 rfl) ?_
    refine rv_calli (r := rt_i (rt_term (rq_prem.getD ((12 * r + 3 * k) + 2) 0) ds)) (va_runS (As := [.int (nI (rq_prem.getD ((12 * r + 3 * k) + 2) 0)), .long (lN (rt_pk ds))]) (rest := []) ⟨hx, hb, hml, hown, hts⟩ (c_Le_termOf l (rq_prem.getD ((12 * r + 3 * k) + 2) 0) ds (rq_prem_lt _) (hd)) (va_cwS 2 hts (rg_S (rg3 m_246 m_216 m_9) k_Le_termOf) rfl rfl rfl (by decide +kernel) ⟨by show 0 + 1 ≤ d + 1; omega, by show 8 + (3 + 11) + 64 * 0 ≤ 64 * (d + 1); omega⟩) ⟨fun _ _ _ _ q => q, fun U hU hW => ⟨rfl, trivial⟩⟩ rfl rfl hl.1 rfl (lv_room (Nat.le_of_ble_eq_true rfl)) d_Ma_join_83 ⟨Nat.zero_le _, Nat.zero_le _⟩) hS (fun _ h => h.elim) (fun H locs hk hS => ?_)
    have hP := rv_kept hP hk
    obtain ⟨kO, ekO⟩ : ∃ x, x = rt_term (rq_prem.getD (12 * r + 3 * k + 2) 0) ds := ⟨_, rfl⟩
    have hkO : ∀ x, kO = some x → x < 32 := fun x hx => rt_term_lt hd (ekO.symm.trans hx)
    refine rv_eq (y := rt_i kO) (by rw [ekO]) ?_
    refine lv_istore (lv' := [(9, .int (rt_i kO)), (8, .int (rt_i kP)), (7, .int (rt_i kS)), (6, .int (nI (12 * r + 3 * k))), (0, .ref d0), (1, .int (nI r)), (2, .int (nI k)), (3, .int (rt_i fx)), (4, .long (lN (rt_pk ds)))]) hx hb d_Ma_join_86 hl (by decide) rfl (fun ls hl => ?_)
    refine lv_aload_n hx hb d_Ma_join_88 rfl (lv_at hl 4 rfl) ?_
    refine va_get (D := (dC, dI)) (ci := 2) (v := .ref aT) (C := R_De) (T := F_De) (N := 8) hx hb hts (rg_c i_De) hown hK hP 0 rfl rfl 0 (by decide) (hts _ (List.mem_cons_of_mem _ m_60)) (fun _ h9 => h9) rfl d_Ma_join_89 ?_
    refine lv_iload hx hb d_Ma_join_92 (lv_at hl 2 rfl) ?_
    refine lv_iload hx hb d_Ma_join_94 (lv_at hl 1 rfl) ?_
    refine rv_calli (r := rx_ss he.2.1 he.2.2.2 kS kP) (va_runV (As := [.int (rt_i kS), .int (rt_i kP)]) (rest := []) ⟨hx, hb, hml, hown, hts⟩ (c_Tr_subjectsFor l dC dI dA aT t1 t2 t3 he.1 he.2.1 he.2.2.1 he.2.2.2 kS kP (hkS) (hkP)) (cwV 2 hts (rg_V (rg4 m_247 m_194 m_195 m_2) k_Tr_subjectsFor) rfl rfl rfl (by decide +kernel) ⟨by show 1 + 1 ≤ d + 1; omega, by show 8 + (3 + 11) + 64 * 1 ≤ 64 * (d + 1); omega⟩) ⟨fun a U g mk q => ⟨q.1, va_K.moved (u := U) (U := U.calling g mk a) (Vm.Alike.refl U.vm) q.2.1, q.2.2.1, rn_same (u := U) (U := U.calling g mk a) rfl q.2.2.2⟩, va_recv hK hP (ci := 1) (q0 := 2) rfl rfl, fun U hU hW => ⟨rfl, va_K.moved hW.alike hK, by rw [hU]; exact hP.sub (ws' := [(aT, .inr (1, [.ref t1, .ref t2, .ref t3, .int he.2.2.2])), (t1, .inl (dA, 1024, .inl he.1)), (t2, .inl (dA, 32, .inl he.2.1)), (t3, .inl (dA, 32, .inl he.2.2.1))]) [2, 3, 4, 5] rfl, rn_warm hW hN⟩⟩ rfl rfl hl.1 rfl (lv_room (Nat.le_of_ble_eq_true rfl)) d_Ma_join_96 ⟨Nat.zero_le _, Nat.zero_le _⟩) hS (fun _ h => h.elim) (fun H locs hk hS => ?_)
    have hP := rv_kept hP hk
    refine lv_istore (lv' := [(10, .int (rx_ss he.2.1 he.2.2.2 kS kP)), (9, .int (rt_i kO)), (8, .int (rt_i kP)), (7, .int (rt_i kS)), (6, .int (nI (12 * r + 3 * k))), (0, .ref d0), (1, .int (nI r)), (2, .int (nI k)), (3, .int (rt_i fx)), (4, .long (lN (rt_pk ds)))]) hx hb d_Ma_join_99 hl (by decide) rfl (fun ls hl => ?_)
    refine lv_iload hx hb d_Ma_join_101 (lv_at hl 0 rfl) ?_
    refine rv_calli (r := nI (rb_cnt (rx_ss he.2.1 he.2.2.2 kS kP))) (va_runS (As := [.int (rx_ss he.2.1 he.2.2.2 kS kP)]) (rest := []) ⟨hx, hb, hml, hown, hts⟩ (c_Ig_bitCount l (rx_ss he.2.1 he.2.2.2 kS kP)) (va_cwS 1 hts (rg_S (rg3 m_248 m_249 m_10) k_Ig_bitCount) rfl rfl rfl (by decide +kernel) ⟨by show 0 + 1 ≤ d + 1; omega, by show 8 + (1 + 11) + 64 * 0 ≤ 64 * (d + 1); omega⟩) ⟨fun _ _ _ _ q => q, fun U hU hW => ⟨rfl, trivial⟩⟩ rfl rfl hl.1 rfl (lv_room (Nat.le_of_ble_eq_true rfl)) d_Ma_join_103 ⟨Nat.zero_le _, Nat.zero_le _⟩) hS (fun _ h => h.elim) (fun H locs hk hS => ?_)
    have hP := rv_kept hP hk
    refine lv_istore (lv' := [(11, .int (nI (rb_cnt (rx_ss he.2.1 he.2.2.2 kS kP)))), (10, .int (rx_ss he.2.1 he.2.2.2 kS kP)), (9, .int (rt_i kO)), (8, .int (rt_i kP)), (7, .int (rt_i kS)), (6, .int (nI (12 * r + 3 * k))), (0, .ref d0), (1, .int (nI r)), (2, .int (nI k)), (3, .int (rt_i fx)), (4, .long (lN (rt_pk ds)))]) hx hb d_Ma_join_106 hl (by decide) rfl (fun ls hl => ?_)
    have hfk : ¬ fx = some k := fun e => c_23 ((rj_term_i (by omega) (fun u hu => by have := hfx u hu; omega)).mpr e)
    obtain ⟨RES, hRES⟩ : ∃ R, R = rj_join (rx_trav he.1 he.2.1 he.2.2.1 he.2.2.2) (rd_meet now r) rd_ch r fx (rem + 1) k ds st := ⟨_, rfl⟩
    have hR0 : rj_fold (rj_body rd_ch r k ds (rj_join (rx_trav he.1 he.2.1 he.2.2.1 he.2.2.2) (rd_meet now r) rd_ch r fx rem (k + 1))) st ((rb_els (rx_ss he.2.1 he.2.2.2 kS kP)).flatMap (fun s => (rb_els (rx_ps he.2.2.1 s kP)).flatMap (fun p => (rb_els (rx_os he.1 s p kO)).map (fun o => rx_code s p o)))) = RES := by
      rw [hRES, ekS, ekP, ekO]
      show _ = if fx = some k then _ else _
      rw [if_neg hfk]
      rfl
    rw [← hRES]
    clear hRES
    refine rv_Q (fun Q hQ => ?_)
    have lp1 : ∀ (n : Nat) (x1 : Int32) (st : sD) (H : Heap) (locs : List Loc) (ls : Array Slot), rb_cnt x1 = n → st.2.2.2.2.1 ≤ 400 → rj_fold (rj_body rd_ch r k ds (rj_join (rx_trav he.1 he.2.1 he.2.2.1 he.2.2.2) (rd_meet now r) rd_ch r fx rem (k + 1))) st ((rb_els x1).flatMap (fun s => (rb_els (rx_ps he.2.2.1 s kP)).flatMap (fun p => (rb_els (rx_os he.1 s p kO)).map (fun o => rx_code s p o)))) = RES → va_P (dC, dI) classes [(d0, .inr (2, [.ref aT, .ref qc, .ref aU, .ref qk, .ref qr, .int (nI now), .int (nI st.2.2.2.2.1), .int (rb_z st.2.2.2.2.2)])), (qc, .inl (dA, 4, .inl st.1)), (aT, .inr (1, [.ref t1, .ref t2, .ref t3, .int he.2.2.2])), (t1, .inl (dA, 1024, .inl he.1)), (t2, .inl (dA, 32, .inl he.2.1)), (t3, .inl (dA, 32, .inl he.2.2.1)), (aU, .inr (1, [.ref u1, .ref u2, .ref u3, .int st.2.1.2.2.2])), (u1, .inl (dA, 1024, .inl st.2.1.1)), (u2, .inl (dA, 32, .inl st.2.1.2.1)), (u3, .inl (dA, 32, .inl st.2.1.2.2.1)), (qk, .inl (dA, 400, .inl st.2.2.1)), (qr, .inl (dA, 400, .inl st.2.2.2.1))] H → va_D A [(d0, .inr (2, [.ref aT, .ref qc, .ref aU, .ref qk, .ref qr, .int (nI now), .int (nI st.2.2.2.2.1), .int (rb_z st.2.2.2.2.2)])), (qc, .inl (dA, 4, .inl st.1)), (aT, .inr (1, [.ref t1, .ref t2, .ref t3, .int he.2.2.2])), (t1, .inl (dA, 1024, .inl he.1)), (t2, .inl (dA, 32, .inl he.2.1)), (t3, .inl (dA, 32, .inl he.2.2.1)), (aU, .inr (1, [.ref u1, .ref u2, .ref u3, .int st.2.1.2.2.2])), (u1, .inl (dA, 1024, .inl st.2.1.1)), (u2, .inl (dA, 32, .inl st.2.1.2.1)), (u3, .inl (dA, 32, .inl st.2.1.2.2.1)), (qk, .inl (dA, 400, .inl st.2.2.1)), (qr, .inl (dA, 400, .inl st.2.2.2.1))] → va_S A s.heap H locs → lv_has ls 21 [(11, .int (nI n)), (10, .int x1), (0, .ref d0), (1, .int (nI r)), (2, .int (nI k)), (3, .int (rt_i fx)), (4, .long (lN (rt_pk ds))), (6, .int (nI (12 * r + 3 * k))), (8, .int (rt_i kP)), (9, .int (rt_i kO))] → W p l e (headSpec (w_ y_Ma_join b_Ma_join 21 (some .boolean)) (rm_ (d + 1))).room s m ([.ref d0, .int (nI r), .int (nI k), .int (rt_i fx), .long (lN (rt_pk ds))] : List Value).toArray below meth c H locs 0 0 Q (F0 m 108 ls []) := by
      intro n
      induction n with
      | zero =>
        intro x1 st H locs ls hn1 hcnt hR hP hD hS hl
        rw [rj_cnt_zero hn1] at hR
        refine lv_iload hx hb d_Ma_join_108 (lv_at hl 0 rfl) ?_
        refine rv_if_le (tgt := 279) hx hb d_Ma_join_110 (by decide) (by omega) (fun c_110 => ?_) (fun c_110 => absurd c_110 (by omega))
        refine lv_iconst (v := nI 0) hx hb d_Ma_join_279 (by decide) ?_
        subst hQ
        exact W.zret (v := nI 0) hx hb hr (by rfl) (fun t ht hW => ⟨⟨nI 0, (), rfl, by rw [← hR]; rfl, by rw [ht]; rw [← hR]; exact hP, by rw [← hR]; exact hD⟩, hS.F ht⟩) hS.2.2 d_Ma_join_280
      | succ n ih =>
        intro x1 st H locs ls hn1 hcnt hR hP hD hS hl
        have hcl1 := rb_cnt_le x1
        obtain ⟨s1, l1, hl1, hs1, hs32, hr1, hc1⟩ := rj_cnt_pos hn1
        rw [hl1, List.flatMap_cons, ← hr1] at hR
        refine lv_iload hx hb d_Ma_join_108 (lv_at hl 0 rfl) ?_
        refine rv_if_le (tgt := 279) hx hb d_Ma_join_110 (by decide) (by omega) (fun c_110 => absurd c_110 (by omega)) (fun c_110 => ?_)
        refine lv_iload hx hb d_Ma_join_113 (lv_at hl 1 rfl) ?_
        refine rv_calli (r := nI (rb_least x1)) (va_runSN (As := [.int x1]) (rest := []) ⟨hx, hb, hml, hown, hts⟩ (c_Rl_leastOf l x1) ⟨va_cnB 1 hts (rg_G k_Rl_leastOf) rfl rfl rfl (hN _ rn_8) (hts _ (List.mem_cons_of_mem _ m_1)) (by decide +kernel) ⟨by show 1 + 1 ≤ d + 1; omega, by show 8 + (1 + 11) + 64 * 1 ≤ 64 * (d + 1); omega⟩, hts _ (List.mem_cons_of_mem _ m_255), trivial⟩ ⟨fun _ _ _ _ q => q, fun U hU hW => ⟨rfl, trivial⟩⟩ rfl rfl hl.1 rfl (lv_room (Nat.le_of_ble_eq_true rfl)) d_Ma_join_115 ⟨Nat.zero_le _, Nat.zero_le _⟩) hS (fun _ h => h.elim) (fun H locs hk hS => ?_)
        have hP := rv_kept hP hk
        refine rv_eq (y := nI s1) (congrArg nI hs1) ?_
        refine lv_istore (lv' := [(12, .int (nI s1)), (11, .int (nI (n + 1))), (10, .int x1), (0, .ref d0), (1, .int (nI r)), (2, .int (nI k)), (3, .int (rt_i fx)), (4, .long (lN (rt_pk ds))), (6, .int (nI (12 * r + 3 * k))), (8, .int (rt_i kP)), (9, .int (rt_i kO))]) hx hb d_Ma_join_118 hl (by decide) rfl (fun ls hl => ?_)
        refine lv_iload hx hb d_Ma_join_120 (lv_at hl 2 rfl) ?_
        refine rv_calli (r := x1 &&& (x1 - 1)) (va_runSN (As := [.int x1]) (rest := []) ⟨hx, hb, hml, hown, hts⟩ (c_Rl_withoutLeast l x1) ⟨va_cnB 1 hts (rg_G k_Rl_withoutLeast) rfl rfl rfl (hN _ rn_9) (hts _ (List.mem_cons_of_mem _ m_1)) (by decide +kernel) ⟨by show 0 + 1 ≤ d + 1; omega, by show 8 + (1 + 11) + 64 * 0 ≤ 64 * (d + 1); omega⟩, hts _ (List.mem_cons_of_mem _ m_259), trivial⟩ ⟨fun _ _ _ _ q => q, fun U hU hW => ⟨rfl, trivial⟩⟩ rfl rfl hl.1 rfl (lv_room (Nat.le_of_ble_eq_true rfl)) d_Ma_join_122 ⟨Nat.zero_le _, Nat.zero_le _⟩) hS (fun _ h => h.elim) (fun H locs hk hS => ?_)
        have hP := rv_kept hP hk
        generalize hx1g : x1 &&& (x1 - 1) = x1b at hR hc1 ⊢
        refine lv_istore (lv' := [(10, .int x1b), (12, .int (nI s1)), (11, .int (nI (n + 1))), (0, .ref d0), (1, .int (nI r)), (2, .int (nI k)), (3, .int (rt_i fx)), (4, .long (lN (rt_pk ds))), (6, .int (nI (12 * r + 3 * k))), (8, .int (rt_i kP)), (9, .int (rt_i kO))]) hx hb d_Ma_join_125 hl (by decide) rfl (fun ls hl => ?_)
        refine lv_aload_n hx hb d_Ma_join_127 rfl (lv_at hl 3 rfl) ?_
        refine va_get (D := (dC, dI)) (ci := 2) (v := .ref aT) (C := R_De) (T := F_De) (N := 8) hx hb hts (rg_c i_De) hown hK hP 0 rfl rfl 0 (by decide) (hts _ (List.mem_cons_of_mem _ m_60)) (fun _ h9 => h9) rfl d_Ma_join_128 ?_
        refine lv_iload hx hb d_Ma_join_131 (lv_at hl 1 rfl) ?_
        refine lv_iload hx hb d_Ma_join_133 (lv_at hl 9 rfl) ?_
        refine rv_calli (r := rx_ps he.2.2.1 s1 kP) (va_runV (As := [.int (nI s1), .int (rt_i kP)]) (rest := []) ⟨hx, hb, hml, hown, hts⟩ (c_Tr_predicatesFor l dC dI dA aT t1 t2 t3 he.1 he.2.1 he.2.2.1 he.2.2.2 s1 kP (hs32) (hkP)) (cwV 2 hts (rg_V (rg4 m_261 m_262 m_263 m_2) k_Tr_predicatesFor) rfl rfl rfl (by decide +kernel) ⟨by show 1 + 1 ≤ d + 1; omega, by show 8 + (3 + 11) + 64 * 1 ≤ 64 * (d + 1); omega⟩) ⟨fun a U g mk q => ⟨q.1, va_K.moved (u := U) (U := U.calling g mk a) (Vm.Alike.refl U.vm) q.2.1, q.2.2.1, rn_same (u := U) (U := U.calling g mk a) rfl q.2.2.2⟩, va_recv hK hP (ci := 1) (q0 := 2) rfl rfl, fun U hU hW => ⟨rfl, va_K.moved hW.alike hK, by rw [hU]; exact hP.sub (ws' := [(aT, .inr (1, [.ref t1, .ref t2, .ref t3, .int he.2.2.2])), (t1, .inl (dA, 1024, .inl he.1)), (t2, .inl (dA, 32, .inl he.2.1)), (t3, .inl (dA, 32, .inl he.2.2.1))]) [2, 3, 4, 5] rfl, rn_warm hW hN⟩⟩ rfl rfl hl.1 rfl (lv_room (Nat.le_of_ble_eq_true rfl)) d_Ma_join_135 ⟨Nat.zero_le _, Nat.zero_le _⟩) hS (fun _ h => h.elim) (fun H locs hk hS => ?_)
        have hP := rv_kept hP hk
        refine lv_istore (lv' := [(13, .int (rx_ps he.2.2.1 s1 kP)), (10, .int x1b), (12, .int (nI s1)), (11, .int (nI (n + 1))), (0, .ref d0), (1, .int (nI r)), (2, .int (nI k)), (3, .int (rt_i fx)), (4, .long (lN (rt_pk ds))), (6, .int (nI (12 * r + 3 * k))), (8, .int (rt_i kP)), (9, .int (rt_i kO))]) hx hb d_Ma_join_138 hl (by decide) rfl (fun ls hl => ?_)
        refine lv_iload hx hb d_Ma_join_140 (lv_at hl 0 rfl) ?_
        refine rv_calli (r := nI (rb_cnt (rx_ps he.2.2.1 s1 kP))) (va_runS (As := [.int (rx_ps he.2.2.1 s1 kP)]) (rest := []) ⟨hx, hb, hml, hown, hts⟩ (c_Ig_bitCount l (rx_ps he.2.2.1 s1 kP)) (va_cwS 1 hts (rg_S (rg3 m_248 m_249 m_10) k_Ig_bitCount) rfl rfl rfl (by decide +kernel) ⟨by show 0 + 1 ≤ d + 1; omega, by show 8 + (1 + 11) + 64 * 0 ≤ 64 * (d + 1); omega⟩) ⟨fun _ _ _ _ q => q, fun U hU hW => ⟨rfl, trivial⟩⟩ rfl rfl hl.1 rfl (lv_room (Nat.le_of_ble_eq_true rfl)) d_Ma_join_142 ⟨Nat.zero_le _, Nat.zero_le _⟩) hS (fun _ h => h.elim) (fun H locs hk hS => ?_)
        have hP := rv_kept hP hk
        refine lv_istore (lv' := [(14, .int (nI (rb_cnt (rx_ps he.2.2.1 s1 kP)))), (13, .int (rx_ps he.2.2.1 s1 kP)), (10, .int x1b), (12, .int (nI s1)), (11, .int (nI (n + 1))), (0, .ref d0), (1, .int (nI r)), (2, .int (nI k)), (3, .int (rt_i fx)), (4, .long (lN (rt_pk ds))), (6, .int (nI (12 * r + 3 * k))), (8, .int (rt_i kP)), (9, .int (rt_i kO))]) hx hb d_Ma_join_145 hl (by decide) rfl (fun ls hl => ?_)
        have lp2 : ∀ (n2 : Nat) (x2 : Int32) (st : sD) (H : Heap) (locs : List Loc) (ls : Array Slot), rb_cnt x2 = n2 → st.2.2.2.2.1 ≤ 400 → rj_fold (rj_body rd_ch r k ds (rj_join (rx_trav he.1 he.2.1 he.2.2.1 he.2.2.2) (rd_meet now r) rd_ch r fx rem (k + 1))) st ((rb_els x2).flatMap (fun p => (rb_els (rx_os he.1 s1 p kO)).map (fun o => rx_code s1 p o)) ++ (rb_els x1b).flatMap (fun s => (rb_els (rx_ps he.2.2.1 s kP)).flatMap (fun p => (rb_els (rx_os he.1 s p kO)).map (fun o => rx_code s p o)))) = RES → va_P (dC, dI) classes [(d0, .inr (2, [.ref aT, .ref qc, .ref aU, .ref qk, .ref qr, .int (nI now), .int (nI st.2.2.2.2.1), .int (rb_z st.2.2.2.2.2)])), (qc, .inl (dA, 4, .inl st.1)), (aT, .inr (1, [.ref t1, .ref t2, .ref t3, .int he.2.2.2])), (t1, .inl (dA, 1024, .inl he.1)), (t2, .inl (dA, 32, .inl he.2.1)), (t3, .inl (dA, 32, .inl he.2.2.1)), (aU, .inr (1, [.ref u1, .ref u2, .ref u3, .int st.2.1.2.2.2])), (u1, .inl (dA, 1024, .inl st.2.1.1)), (u2, .inl (dA, 32, .inl st.2.1.2.1)), (u3, .inl (dA, 32, .inl st.2.1.2.2.1)), (qk, .inl (dA, 400, .inl st.2.2.1)), (qr, .inl (dA, 400, .inl st.2.2.2.1))] H → va_D A [(d0, .inr (2, [.ref aT, .ref qc, .ref aU, .ref qk, .ref qr, .int (nI now), .int (nI st.2.2.2.2.1), .int (rb_z st.2.2.2.2.2)])), (qc, .inl (dA, 4, .inl st.1)), (aT, .inr (1, [.ref t1, .ref t2, .ref t3, .int he.2.2.2])), (t1, .inl (dA, 1024, .inl he.1)), (t2, .inl (dA, 32, .inl he.2.1)), (t3, .inl (dA, 32, .inl he.2.2.1)), (aU, .inr (1, [.ref u1, .ref u2, .ref u3, .int st.2.1.2.2.2])), (u1, .inl (dA, 1024, .inl st.2.1.1)), (u2, .inl (dA, 32, .inl st.2.1.2.1)), (u3, .inl (dA, 32, .inl st.2.1.2.2.1)), (qk, .inl (dA, 400, .inl st.2.2.1)), (qr, .inl (dA, 400, .inl st.2.2.2.1))] → va_S A s.heap H locs → lv_has ls 21 [(14, .int (nI n2)), (13, .int x2), (11, .int (nI (n + 1))), (10, .int x1b), (12, .int (nI s1)), (0, .ref d0), (1, .int (nI r)), (2, .int (nI k)), (3, .int (rt_i fx)), (4, .long (lN (rt_pk ds))), (6, .int (nI (12 * r + 3 * k))), (8, .int (rt_i kP)), (9, .int (rt_i kO))] → W p l e (headSpec (w_ y_Ma_join b_Ma_join 21 (some .boolean)) (rm_ (d + 1))).room s m ([.ref d0, .int (nI r), .int (nI k), .int (rt_i fx), .long (lN (rt_pk ds))] : List Value).toArray below meth c H locs 0 0 Q (F0 m 147 ls []) := by
          intro n2
          induction n2 with
          | zero =>
            intro x2 st H locs ls hn2 hcnt hR hP hD hS hl
            rw [rj_cnt_zero hn2] at hR
            refine lv_iload hx hb d_Ma_join_147 (lv_at hl 0 rfl) ?_
            refine rv_if_le (tgt := 273) hx hb d_Ma_join_149 (by decide) (by omega) (fun c_149 => ?_) (fun c_149 => absurd c_149 (by omega))
            refine rv_dec (k := 2) (lv' := [(11, .int (nI n)), (14, .int (nI 0)), (13, .int x2), (10, .int x1b), (12, .int (nI s1)), (0, .ref d0), (1, .int (nI r)), (2, .int (nI k)), (3, .int (rt_i fx)), (4, .long (lN (rt_pk ds))), (6, .int (nI (12 * r + 3 * k))), (8, .int (rt_i kP)), (9, .int (rt_i kO))]) hx hb d_Ma_join_273 hl rfl (by decide) rfl (fun ls hl => ?_)
            refine lv_goto (tgt := 108) hx hb d_Ma_join_276 (by decide) ?_
            exact ih x1b st _ _ _ (hc1) (hcnt) (hR) hP hD hS (lv_sub hl [0, 3, 5, 6, 7, 8, 9, 10, 11, 12] rfl)
          | succ n2 ih2 =>
            intro x2 st H locs ls hn2 hcnt hR hP hD hS hl
            have hcl2 := rb_cnt_le x2
            obtain ⟨p1, l2, hl2, hp1, hp32, hr2, hc2⟩ := rj_cnt_pos hn2
            rw [hl2, List.flatMap_cons, ← hr2, List.append_assoc] at hR
            refine lv_iload hx hb d_Ma_join_147 (lv_at hl 0 rfl) ?_
            refine rv_if_le (tgt := 273) hx hb d_Ma_join_149 (by decide) (by omega) (fun c_149 => absurd c_149 (by omega)) (fun c_149 => ?_)
            refine lv_iload hx hb d_Ma_join_152 (lv_at hl 1 rfl) ?_
            refine rv_calli (r := nI (rb_least x2)) (va_runSN (As := [.int x2]) (rest := []) ⟨hx, hb, hml, hown, hts⟩ (c_Rl_leastOf l x2) ⟨va_cnB 1 hts (rg_G k_Rl_leastOf) rfl rfl rfl (hN _ rn_8) (hts _ (List.mem_cons_of_mem _ m_1)) (by decide +kernel) ⟨by show 1 + 1 ≤ d + 1; omega, by show 8 + (1 + 11) + 64 * 1 ≤ 64 * (d + 1); omega⟩, hts _ (List.mem_cons_of_mem _ m_255), trivial⟩ ⟨fun _ _ _ _ q => q, fun U hU hW => ⟨rfl, trivial⟩⟩ rfl rfl hl.1 rfl (lv_room (Nat.le_of_ble_eq_true rfl)) d_Ma_join_154 ⟨Nat.zero_le _, Nat.zero_le _⟩) hS (fun _ h => h.elim) (fun H locs hk hS => ?_)
            have hP := rv_kept hP hk
            refine rv_eq (y := nI p1) (congrArg nI hp1) ?_
            refine lv_istore (lv' := [(15, .int (nI p1)), (14, .int (nI (n2 + 1))), (13, .int x2), (11, .int (nI (n + 1))), (10, .int x1b), (12, .int (nI s1)), (0, .ref d0), (1, .int (nI r)), (2, .int (nI k)), (3, .int (rt_i fx)), (4, .long (lN (rt_pk ds))), (6, .int (nI (12 * r + 3 * k))), (8, .int (rt_i kP)), (9, .int (rt_i kO))]) hx hb d_Ma_join_157 hl (by decide) rfl (fun ls hl => ?_)
            refine lv_iload hx hb d_Ma_join_159 (lv_at hl 2 rfl) ?_
            refine rv_calli (r := x2 &&& (x2 - 1)) (va_runSN (As := [.int x2]) (rest := []) ⟨hx, hb, hml, hown, hts⟩ (c_Rl_withoutLeast l x2) ⟨va_cnB 1 hts (rg_G k_Rl_withoutLeast) rfl rfl rfl (hN _ rn_9) (hts _ (List.mem_cons_of_mem _ m_1)) (by decide +kernel) ⟨by show 0 + 1 ≤ d + 1; omega, by show 8 + (1 + 11) + 64 * 0 ≤ 64 * (d + 1); omega⟩, hts _ (List.mem_cons_of_mem _ m_259), trivial⟩ ⟨fun _ _ _ _ q => q, fun U hU hW => ⟨rfl, trivial⟩⟩ rfl rfl hl.1 rfl (lv_room (Nat.le_of_ble_eq_true rfl)) d_Ma_join_161 ⟨Nat.zero_le _, Nat.zero_le _⟩) hS (fun _ h => h.elim) (fun H locs hk hS => ?_)
            have hP := rv_kept hP hk
            generalize hx2g : x2 &&& (x2 - 1) = x2b at hR hc2 ⊢
            refine lv_istore (lv' := [(13, .int x2b), (15, .int (nI p1)), (14, .int (nI (n2 + 1))), (11, .int (nI (n + 1))), (10, .int x1b), (12, .int (nI s1)), (0, .ref d0), (1, .int (nI r)), (2, .int (nI k)), (3, .int (rt_i fx)), (4, .long (lN (rt_pk ds))), (6, .int (nI (12 * r + 3 * k))), (8, .int (rt_i kP)), (9, .int (rt_i kO))]) hx hb d_Ma_join_164 hl (by decide) rfl (fun ls hl => ?_)
            refine lv_aload_n hx hb d_Ma_join_166 rfl (lv_at hl 6 rfl) ?_
            refine va_get (D := (dC, dI)) (ci := 2) (v := .ref aT) (C := R_De) (T := F_De) (N := 8) hx hb hts (rg_c i_De) hown hK hP 0 rfl rfl 0 (by decide) (hts _ (List.mem_cons_of_mem _ m_60)) (fun _ h9 => h9) rfl d_Ma_join_167 ?_
            refine lv_iload hx hb d_Ma_join_170 (lv_at hl 5 rfl) ?_
            refine lv_iload hx hb d_Ma_join_172 (lv_at hl 1 rfl) ?_
            refine lv_iload hx hb d_Ma_join_174 (lv_at hl 13 rfl) ?_
            refine rv_calli (r := rx_os he.1 s1 p1 kO) (va_runV (As := [.int (nI s1), .int (nI p1), .int (rt_i kO)]) (rest := []) ⟨hx, hb, hml, hown, hts⟩ (c_Tr_objectsFor l dC dI dA aT t1 t2 t3 he.1 he.2.1 he.2.2.1 he.2.2.2 s1 p1 kO (hs32) (hp32) (hkO)) (cwV 3 hts (rg_V (rg4 m_265 m_266 m_267 m_2) k_Tr_objectsFor) rfl rfl rfl (by decide +kernel) ⟨by show 1 + 1 ≤ d + 1; omega, by show 8 + (5 + 11) + 64 * 1 ≤ 64 * (d + 1); omega⟩) ⟨fun a U g mk q => ⟨q.1, va_K.moved (u := U) (U := U.calling g mk a) (Vm.Alike.refl U.vm) q.2.1, q.2.2.1, rn_same (u := U) (U := U.calling g mk a) rfl q.2.2.2⟩, va_recv hK hP (ci := 1) (q0 := 2) rfl rfl, fun U hU hW => ⟨rfl, va_K.moved hW.alike hK, by rw [hU]; exact hP.sub (ws' := [(aT, .inr (1, [.ref t1, .ref t2, .ref t3, .int he.2.2.2])), (t1, .inl (dA, 1024, .inl he.1)), (t2, .inl (dA, 32, .inl he.2.1)), (t3, .inl (dA, 32, .inl he.2.2.1))]) [2, 3, 4, 5] rfl, rn_warm hW hN⟩⟩ rfl rfl hl.1 rfl (lv_room (Nat.le_of_ble_eq_true rfl)) d_Ma_join_176 ⟨Nat.zero_le _, Nat.zero_le _⟩) hS (fun _ h => h.elim) (fun H locs hk hS => ?_)
            have hP := rv_kept hP hk
            refine lv_istore (lv' := [(16, .int (rx_os he.1 s1 p1 kO)), (13, .int x2b), (15, .int (nI p1)), (14, .int (nI (n2 + 1))), (11, .int (nI (n + 1))), (10, .int x1b), (12, .int (nI s1)), (0, .ref d0), (1, .int (nI r)), (2, .int (nI k)), (3, .int (rt_i fx)), (4, .long (lN (rt_pk ds))), (6, .int (nI (12 * r + 3 * k))), (8, .int (rt_i kP)), (9, .int (rt_i kO))]) hx hb d_Ma_join_179 hl (by decide) rfl (fun ls hl => ?_)
            refine lv_iload hx hb d_Ma_join_181 (lv_at hl 0 rfl) ?_
            refine rv_calli (r := nI (rb_cnt (rx_os he.1 s1 p1 kO))) (va_runS (As := [.int (rx_os he.1 s1 p1 kO)]) (rest := []) ⟨hx, hb, hml, hown, hts⟩ (c_Ig_bitCount l (rx_os he.1 s1 p1 kO)) (va_cwS 1 hts (rg_S (rg3 m_248 m_249 m_10) k_Ig_bitCount) rfl rfl rfl (by decide +kernel) ⟨by show 0 + 1 ≤ d + 1; omega, by show 8 + (1 + 11) + 64 * 0 ≤ 64 * (d + 1); omega⟩) ⟨fun _ _ _ _ q => q, fun U hU hW => ⟨rfl, trivial⟩⟩ rfl rfl hl.1 rfl (lv_room (Nat.le_of_ble_eq_true rfl)) d_Ma_join_183 ⟨Nat.zero_le _, Nat.zero_le _⟩) hS (fun _ h => h.elim) (fun H locs hk hS => ?_)
            have hP := rv_kept hP hk
            refine lv_istore (lv' := [(17, .int (nI (rb_cnt (rx_os he.1 s1 p1 kO)))), (16, .int (rx_os he.1 s1 p1 kO)), (13, .int x2b), (15, .int (nI p1)), (14, .int (nI (n2 + 1))), (11, .int (nI (n + 1))), (10, .int x1b), (12, .int (nI s1)), (0, .ref d0), (1, .int (nI r)), (2, .int (nI k)), (3, .int (rt_i fx)), (4, .long (lN (rt_pk ds))), (6, .int (nI (12 * r + 3 * k))), (8, .int (rt_i kP)), (9, .int (rt_i kO))]) hx hb d_Ma_join_186 hl (by decide) rfl (fun ls hl => ?_)
            have lp3 : ∀ (n3 : Nat) (x3 : Int32) (st : sD) (H : Heap) (locs : List Loc) (ls : Array Slot), rb_cnt x3 = n3 → st.2.2.2.2.1 ≤ 400 → rj_fold (rj_body rd_ch r k ds (rj_join (rx_trav he.1 he.2.1 he.2.2.1 he.2.2.2) (rd_meet now r) rd_ch r fx rem (k + 1))) st ((rb_els x3).map (fun o => rx_code s1 p1 o) ++ ((rb_els x2b).flatMap (fun p => (rb_els (rx_os he.1 s1 p kO)).map (fun o => rx_code s1 p o)) ++ (rb_els x1b).flatMap (fun s => (rb_els (rx_ps he.2.2.1 s kP)).flatMap (fun p => (rb_els (rx_os he.1 s p kO)).map (fun o => rx_code s p o))))) = RES → va_P (dC, dI) classes [(d0, .inr (2, [.ref aT, .ref qc, .ref aU, .ref qk, .ref qr, .int (nI now), .int (nI st.2.2.2.2.1), .int (rb_z st.2.2.2.2.2)])), (qc, .inl (dA, 4, .inl st.1)), (aT, .inr (1, [.ref t1, .ref t2, .ref t3, .int he.2.2.2])), (t1, .inl (dA, 1024, .inl he.1)), (t2, .inl (dA, 32, .inl he.2.1)), (t3, .inl (dA, 32, .inl he.2.2.1)), (aU, .inr (1, [.ref u1, .ref u2, .ref u3, .int st.2.1.2.2.2])), (u1, .inl (dA, 1024, .inl st.2.1.1)), (u2, .inl (dA, 32, .inl st.2.1.2.1)), (u3, .inl (dA, 32, .inl st.2.1.2.2.1)), (qk, .inl (dA, 400, .inl st.2.2.1)), (qr, .inl (dA, 400, .inl st.2.2.2.1))] H → va_D A [(d0, .inr (2, [.ref aT, .ref qc, .ref aU, .ref qk, .ref qr, .int (nI now), .int (nI st.2.2.2.2.1), .int (rb_z st.2.2.2.2.2)])), (qc, .inl (dA, 4, .inl st.1)), (aT, .inr (1, [.ref t1, .ref t2, .ref t3, .int he.2.2.2])), (t1, .inl (dA, 1024, .inl he.1)), (t2, .inl (dA, 32, .inl he.2.1)), (t3, .inl (dA, 32, .inl he.2.2.1)), (aU, .inr (1, [.ref u1, .ref u2, .ref u3, .int st.2.1.2.2.2])), (u1, .inl (dA, 1024, .inl st.2.1.1)), (u2, .inl (dA, 32, .inl st.2.1.2.1)), (u3, .inl (dA, 32, .inl st.2.1.2.2.1)), (qk, .inl (dA, 400, .inl st.2.2.1)), (qr, .inl (dA, 400, .inl st.2.2.2.1))] → va_S A s.heap H locs → lv_has ls 21 [(17, .int (nI n3)), (16, .int x3), (14, .int (nI (n2 + 1))), (13, .int x2b), (11, .int (nI (n + 1))), (10, .int x1b), (12, .int (nI s1)), (15, .int (nI p1)), (0, .ref d0), (1, .int (nI r)), (2, .int (nI k)), (3, .int (rt_i fx)), (4, .long (lN (rt_pk ds))), (6, .int (nI (12 * r + 3 * k))), (8, .int (rt_i kP)), (9, .int (rt_i kO))] → W p l e (headSpec (w_ y_Ma_join b_Ma_join 21 (some .boolean)) (rm_ (d + 1))).room s m ([.ref d0, .int (nI r), .int (nI k), .int (rt_i fx), .long (lN (rt_pk ds))] : List Value).toArray below meth c H locs 0 0 Q (F0 m 188 ls []) := by
              intro n3
              induction n3 with
              | zero =>
                intro x3 st H locs ls hn3 hcnt hR hP hD hS hl
                rw [rj_cnt_zero hn3] at hR
                refine lv_iload hx hb d_Ma_join_188 (lv_at hl 0 rfl) ?_
                refine rv_if_le (tgt := 267) hx hb d_Ma_join_190 (by decide) (by omega) (fun c_190 => ?_) (fun c_190 => absurd c_190 (by omega))
                refine rv_dec (k := 2) (lv' := [(14, .int (nI n2)), (17, .int (nI 0)), (16, .int x3), (13, .int x2b), (11, .int (nI (n + 1))), (10, .int x1b), (12, .int (nI s1)), (15, .int (nI p1)), (0, .ref d0), (1, .int (nI r)), (2, .int (nI k)), (3, .int (rt_i fx)), (4, .long (lN (rt_pk ds))), (6, .int (nI (12 * r + 3 * k))), (8, .int (rt_i kP)), (9, .int (rt_i kO))]) hx hb d_Ma_join_267 hl rfl (by decide) rfl (fun ls hl => ?_)
                refine lv_goto (tgt := 147) hx hb d_Ma_join_270 (by decide) ?_
                exact ih2 x2b st _ _ _ (hc2) (hcnt) (hR) hP hD hS (lv_sub hl [0, 3, 4, 5, 6, 8, 9, 10, 11, 12, 13, 14, 15] rfl)
              | succ n3 ih3 =>
                intro x3 st H locs ls hn3 hcnt hR hP hD hS hl
                have hcl3 := rb_cnt_le x3
                obtain ⟨o1, l3, hl3, ho1, ho32, hr3, hc3⟩ := rj_cnt_pos hn3
                rw [hl3, List.map_cons, ← hr3, List.cons_append] at hR
                have hcc := rx_code_lt hs32 hp32 ho32
                refine lv_iload hx hb d_Ma_join_188 (lv_at hl 0 rfl) ?_
                refine rv_if_le (tgt := 267) hx hb d_Ma_join_190 (by decide) (by omega) (fun c_190 => absurd c_190 (by omega)) (fun c_190 => ?_)
                refine lv_iload hx hb d_Ma_join_193 (lv_at hl 6 rfl) ?_
                refine lv_iload hx hb d_Ma_join_195 (lv_at hl 7 rfl) ?_
                refine lv_iload hx hb d_Ma_join_197 (lv_at hl 1 rfl) ?_
                refine rv_calli (r := nI (rb_least x3)) (va_runSN (As := [.int x3]) (rest := [.int (nI p1), .int (nI s1)]) ⟨hx, hb, hml, hown, hts⟩ (c_Rl_leastOf l x3) ⟨va_cnB 1 hts (rg_G k_Rl_leastOf) rfl rfl rfl (hN _ rn_8) (hts _ (List.mem_cons_of_mem _ m_1)) (by decide +kernel) ⟨by show 1 + 1 ≤ d + 1; omega, by show 8 + (1 + 11) + 64 * 1 ≤ 64 * (d + 1); omega⟩, hts _ (List.mem_cons_of_mem _ m_255), trivial⟩ ⟨fun _ _ _ _ q => q, fun U hU hW => ⟨rfl, trivial⟩⟩ rfl rfl hl.1 rfl (lv_room (Nat.le_of_ble_eq_true rfl)) d_Ma_join_199 ⟨Nat.zero_le _, Nat.zero_le _⟩) hS (fun _ h => h.elim) (fun H locs hk hS => ?_)
                have hP := rv_kept hP hk
                refine rv_eq (y := nI o1) (congrArg nI ho1) ?_
                refine rv_calli (r := nI (rx_code s1 p1 o1)) (va_runSN (As := [.int (nI s1), .int (nI p1), .int (nI o1)]) (rest := []) ⟨hx, hb, hml, hown, hts⟩ (c_Rl_codeOf l s1 p1 o1) ⟨va_cnB 3 hts (rg_G k_Rl_codeOf) rfl rfl rfl (hN _ rn_10) (hts _ (List.mem_cons_of_mem _ m_1)) (by decide +kernel) ⟨by show 0 + 1 ≤ d + 1; omega, by show 8 + (3 + 11) + 64 * 0 ≤ 64 * (d + 1); omega⟩, hts _ (List.mem_cons_of_mem _ m_135), trivial⟩ ⟨fun _ _ _ _ q => q, fun U hU hW => ⟨rfl, trivial⟩⟩ rfl rfl hl.1 rfl (lv_room (Nat.le_of_ble_eq_true rfl)) d_Ma_join_202 ⟨Nat.zero_le _, Nat.zero_le _⟩) hS (fun _ h => h.elim) (fun H locs hk hS => ?_)
                have hP := rv_kept hP hk
                refine lv_istore (lv' := [(18, .int (nI (rx_code s1 p1 o1))), (17, .int (nI (n3 + 1))), (16, .int x3), (14, .int (nI (n2 + 1))), (13, .int x2b), (11, .int (nI (n + 1))), (10, .int x1b), (12, .int (nI s1)), (15, .int (nI p1)), (0, .ref d0), (1, .int (nI r)), (2, .int (nI k)), (3, .int (rt_i fx)), (4, .long (lN (rt_pk ds))), (6, .int (nI (12 * r + 3 * k))), (8, .int (rt_i kP)), (9, .int (rt_i kO))]) hx hb d_Ma_join_205 hl (by decide) rfl (fun ls hl => ?_)
                refine lv_iload hx hb d_Ma_join_207 (lv_at hl 2 rfl) ?_
                refine rv_calli (r := x3 &&& (x3 - 1)) (va_runSN (As := [.int x3]) (rest := []) ⟨hx, hb, hml, hown, hts⟩ (c_Rl_withoutLeast l x3) ⟨va_cnB 1 hts (rg_G k_Rl_withoutLeast) rfl rfl rfl (hN _ rn_9) (hts _ (List.mem_cons_of_mem _ m_1)) (by decide +kernel) ⟨by show 0 + 1 ≤ d + 1; omega, by show 8 + (1 + 11) + 64 * 0 ≤ 64 * (d + 1); omega⟩, hts _ (List.mem_cons_of_mem _ m_259), trivial⟩ ⟨fun _ _ _ _ q => q, fun U hU hW => ⟨rfl, trivial⟩⟩ rfl rfl hl.1 rfl (lv_room (Nat.le_of_ble_eq_true rfl)) d_Ma_join_209 ⟨Nat.zero_le _, Nat.zero_le _⟩) hS (fun _ h => h.elim) (fun H locs hk hS => ?_)
                have hP := rv_kept hP hk
                generalize hx3g : x3 &&& (x3 - 1) = x3b at hR hc3 ⊢
                refine lv_istore (lv' := [(16, .int x3b), (18, .int (nI (rx_code s1 p1 o1))), (17, .int (nI (n3 + 1))), (14, .int (nI (n2 + 1))), (13, .int x2b), (11, .int (nI (n + 1))), (10, .int x1b), (12, .int (nI s1)), (15, .int (nI p1)), (0, .ref d0), (1, .int (nI r)), (2, .int (nI k)), (3, .int (rt_i fx)), (4, .long (lN (rt_pk ds))), (6, .int (nI (12 * r + 3 * k))), (8, .int (rt_i kP)), (9, .int (rt_i kO))]) hx hb d_Ma_join_212 hl (by decide) rfl (fun ls hl => ?_)
                refine lv_aload_n hx hb d_Ma_join_214 rfl (lv_at hl 9 rfl) ?_
                refine va_get (D := (dC, dI)) (ci := 2) (v := .ref qc) (C := R_De) (T := F_De) (N := 8) hx hb hts (rg_c i_De) hown hK hP 0 rfl rfl 1 (by decide) (hts _ (List.mem_cons_of_mem _ m_63)) (fun _ h9 => h9) rfl d_Ma_join_215 ?_
                refine lv_iload_n hx hb d_Ma_join_218 rfl (lv_at hl 11 rfl) ?_
                refine lv_iload hx hb d_Ma_join_219 (lv_at hl 1 rfl) ?_
                refine rv_ast (k := k) (x := nI (rx_code s1 p1 o1)) hx hb hK hP hD hS 1 0 rfl rfl (by omega) (by decide) d_Ma_join_221 (fun H locs hP hD hS => ?_)
                have hP : va_P (dC, dI) classes [(d0, .inr (2, [.ref aT, .ref qc, .ref aU, .ref qk, .ref qr, .int (nI now), .int (nI st.2.2.2.2.1), .int (rb_z st.2.2.2.2.2)])), (qc, .inl (dA, 4, .inl (upd st.1 k (nI (rx_code s1 p1 o1))))), (aT, .inr (1, [.ref t1, .ref t2, .ref t3, .int he.2.2.2])), (t1, .inl (dA, 1024, .inl he.1)), (t2, .inl (dA, 32, .inl he.2.1)), (t3, .inl (dA, 32, .inl he.2.2.1)), (aU, .inr (1, [.ref u1, .ref u2, .ref u3, .int st.2.1.2.2.2])), (u1, .inl (dA, 1024, .inl st.2.1.1)), (u2, .inl (dA, 32, .inl st.2.1.2.1)), (u3, .inl (dA, 32, .inl st.2.1.2.2.1)), (qk, .inl (dA, 400, .inl st.2.2.1)), (qr, .inl (dA, 400, .inl st.2.2.2.1))] H := hP
                have hD : va_D A [(d0, .inr (2, [.ref aT, .ref qc, .ref aU, .ref qk, .ref qr, .int (nI now), .int (nI st.2.2.2.2.1), .int (rb_z st.2.2.2.2.2)])), (qc, .inl (dA, 4, .inl (upd st.1 k (nI (rx_code s1 p1 o1))))), (aT, .inr (1, [.ref t1, .ref t2, .ref t3, .int he.2.2.2])), (t1, .inl (dA, 1024, .inl he.1)), (t2, .inl (dA, 32, .inl he.2.1)), (t3, .inl (dA, 32, .inl he.2.2.1)), (aU, .inr (1, [.ref u1, .ref u2, .ref u3, .int st.2.1.2.2.2])), (u1, .inl (dA, 1024, .inl st.2.1.1)), (u2, .inl (dA, 32, .inl st.2.1.2.1)), (u3, .inl (dA, 32, .inl st.2.1.2.2.1)), (qk, .inl (dA, 400, .inl st.2.2.1)), (qr, .inl (dA, 400, .inl st.2.2.2.1))] := hD
                have hP : va_P (dC, dI) classes [(d0, .inr (2, [.ref aT, .ref qc, .ref aU, .ref qk, .ref qr, .int (nI now), .int (nI (rd_ch k (rx_code s1 p1 o1) st).2.2.2.2.1), .int (rb_z (rd_ch k (rx_code s1 p1 o1) st).2.2.2.2.2)])), (qc, .inl (dA, 4, .inl (rd_ch k (rx_code s1 p1 o1) st).1)), (aT, .inr (1, [.ref t1, .ref t2, .ref t3, .int he.2.2.2])), (t1, .inl (dA, 1024, .inl he.1)), (t2, .inl (dA, 32, .inl he.2.1)), (t3, .inl (dA, 32, .inl he.2.2.1)), (aU, .inr (1, [.ref u1, .ref u2, .ref u3, .int ((rd_ch k (rx_code s1 p1 o1) st).2.1.2.2.2)])), (u1, .inl (dA, 1024, .inl ((rd_ch k (rx_code s1 p1 o1) st).2.1.1))), (u2, .inl (dA, 32, .inl ((rd_ch k (rx_code s1 p1 o1) st).2.1.2.1))), (u3, .inl (dA, 32, .inl ((rd_ch k (rx_code s1 p1 o1) st).2.1.2.2.1))), (qk, .inl (dA, 400, .inl (rd_ch k (rx_code s1 p1 o1) st).2.2.1)), (qr, .inl (dA, 400, .inl (rd_ch k (rx_code s1 p1 o1) st).2.2.2.1))] H := hP
                have hD : va_D A [(d0, .inr (2, [.ref aT, .ref qc, .ref aU, .ref qk, .ref qr, .int (nI now), .int (nI (rd_ch k (rx_code s1 p1 o1) st).2.2.2.2.1), .int (rb_z (rd_ch k (rx_code s1 p1 o1) st).2.2.2.2.2)])), (qc, .inl (dA, 4, .inl (rd_ch k (rx_code s1 p1 o1) st).1)), (aT, .inr (1, [.ref t1, .ref t2, .ref t3, .int he.2.2.2])), (t1, .inl (dA, 1024, .inl he.1)), (t2, .inl (dA, 32, .inl he.2.1)), (t3, .inl (dA, 32, .inl he.2.2.1)), (aU, .inr (1, [.ref u1, .ref u2, .ref u3, .int ((rd_ch k (rx_code s1 p1 o1) st).2.1.2.2.2)])), (u1, .inl (dA, 1024, .inl ((rd_ch k (rx_code s1 p1 o1) st).2.1.1))), (u2, .inl (dA, 32, .inl ((rd_ch k (rx_code s1 p1 o1) st).2.1.2.1))), (u3, .inl (dA, 32, .inl ((rd_ch k (rx_code s1 p1 o1) st).2.1.2.2.1))), (qk, .inl (dA, 400, .inl (rd_ch k (rx_code s1 p1 o1) st).2.2.1)), (qr, .inl (dA, 400, .inl (rd_ch k (rx_code s1 p1 o1) st).2.2.2.1))] := hD
                refine va_gets hx hb hZ.1.1 hS hown (hts _ (List.mem_cons_of_mem _ m_245)) (fun _ h9 => h9) d_Ma_join_222 ?_
                refine lv_iload hx hb d_Ma_join_225 (lv_at hl 14 rfl) ?_
                refine lv_iload hx hb d_Ma_join_227 (lv_at hl 1 rfl) ?_
                refine lv_lload hx hb d_Ma_join_229 (lv_at hl 13 rfl) ?_
                refine rv_calll (r := rt_l (rt_fit (rq_prem.getD (12 * r + 3 * k) 0) (rq_prem.getD ((12 * r + 3 * k) + 1) 0) (rq_prem.getD ((12 * r + 3 * k) + 2) 0) (rx_code s1 p1 o1) ds)) (va_runS (As := [.ref tP, .int (nI (12 * r + 3 * k)), .int (nI (rx_code s1 p1 o1)), .long (lN (rt_pk ds))]) (rest := []) ⟨hx, hb, hml, hown, hts⟩ (c_Le_fit l tP 288 (12 * r + 3 * k) (rx_code s1 p1 o1) rq_prem ds (by decide) (by omega) (rq_prem_lt _) (rq_prem_lt _) (rq_prem_lt _) (hcc) (hd)) (va_cwS 4 hts (rg_S (rg3 m_270 m_209 m_9) k_Le_fit) rfl rfl rfl (by decide +kernel) ⟨by show 2 + 1 ≤ d + 1; omega, by show 8 + (7 + 11) + 64 * 2 ≤ 64 * (d + 1); omega⟩) ⟨fun a U g mk q => ⟨q.1, q.2.moved (Vm.Alike.refl U.vm)⟩, fun U hU hW => ⟨rfl, rv_T hZ.1.2 hS hU hW (fun _ h => h.elim)⟩⟩ rfl rfl hl.1 rfl (lv_room (Nat.le_of_ble_eq_true rfl)) d_Ma_join_231 ⟨Nat.zero_le _, Nat.zero_le _⟩) hS (fun _ h => h.elim) (fun H locs hk hS => ?_)
                have hP := rv_kept hP hk
                rcases hq : rt_fit (rq_prem.getD (12 * r + 3 * k) 0) (rq_prem.getD (12 * r + 3 * k + 1) 0) (rq_prem.getD (12 * r + 3 * k + 2) 0) (rx_code s1 p1 o1) ds with _ | ds2
                · refine rv_eql (y := (-1)) (rfl) ?_
                  have hFq : (rj_body rd_ch r k ds (rj_join (rx_trav he.1 he.2.1 he.2.2.1 he.2.2.2) (rd_meet now r) rd_ch r fx rem (k + 1))) st (rx_code s1 p1 o1) = (rd_ch k (rx_code s1 p1 o1) st, false) := by unfold rj_body; rw [hq]
                  refine lv_lstore (lv' := [(19, .long (-1)), (16, .int x3b), (18, .int (nI (rx_code s1 p1 o1))), (17, .int (nI (n3 + 1))), (14, .int (nI (n2 + 1))), (13, .int x2b), (11, .int (nI (n + 1))), (10, .int x1b), (12, .int (nI s1)), (15, .int (nI p1)), (0, .ref d0), (1, .int (nI r)), (2, .int (nI k)), (3, .int (rt_i fx)), (4, .long (lN (rt_pk ds))), (6, .int (nI (12 * r + 3 * k))), (8, .int (rt_i kP)), (9, .int (rt_i kO))]) hx hb d_Ma_join_234 hl (by decide) rfl (fun ls hl => ?_)
                  refine lv_lload hx hb d_Ma_join_236 (lv_at hl 0 rfl) ?_
                  refine lv_ldc2 (v := (-1)) hx hb hown (hts _ (List.mem_cons_of_mem _ m_271)) d_Ma_join_238 ?_
                  refine W.lcmp hx hb d_Ma_join_241 ?_
                  refine rv_eq (y := nI 0) (rt_cmp0 _) ?_
                  refine rv_if_eq (tgt := 261) hx hb d_Ma_join_242 (by decide) (by omega) (fun c_242 => ?_) (fun c_242 => absurd c_242 (by omega))
                  refine rv_dec (k := 3) (lv' := [(17, .int (nI n3)), (19, .long (-1)), (16, .int x3b), (18, .int (nI (rx_code s1 p1 o1))), (14, .int (nI (n2 + 1))), (13, .int x2b), (11, .int (nI (n + 1))), (10, .int x1b), (12, .int (nI s1)), (15, .int (nI p1)), (0, .ref d0), (1, .int (nI r)), (2, .int (nI k)), (3, .int (rt_i fx)), (4, .long (lN (rt_pk ds))), (6, .int (nI (12 * r + 3 * k))), (8, .int (rt_i kP)), (9, .int (rt_i kO))]) hx hb d_Ma_join_261 hl rfl (by decide) rfl (fun ls hl => ?_)
                  refine lv_goto (tgt := 188) hx hb d_Ma_join_264 (by decide) ?_
                  have hR2 := rj_fold_go hR (by rw [hFq])
                  rw [hFq] at hR2
                  exact ih3 x3b (rd_ch k (rx_code s1 p1 o1) st) _ _ _ (hc3) (hcnt) (hR2) hP hD hS (lv_sub hl [0, 2, 4, 5, 6, 7, 8, 9, 10, 11, 12, 13, 14, 15, 16, 17] rfl)
                · have hd2 := rt_fit_ok hd hcc hq
                  refine rv_eql (y := lN (rt_pk ds2)) (rfl) ?_
                  have hcn2 : (rd_ch k (rx_code s1 p1 o1) st).2.2.2.2.1 ≤ 400 := hcnt
                  have hFq : (rj_body rd_ch r k ds (rj_join (rx_trav he.1 he.2.1 he.2.2.1 he.2.2.2) (rd_meet now r) rd_ch r fx rem (k + 1))) st (rx_code s1 p1 o1) = rj_join (rx_trav he.1 he.2.1 he.2.2.1 he.2.2.2) (rd_meet now r) rd_ch r fx rem (k + 1) ds2 (rd_ch k (rx_code s1 p1 o1) st) := by unfold rj_body; rw [hq]
                  refine lv_lstore (lv' := [(19, .long (lN (rt_pk ds2))), (16, .int x3b), (18, .int (nI (rx_code s1 p1 o1))), (17, .int (nI (n3 + 1))), (14, .int (nI (n2 + 1))), (13, .int x2b), (11, .int (nI (n + 1))), (10, .int x1b), (12, .int (nI s1)), (15, .int (nI p1)), (0, .ref d0), (1, .int (nI r)), (2, .int (nI k)), (3, .int (rt_i fx)), (4, .long (lN (rt_pk ds))), (6, .int (nI (12 * r + 3 * k))), (8, .int (rt_i kP)), (9, .int (rt_i kO))]) hx hb d_Ma_join_234 hl (by decide) rfl (fun ls hl => ?_)
                  refine lv_lload hx hb d_Ma_join_236 (lv_at hl 0 rfl) ?_
                  refine lv_ldc2 (v := (-1)) hx hb hown (hts _ (List.mem_cons_of_mem _ m_271)) d_Ma_join_238 ?_
                  refine W.lcmp hx hb d_Ma_join_241 ?_
                  refine lv_if_eq (tgt := 261) hx hb d_Ma_join_242 (by decide) (fun c_242 => absurd c_242 (rt_cmp_ne hd2)) (fun c_242 => ?_)
                  refine lv_aload_n hx hb d_Ma_join_245 rfl (lv_at hl 10 rfl) ?_
                  refine lv_iload_n hx hb d_Ma_join_246 rfl (lv_at hl 11 rfl) ?_
                  refine lv_iload_n hx hb d_Ma_join_247 rfl (lv_at hl 12 rfl) ?_
                  refine lv_iconst (v := nI 1) hx hb d_Ma_join_248 (by decide) ?_
                  refine rv_iadd hx hb d_Ma_join_249 ?_
                  refine lv_iload_n hx hb d_Ma_join_250 rfl (lv_at hl 13 rfl) ?_
                  refine lv_lload hx hb d_Ma_join_251 (lv_at hl 0 rfl) ?_
                  have hPc := hP.sub (ws' := [(d0, .inr (2, [.ref aT, .ref qc, .ref aU, .ref qk, .ref qr, .int (nI now), .int (nI (rd_ch k (rx_code s1 p1 o1) st).2.2.2.2.1), .int (rb_z (rd_ch k (rx_code s1 p1 o1) st).2.2.2.2.2)])), (qc, .inl (dA, 4, .inl (rd_ch k (rx_code s1 p1 o1) st).1)), (aT, .inr (1, [.ref t1, .ref t2, .ref t3, .int he.2.2.2])), (t1, .inl (dA, 1024, .inl he.1)), (t2, .inl (dA, 32, .inl he.2.1)), (t3, .inl (dA, 32, .inl he.2.2.1)), (aU, .inr (1, [.ref u1, .ref u2, .ref u3, .int ((rd_ch k (rx_code s1 p1 o1) st).2.1.2.2.2)])), (u1, .inl (dA, 1024, .inl ((rd_ch k (rx_code s1 p1 o1) st).2.1.1))), (u2, .inl (dA, 32, .inl ((rd_ch k (rx_code s1 p1 o1) st).2.1.2.1))), (u3, .inl (dA, 32, .inl ((rd_ch k (rx_code s1 p1 o1) st).2.1.2.2.1))), (qk, .inl (dA, 400, .inl (rd_ch k (rx_code s1 p1 o1) st).2.2.1)), (qr, .inl (dA, 400, .inl (rd_ch k (rx_code s1 p1 o1) st).2.2.2.1))]) [0, 1, 2, 3, 4, 5, 6, 7, 8, 9, 10, 11] rfl
                  have hDc := hD.sub (ws' := [(d0, .inr (2, [.ref aT, .ref qc, .ref aU, .ref qk, .ref qr, .int (nI now), .int (nI (rd_ch k (rx_code s1 p1 o1) st).2.2.2.2.1), .int (rb_z (rd_ch k (rx_code s1 p1 o1) st).2.2.2.2.2)])), (qc, .inl (dA, 4, .inl (rd_ch k (rx_code s1 p1 o1) st).1)), (aT, .inr (1, [.ref t1, .ref t2, .ref t3, .int he.2.2.2])), (t1, .inl (dA, 1024, .inl he.1)), (t2, .inl (dA, 32, .inl he.2.1)), (t3, .inl (dA, 32, .inl he.2.2.1)), (aU, .inr (1, [.ref u1, .ref u2, .ref u3, .int ((rd_ch k (rx_code s1 p1 o1) st).2.1.2.2.2)])), (u1, .inl (dA, 1024, .inl ((rd_ch k (rx_code s1 p1 o1) st).2.1.1))), (u2, .inl (dA, 32, .inl ((rd_ch k (rx_code s1 p1 o1) st).2.1.2.1))), (u3, .inl (dA, 32, .inl ((rd_ch k (rx_code s1 p1 o1) st).2.1.2.2.1))), (qk, .inl (dA, 400, .inl (rd_ch k (rx_code s1 p1 o1) st).2.2.1)), (qr, .inl (dA, 400, .inl (rd_ch k (rx_code s1 p1 o1) st).2.2.2.1))]) [0, 1, 2, 3, 4, 5, 6, 7, 8, 9, 10, 11] (by decide) rfl
                  have hFc := va_free (wc := [(d0, .inr (2, [.ref aT, .ref qc, .ref aU, .ref qk, .ref qr, .int (nI now), .int (nI (rd_ch k (rx_code s1 p1 o1) st).2.2.2.2.1), .int (rb_z (rd_ch k (rx_code s1 p1 o1) st).2.2.2.2.2)])), (qc, .inl (dA, 4, .inl (rd_ch k (rx_code s1 p1 o1) st).1)), (aT, .inr (1, [.ref t1, .ref t2, .ref t3, .int he.2.2.2])), (t1, .inl (dA, 1024, .inl he.1)), (t2, .inl (dA, 32, .inl he.2.1)), (t3, .inl (dA, 32, .inl he.2.2.1)), (aU, .inr (1, [.ref u1, .ref u2, .ref u3, .int ((rd_ch k (rx_code s1 p1 o1) st).2.1.2.2.2)])), (u1, .inl (dA, 1024, .inl ((rd_ch k (rx_code s1 p1 o1) st).2.1.1))), (u2, .inl (dA, 32, .inl ((rd_ch k (rx_code s1 p1 o1) st).2.1.2.1))), (u3, .inl (dA, 32, .inl ((rd_ch k (rx_code s1 p1 o1) st).2.1.2.2.1))), (qk, .inl (dA, 400, .inl (rd_ch k (rx_code s1 p1 o1) st).2.2.1)), (qr, .inl (dA, 400, .inl (rd_ch k (rx_code s1 p1 o1) st).2.2.2.1))]) hD hS hA [0, 1, 2, 3, 4, 5, 6, 7, 8, 9, 10, 11] rfl
                  refine va_calli (va_runS (As := [.ref d0, .int (nI r), .int (nI (k + 1)), .int (rt_i fx), .long (lN (rt_pk ds2))]) (rest := []) ⟨hx, hb, hml, hown, hts⟩ (IH dC dI dA tP tG tC d0 qc aT t1 t2 t3 aU u1 u2 u3 qk qr he now r (k + 1) fx ds2 (rd_ch k (rx_code s1 p1 o1) st) H.size hr0 hfx hd2 hcn2 (rj_cov_step hd hcc hcov hq) (by omega)) (va_cwS 5 hts (rg_S (rg3 m_243 m_221 m_3) k_Ma_join) rfl rfl rfl (by decide +kernel) ⟨by show d + 1 ≤ d + 1; omega, by show 8 + (21 + 11) + 64 * d ≤ 64 * (d + 1); omega⟩) ⟨fun a U g mk q => ⟨q.1, q.2.1, q.2.2.1, va_K.moved (u := U) (U := U.calling g mk a) (Vm.Alike.refl U.vm) q.2.2.2.1, q.2.2.2.2.1, rn_same (u := U) (U := U.calling g mk a) rfl q.2.2.2.2.2.1, rz_same q.2.2.2.2.2.2⟩, fun U hU hW => ⟨rfl, by rw [hU], by rw [hU]; exact hPc, va_K.moved hW.alike hK, hDc.weaken (fun _ _ _ _ => trivial), rn_warm hW hN, rz_at hZ hS hU hW hFc⟩⟩ rfl rfl hl.1 rfl (lv_room (Nat.le_of_ble_eq_true rfl)) d_Ma_join_253 ⟨Nat.zero_le _, Nat.zero_le _⟩) hS (fun q _ h => hFc q h) hFc (fun r9 u t H1 locs ht hvm hw hB hz1 hk1 hS => ?_)
                  subst hw
                  obtain ⟨hP1, hD1⟩ := hB
                  rw [ht] at hP1
                  obtain ⟨hP, hD⟩ := va_join (wr := []) (w1 := [(d0, .inr (2, [.ref aT, .ref qc, .ref aU, .ref qk, .ref qr, .int (nI now), .int (nI ((rj_join (rx_trav he.1 he.2.1 he.2.2.1 he.2.2.2) (rd_meet now r) rd_ch r fx rem (k + 1) ds2 (rd_ch k (rx_code s1 p1 o1) st)).1).2.2.2.2.1), .int (rb_z ((rj_join (rx_trav he.1 he.2.1 he.2.2.1 he.2.2.2) (rd_meet now r) rd_ch r fx rem (k + 1) ds2 (rd_ch k (rx_code s1 p1 o1) st)).1).2.2.2.2.2)])), (qc, .inl (dA, 4, .inl ((rj_join (rx_trav he.1 he.2.1 he.2.2.1 he.2.2.2) (rd_meet now r) rd_ch r fx rem (k + 1) ds2 (rd_ch k (rx_code s1 p1 o1) st)).1).1)), (aT, .inr (1, [.ref t1, .ref t2, .ref t3, .int he.2.2.2])), (t1, .inl (dA, 1024, .inl he.1)), (t2, .inl (dA, 32, .inl he.2.1)), (t3, .inl (dA, 32, .inl he.2.2.1)), (aU, .inr (1, [.ref u1, .ref u2, .ref u3, .int (((rj_join (rx_trav he.1 he.2.1 he.2.2.1 he.2.2.2) (rd_meet now r) rd_ch r fx rem (k + 1) ds2 (rd_ch k (rx_code s1 p1 o1) st)).1).2.1.2.2.2)])), (u1, .inl (dA, 1024, .inl (((rj_join (rx_trav he.1 he.2.1 he.2.2.1 he.2.2.2) (rd_meet now r) rd_ch r fx rem (k + 1) ds2 (rd_ch k (rx_code s1 p1 o1) st)).1).2.1.1))), (u2, .inl (dA, 32, .inl (((rj_join (rx_trav he.1 he.2.1 he.2.2.1 he.2.2.2) (rd_meet now r) rd_ch r fx rem (k + 1) ds2 (rd_ch k (rx_code s1 p1 o1) st)).1).2.1.2.1))), (u3, .inl (dA, 32, .inl (((rj_join (rx_trav he.1 he.2.1 he.2.2.1 he.2.2.2) (rd_meet now r) rd_ch r fx rem (k + 1) ds2 (rd_ch k (rx_code s1 p1 o1) st)).1).2.1.2.2.1))), (qk, .inl (dA, 400, .inl ((rj_join (rx_trav he.1 he.2.1 he.2.2.1 he.2.2.2) (rd_meet now r) rd_ch r fx rem (k + 1) ds2 (rd_ch k (rx_code s1 p1 o1) st)).1).2.2.1)), (qr, .inl (dA, 400, .inl ((rj_join (rx_trav he.1 he.2.1 he.2.2.1 he.2.2.2) (rd_meet now r) rd_ch r fx rem (k + 1) ds2 (rd_ch k (rx_code s1 p1 o1) st)).1).2.2.2.1))]) hP hD [0, 1, 2, 3, 4, 5, 6, 7, 8, 9, 10, 11] [] rfl rfl (by decide) (by decide) hk1 hFc hP1 hD1
                  clear hk1 hFc hPc hDc hP1 hD1
                  generalize H1 = H at hP hS ⊢
                  have hP : va_P (dC, dI) classes [(d0, .inr (2, [.ref aT, .ref qc, .ref aU, .ref qk, .ref qr, .int (nI now), .int (nI ((rj_join (rx_trav he.1 he.2.1 he.2.2.1 he.2.2.2) (rd_meet now r) rd_ch r fx rem (k + 1) ds2 (rd_ch k (rx_code s1 p1 o1) st)).1).2.2.2.2.1), .int (rb_z ((rj_join (rx_trav he.1 he.2.1 he.2.2.1 he.2.2.2) (rd_meet now r) rd_ch r fx rem (k + 1) ds2 (rd_ch k (rx_code s1 p1 o1) st)).1).2.2.2.2.2)])), (qc, .inl (dA, 4, .inl ((rj_join (rx_trav he.1 he.2.1 he.2.2.1 he.2.2.2) (rd_meet now r) rd_ch r fx rem (k + 1) ds2 (rd_ch k (rx_code s1 p1 o1) st)).1).1)), (aT, .inr (1, [.ref t1, .ref t2, .ref t3, .int he.2.2.2])), (t1, .inl (dA, 1024, .inl he.1)), (t2, .inl (dA, 32, .inl he.2.1)), (t3, .inl (dA, 32, .inl he.2.2.1)), (aU, .inr (1, [.ref u1, .ref u2, .ref u3, .int (((rj_join (rx_trav he.1 he.2.1 he.2.2.1 he.2.2.2) (rd_meet now r) rd_ch r fx rem (k + 1) ds2 (rd_ch k (rx_code s1 p1 o1) st)).1).2.1.2.2.2)])), (u1, .inl (dA, 1024, .inl (((rj_join (rx_trav he.1 he.2.1 he.2.2.1 he.2.2.2) (rd_meet now r) rd_ch r fx rem (k + 1) ds2 (rd_ch k (rx_code s1 p1 o1) st)).1).2.1.1))), (u2, .inl (dA, 32, .inl (((rj_join (rx_trav he.1 he.2.1 he.2.2.1 he.2.2.2) (rd_meet now r) rd_ch r fx rem (k + 1) ds2 (rd_ch k (rx_code s1 p1 o1) st)).1).2.1.2.1))), (u3, .inl (dA, 32, .inl (((rj_join (rx_trav he.1 he.2.1 he.2.2.1 he.2.2.2) (rd_meet now r) rd_ch r fx rem (k + 1) ds2 (rd_ch k (rx_code s1 p1 o1) st)).1).2.1.2.2.1))), (qk, .inl (dA, 400, .inl ((rj_join (rx_trav he.1 he.2.1 he.2.2.1 he.2.2.2) (rd_meet now r) rd_ch r fx rem (k + 1) ds2 (rd_ch k (rx_code s1 p1 o1) st)).1).2.2.1)), (qr, .inl (dA, 400, .inl ((rj_join (rx_trav he.1 he.2.1 he.2.2.1 he.2.2.2) (rd_meet now r) rd_ch r fx rem (k + 1) ds2 (rd_ch k (rx_code s1 p1 o1) st)).1).2.2.2.1))] H := hP.sub [0, 1, 2, 3, 4, 5, 6, 7, 8, 9, 10, 11] rfl
                  have hD : va_D A [(d0, .inr (2, [.ref aT, .ref qc, .ref aU, .ref qk, .ref qr, .int (nI now), .int (nI ((rj_join (rx_trav he.1 he.2.1 he.2.2.1 he.2.2.2) (rd_meet now r) rd_ch r fx rem (k + 1) ds2 (rd_ch k (rx_code s1 p1 o1) st)).1).2.2.2.2.1), .int (rb_z ((rj_join (rx_trav he.1 he.2.1 he.2.2.1 he.2.2.2) (rd_meet now r) rd_ch r fx rem (k + 1) ds2 (rd_ch k (rx_code s1 p1 o1) st)).1).2.2.2.2.2)])), (qc, .inl (dA, 4, .inl ((rj_join (rx_trav he.1 he.2.1 he.2.2.1 he.2.2.2) (rd_meet now r) rd_ch r fx rem (k + 1) ds2 (rd_ch k (rx_code s1 p1 o1) st)).1).1)), (aT, .inr (1, [.ref t1, .ref t2, .ref t3, .int he.2.2.2])), (t1, .inl (dA, 1024, .inl he.1)), (t2, .inl (dA, 32, .inl he.2.1)), (t3, .inl (dA, 32, .inl he.2.2.1)), (aU, .inr (1, [.ref u1, .ref u2, .ref u3, .int (((rj_join (rx_trav he.1 he.2.1 he.2.2.1 he.2.2.2) (rd_meet now r) rd_ch r fx rem (k + 1) ds2 (rd_ch k (rx_code s1 p1 o1) st)).1).2.1.2.2.2)])), (u1, .inl (dA, 1024, .inl (((rj_join (rx_trav he.1 he.2.1 he.2.2.1 he.2.2.2) (rd_meet now r) rd_ch r fx rem (k + 1) ds2 (rd_ch k (rx_code s1 p1 o1) st)).1).2.1.1))), (u2, .inl (dA, 32, .inl (((rj_join (rx_trav he.1 he.2.1 he.2.2.1 he.2.2.2) (rd_meet now r) rd_ch r fx rem (k + 1) ds2 (rd_ch k (rx_code s1 p1 o1) st)).1).2.1.2.1))), (u3, .inl (dA, 32, .inl (((rj_join (rx_trav he.1 he.2.1 he.2.2.1 he.2.2.2) (rd_meet now r) rd_ch r fx rem (k + 1) ds2 (rd_ch k (rx_code s1 p1 o1) st)).1).2.1.2.2.1))), (qk, .inl (dA, 400, .inl ((rj_join (rx_trav he.1 he.2.1 he.2.2.1 he.2.2.2) (rd_meet now r) rd_ch r fx rem (k + 1) ds2 (rd_ch k (rx_code s1 p1 o1) st)).1).2.2.1)), (qr, .inl (dA, 400, .inl ((rj_join (rx_trav he.1 he.2.1 he.2.2.1 he.2.2.2) (rd_meet now r) rd_ch r fx rem (k + 1) ds2 (rd_ch k (rx_code s1 p1 o1) st)).1).2.2.2.1))] := hD.sub [0, 1, 2, 3, 4, 5, 6, 7, 8, 9, 10, 11] (by decide) rfl
                  generalize hJ : rj_join (rx_trav he.1 he.2.1 he.2.2.1 he.2.2.2) (rd_meet now r) rd_ch r fx rem (k + 1) ds2 (rd_ch k (rx_code s1 p1 o1) st) = J at hP hD hFq ⊢
                  have hcn3 : J.1.2.2.2.2.1 ≤ 400 := by rw [← hJ]; exact rd_join_cnt _ _ _ _ hcn2
                  rcases hj2 : J.2 with _ | _
                  · refine rv_eq (y := nI 0) (rfl) ?_
                    have hR2 := rj_fold_go hR (by rw [hFq]; exact hj2)
                    rw [hFq] at hR2
                    refine rv_if_eq (tgt := 261) hx hb d_Ma_join_256 (by decide) (by omega) (fun c_256 => ?_) (fun c_256 => absurd c_256 (by omega))
                    refine rv_dec (k := 3) (lv' := [(17, .int (nI n3)), (19, .long (lN (rt_pk ds2))), (16, .int x3b), (18, .int (nI (rx_code s1 p1 o1))), (14, .int (nI (n2 + 1))), (13, .int x2b), (11, .int (nI (n + 1))), (10, .int x1b), (12, .int (nI s1)), (15, .int (nI p1)), (0, .ref d0), (1, .int (nI r)), (2, .int (nI k)), (3, .int (rt_i fx)), (4, .long (lN (rt_pk ds))), (6, .int (nI (12 * r + 3 * k))), (8, .int (rt_i kP)), (9, .int (rt_i kO))]) hx hb d_Ma_join_261 hl rfl (by decide) rfl (fun ls hl => ?_)
                    refine lv_goto (tgt := 188) hx hb d_Ma_join_264 (by decide) ?_
                    exact ih3 x3b J.1 _ _ _ (hc3) (hcn3) (hR2) hP hD hS (lv_sub hl [0, 2, 4, 5, 6, 7, 8, 9, 10, 11, 12, 13, 14, 15, 16, 17] rfl)
                  · refine rv_eq (y := nI 1) (rfl) ?_
                    have hR2 := rj_fold_stop hR (by rw [hFq]; exact hj2)
                    rw [hFq] at hR2
                    refine rv_if_eq (tgt := 261) hx hb d_Ma_join_256 (by decide) (by omega) (fun c_256 => absurd c_256 (by omega)) (fun c_256 => ?_)
                    refine lv_iconst (v := nI 1) hx hb d_Ma_join_259 (by decide) ?_
                    subst hQ
                    exact W.zret (v := nI 1) hx hb hr (by rfl) (fun t ht hW => ⟨⟨nI 1, (), rfl, by rw [← hR2, hj2]; rfl, by rw [ht]; rw [← hR2]; exact hP, by rw [← hR2]; exact hD⟩, hS.F ht⟩) hS.2.2 d_Ma_join_260
            exact lp3 (rb_cnt (rx_os he.1 s1 p1 kO)) (rx_os he.1 s1 p1 kO) st _ _ _ (rfl) (hcnt) (hR) hP hD hS (lv_sub hl [0, 1, 4, 2, 5, 6, 7, 3, 8, 9, 10, 11, 12, 13, 14, 15] rfl)
        exact lp2 (rb_cnt (rx_ps he.2.2.1 s1 kP)) (rx_ps he.2.2.1 s1 kP) st _ _ _ (rfl) (hcnt) (hR) hP hD hS (lv_sub hl [0, 1, 4, 2, 3, 5, 6, 7, 8, 9, 10, 11, 12] rfl)
    exact lp1 (rb_cnt (rx_ss he.2.1 he.2.2.2 kS kP)) (rx_ss he.2.1 he.2.2.2 kS kP) st _ _ _ (rfl) (hcnt) (hR0) hP hD hS (lv_sub hl [0, 1, 6, 7, 8, 9, 10, 5, 3, 2] rfl)
  · have hfk : fx = some k := (rj_term_i (by omega) (fun u hu => by have := hfx u hu; omega)).mp c_23
    refine lv_aload_n hx hb d_Ma_join_26 rfl (lv_at hl 0 rfl) ?_
    refine lv_iload_n hx hb d_Ma_join_27 rfl (lv_at hl 1 rfl) ?_
    refine lv_iload_n hx hb d_Ma_join_28 rfl (lv_at hl 2 rfl) ?_
    refine lv_iconst (v := nI 1) hx hb d_Ma_join_29 (by decide) ?_
    refine rv_iadd hx hb d_Ma_join_30 ?_
    refine lv_iload_n hx hb d_Ma_join_31 rfl (lv_at hl 3 rfl) ?_
    refine lv_lload hx hb d_Ma_join_32 (lv_at hl 4 rfl) ?_
    have hPc := hP.sub (ws' := [(d0, .inr (2, [.ref aT, .ref qc, .ref aU, .ref qk, .ref qr, .int (nI now), .int (nI st.2.2.2.2.1), .int (rb_z st.2.2.2.2.2)])), (qc, .inl (dA, 4, .inl st.1)), (aT, .inr (1, [.ref t1, .ref t2, .ref t3, .int he.2.2.2])), (t1, .inl (dA, 1024, .inl he.1)), (t2, .inl (dA, 32, .inl he.2.1)), (t3, .inl (dA, 32, .inl he.2.2.1)), (aU, .inr (1, [.ref u1, .ref u2, .ref u3, .int st.2.1.2.2.2])), (u1, .inl (dA, 1024, .inl st.2.1.1)), (u2, .inl (dA, 32, .inl st.2.1.2.1)), (u3, .inl (dA, 32, .inl st.2.1.2.2.1)), (qk, .inl (dA, 400, .inl st.2.2.1)), (qr, .inl (dA, 400, .inl st.2.2.2.1))]) [0, 1, 2, 3, 4, 5, 6, 7, 8, 9, 10, 11] rfl
    have hDc := hD.sub (ws' := [(d0, .inr (2, [.ref aT, .ref qc, .ref aU, .ref qk, .ref qr, .int (nI now), .int (nI st.2.2.2.2.1), .int (rb_z st.2.2.2.2.2)])), (qc, .inl (dA, 4, .inl st.1)), (aT, .inr (1, [.ref t1, .ref t2, .ref t3, .int he.2.2.2])), (t1, .inl (dA, 1024, .inl he.1)), (t2, .inl (dA, 32, .inl he.2.1)), (t3, .inl (dA, 32, .inl he.2.2.1)), (aU, .inr (1, [.ref u1, .ref u2, .ref u3, .int st.2.1.2.2.2])), (u1, .inl (dA, 1024, .inl st.2.1.1)), (u2, .inl (dA, 32, .inl st.2.1.2.1)), (u3, .inl (dA, 32, .inl st.2.1.2.2.1)), (qk, .inl (dA, 400, .inl st.2.2.1)), (qr, .inl (dA, 400, .inl st.2.2.2.1))]) [0, 1, 2, 3, 4, 5, 6, 7, 8, 9, 10, 11] (by decide) rfl
    have hFc := va_free (wc := [(d0, .inr (2, [.ref aT, .ref qc, .ref aU, .ref qk, .ref qr, .int (nI now), .int (nI st.2.2.2.2.1), .int (rb_z st.2.2.2.2.2)])), (qc, .inl (dA, 4, .inl st.1)), (aT, .inr (1, [.ref t1, .ref t2, .ref t3, .int he.2.2.2])), (t1, .inl (dA, 1024, .inl he.1)), (t2, .inl (dA, 32, .inl he.2.1)), (t3, .inl (dA, 32, .inl he.2.2.1)), (aU, .inr (1, [.ref u1, .ref u2, .ref u3, .int st.2.1.2.2.2])), (u1, .inl (dA, 1024, .inl st.2.1.1)), (u2, .inl (dA, 32, .inl st.2.1.2.1)), (u3, .inl (dA, 32, .inl st.2.1.2.2.1)), (qk, .inl (dA, 400, .inl st.2.2.1)), (qr, .inl (dA, 400, .inl st.2.2.2.1))]) hD hS hA [0, 1, 2, 3, 4, 5, 6, 7, 8, 9, 10, 11] rfl
    refine va_calli (va_runS (As := [.ref d0, .int (nI r), .int (nI (k + 1)), .int (rt_i fx), .long (lN (rt_pk ds))]) (rest := []) ⟨hx, hb, hml, hown, hts⟩ (IH dC dI dA tP tG tC d0 qc aT t1 t2 t3 aU u1 u2 u3 qk qr he now r (k + 1) fx ds st H.size hr0 hfx hd hcnt (rj_cov_skip hcov hfk) (by omega)) (va_cwS 5 hts (rg_S (rg3 m_243 m_221 m_3) k_Ma_join) rfl rfl rfl (by decide +kernel) ⟨by show d + 1 ≤ d + 1; omega, by show 8 + (21 + 11) + 64 * d ≤ 64 * (d + 1); omega⟩) ⟨fun a U g mk q => ⟨q.1, q.2.1, q.2.2.1, va_K.moved (u := U) (U := U.calling g mk a) (Vm.Alike.refl U.vm) q.2.2.2.1, q.2.2.2.2.1, rn_same (u := U) (U := U.calling g mk a) rfl q.2.2.2.2.2.1, rz_same q.2.2.2.2.2.2⟩, fun U hU hW => ⟨rfl, by rw [hU], by rw [hU]; exact hPc, va_K.moved hW.alike hK, hDc.weaken (fun _ _ _ _ => trivial), rn_warm hW hN, rz_at hZ hS hU hW hFc⟩⟩ rfl rfl hl.1 rfl (lv_room (Nat.le_of_ble_eq_true rfl)) d_Ma_join_34 ⟨Nat.zero_le _, Nat.zero_le _⟩) hS (fun q _ h => hFc q h) hFc (fun r9 u t H1 locs ht hvm hw hB hz1 hk1 hS => ?_)
    subst hw
    obtain ⟨hP1, hD1⟩ := hB
    rw [ht] at hP1
    obtain ⟨hP, hD⟩ := va_join (wr := []) (w1 := [(d0, .inr (2, [.ref aT, .ref qc, .ref aU, .ref qk, .ref qr, .int (nI now), .int (nI ((rj_join (rx_trav he.1 he.2.1 he.2.2.1 he.2.2.2) (rd_meet now r) rd_ch r fx rem (k + 1) ds st).1).2.2.2.2.1), .int (rb_z ((rj_join (rx_trav he.1 he.2.1 he.2.2.1 he.2.2.2) (rd_meet now r) rd_ch r fx rem (k + 1) ds st).1).2.2.2.2.2)])), (qc, .inl (dA, 4, .inl ((rj_join (rx_trav he.1 he.2.1 he.2.2.1 he.2.2.2) (rd_meet now r) rd_ch r fx rem (k + 1) ds st).1).1)), (aT, .inr (1, [.ref t1, .ref t2, .ref t3, .int he.2.2.2])), (t1, .inl (dA, 1024, .inl he.1)), (t2, .inl (dA, 32, .inl he.2.1)), (t3, .inl (dA, 32, .inl he.2.2.1)), (aU, .inr (1, [.ref u1, .ref u2, .ref u3, .int (((rj_join (rx_trav he.1 he.2.1 he.2.2.1 he.2.2.2) (rd_meet now r) rd_ch r fx rem (k + 1) ds st).1).2.1.2.2.2)])), (u1, .inl (dA, 1024, .inl (((rj_join (rx_trav he.1 he.2.1 he.2.2.1 he.2.2.2) (rd_meet now r) rd_ch r fx rem (k + 1) ds st).1).2.1.1))), (u2, .inl (dA, 32, .inl (((rj_join (rx_trav he.1 he.2.1 he.2.2.1 he.2.2.2) (rd_meet now r) rd_ch r fx rem (k + 1) ds st).1).2.1.2.1))), (u3, .inl (dA, 32, .inl (((rj_join (rx_trav he.1 he.2.1 he.2.2.1 he.2.2.2) (rd_meet now r) rd_ch r fx rem (k + 1) ds st).1).2.1.2.2.1))), (qk, .inl (dA, 400, .inl ((rj_join (rx_trav he.1 he.2.1 he.2.2.1 he.2.2.2) (rd_meet now r) rd_ch r fx rem (k + 1) ds st).1).2.2.1)), (qr, .inl (dA, 400, .inl ((rj_join (rx_trav he.1 he.2.1 he.2.2.1 he.2.2.2) (rd_meet now r) rd_ch r fx rem (k + 1) ds st).1).2.2.2.1))]) hP hD [0, 1, 2, 3, 4, 5, 6, 7, 8, 9, 10, 11] [] rfl rfl (by decide) (by decide) hk1 hFc hP1 hD1
    clear hk1 hFc hPc hDc hP1 hD1
    generalize H1 = H at hP hS ⊢
    have hP : va_P (dC, dI) classes [(d0, .inr (2, [.ref aT, .ref qc, .ref aU, .ref qk, .ref qr, .int (nI now), .int (nI ((rj_join (rx_trav he.1 he.2.1 he.2.2.1 he.2.2.2) (rd_meet now r) rd_ch r fx rem (k + 1) ds st).1).2.2.2.2.1), .int (rb_z ((rj_join (rx_trav he.1 he.2.1 he.2.2.1 he.2.2.2) (rd_meet now r) rd_ch r fx rem (k + 1) ds st).1).2.2.2.2.2)])), (qc, .inl (dA, 4, .inl ((rj_join (rx_trav he.1 he.2.1 he.2.2.1 he.2.2.2) (rd_meet now r) rd_ch r fx rem (k + 1) ds st).1).1)), (aT, .inr (1, [.ref t1, .ref t2, .ref t3, .int he.2.2.2])), (t1, .inl (dA, 1024, .inl he.1)), (t2, .inl (dA, 32, .inl he.2.1)), (t3, .inl (dA, 32, .inl he.2.2.1)), (aU, .inr (1, [.ref u1, .ref u2, .ref u3, .int (((rj_join (rx_trav he.1 he.2.1 he.2.2.1 he.2.2.2) (rd_meet now r) rd_ch r fx rem (k + 1) ds st).1).2.1.2.2.2)])), (u1, .inl (dA, 1024, .inl (((rj_join (rx_trav he.1 he.2.1 he.2.2.1 he.2.2.2) (rd_meet now r) rd_ch r fx rem (k + 1) ds st).1).2.1.1))), (u2, .inl (dA, 32, .inl (((rj_join (rx_trav he.1 he.2.1 he.2.2.1 he.2.2.2) (rd_meet now r) rd_ch r fx rem (k + 1) ds st).1).2.1.2.1))), (u3, .inl (dA, 32, .inl (((rj_join (rx_trav he.1 he.2.1 he.2.2.1 he.2.2.2) (rd_meet now r) rd_ch r fx rem (k + 1) ds st).1).2.1.2.2.1))), (qk, .inl (dA, 400, .inl ((rj_join (rx_trav he.1 he.2.1 he.2.2.1 he.2.2.2) (rd_meet now r) rd_ch r fx rem (k + 1) ds st).1).2.2.1)), (qr, .inl (dA, 400, .inl ((rj_join (rx_trav he.1 he.2.1 he.2.2.1 he.2.2.2) (rd_meet now r) rd_ch r fx rem (k + 1) ds st).1).2.2.2.1))] H := hP.sub [0, 1, 2, 3, 4, 5, 6, 7, 8, 9, 10, 11] rfl
    have hD : va_D A [(d0, .inr (2, [.ref aT, .ref qc, .ref aU, .ref qk, .ref qr, .int (nI now), .int (nI ((rj_join (rx_trav he.1 he.2.1 he.2.2.1 he.2.2.2) (rd_meet now r) rd_ch r fx rem (k + 1) ds st).1).2.2.2.2.1), .int (rb_z ((rj_join (rx_trav he.1 he.2.1 he.2.2.1 he.2.2.2) (rd_meet now r) rd_ch r fx rem (k + 1) ds st).1).2.2.2.2.2)])), (qc, .inl (dA, 4, .inl ((rj_join (rx_trav he.1 he.2.1 he.2.2.1 he.2.2.2) (rd_meet now r) rd_ch r fx rem (k + 1) ds st).1).1)), (aT, .inr (1, [.ref t1, .ref t2, .ref t3, .int he.2.2.2])), (t1, .inl (dA, 1024, .inl he.1)), (t2, .inl (dA, 32, .inl he.2.1)), (t3, .inl (dA, 32, .inl he.2.2.1)), (aU, .inr (1, [.ref u1, .ref u2, .ref u3, .int (((rj_join (rx_trav he.1 he.2.1 he.2.2.1 he.2.2.2) (rd_meet now r) rd_ch r fx rem (k + 1) ds st).1).2.1.2.2.2)])), (u1, .inl (dA, 1024, .inl (((rj_join (rx_trav he.1 he.2.1 he.2.2.1 he.2.2.2) (rd_meet now r) rd_ch r fx rem (k + 1) ds st).1).2.1.1))), (u2, .inl (dA, 32, .inl (((rj_join (rx_trav he.1 he.2.1 he.2.2.1 he.2.2.2) (rd_meet now r) rd_ch r fx rem (k + 1) ds st).1).2.1.2.1))), (u3, .inl (dA, 32, .inl (((rj_join (rx_trav he.1 he.2.1 he.2.2.1 he.2.2.2) (rd_meet now r) rd_ch r fx rem (k + 1) ds st).1).2.1.2.2.1))), (qk, .inl (dA, 400, .inl ((rj_join (rx_trav he.1 he.2.1 he.2.2.1 he.2.2.2) (rd_meet now r) rd_ch r fx rem (k + 1) ds st).1).2.2.1)), (qr, .inl (dA, 400, .inl ((rj_join (rx_trav he.1 he.2.1 he.2.2.1 he.2.2.2) (rd_meet now r) rd_ch r fx rem (k + 1) ds st).1).2.2.2.1))] := hD.sub [0, 1, 2, 3, 4, 5, 6, 7, 8, 9, 10, 11] (by decide) rfl
    exact W.zret (v := rb_z (rj_join (rx_trav he.1 he.2.1 he.2.2.1 he.2.2.2) (rd_meet now r) rd_ch r fx rem (k + 1) ds st).2) hx hb hr (rb_z_nar _) (fun t ht hW => ⟨⟨rb_z (rj_join (rx_trav he.1 he.2.1 he.2.2.1 he.2.2.2) (rd_meet now r) rd_ch r fx rem (k + 1) ds st).2, (), rfl, by rw [show rj_join (rx_trav he.1 he.2.1 he.2.2.1 he.2.2.2) (rd_meet now r) rd_ch r fx (rem + 1) k ds st = rj_join (rx_trav he.1 he.2.1 he.2.2.1 he.2.2.2) (rd_meet now r) rd_ch r fx rem (k + 1) ds st from by show (if fx = some k then _ else _) = _; rw [if_pos hfk]], by rw [ht]; rw [show rj_join (rx_trav he.1 he.2.1 he.2.2.1 he.2.2.2) (rd_meet now r) rd_ch r fx (rem + 1) k ds st = rj_join (rx_trav he.1 he.2.1 he.2.2.1 he.2.2.2) (rd_meet now r) rd_ch r fx rem (k + 1) ds st from by show (if fx = some k then _ else _) = _; rw [if_pos hfk]]; exact hP, by rw [show rj_join (rx_trav he.1 he.2.1 he.2.2.1 he.2.2.2) (rd_meet now r) rd_ch r fx (rem + 1) k ds st = rj_join (rx_trav he.1 he.2.1 he.2.2.1 he.2.2.2) (rd_meet now r) rd_ch r fx rem (k + 1) ds st from by show (if fx = some k then _ else _) = _; rw [if_pos hfk]]; exact hD⟩, hS.F ht⟩) hS.2.2 d_Ma_join_37

theorem c_Ma_joinD (l : Launch) : ∀ (rem : Nat) (dC : Nat → ClassId) (dI : Nat → Nat → Nat) (dA : ClassId) (tP tG tC d0 qc aT t1 t2 t3 aU u1 u2 u3 qk qr : Nat) (he : sT) (now r k : Nat) (fx : Option Nat) (ds : List Nat) (st : sD) (sz : Nat) (hr0 : r < 21) (hfx : ∀ u, fx = some u → u < 4) (hd : rt_ok ds) (hcnt : st.2.2.2.2.1 ≤ 400) (hcov : rj_cov r k fx ds) (hk : k + rem = rq_cnts.getD r 0), Met l y_Ma_join (w_ y_Ma_join b_Ma_join 21 (some .boolean)) (rm_ (3 + rem)) (va_Pc [.ref d0, .int (nI r), .int (nI k), .int (rt_i fx), .long (lN (rt_pk ds))] (fun U => U.heap.size = sz ∧ va_P (dC, dI) classes [(d0, .inr (2, [.ref aT, .ref qc, .ref aU, .ref qk, .ref qr, .int (nI now), .int (nI st.2.2.2.2.1), .int (rb_z st.2.2.2.2.2)])), (qc, .inl (dA, 4, .inl st.1)), (aT, .inr (1, [.ref t1, .ref t2, .ref t3, .int he.2.2.2])), (t1, .inl (dA, 1024, .inl he.1)), (t2, .inl (dA, 32, .inl he.2.1)), (t3, .inl (dA, 32, .inl he.2.2.1)), (aU, .inr (1, [.ref u1, .ref u2, .ref u3, .int st.2.1.2.2.2])), (u1, .inl (dA, 1024, .inl st.2.1.1)), (u2, .inl (dA, 32, .inl st.2.1.2.1)), (u3, .inl (dA, 32, .inl st.2.1.2.2.1)), (qk, .inl (dA, 400, .inl st.2.2.1)), (qr, .inl (dA, 400, .inl st.2.2.2.1))] U.heap ∧ va_K (dC, dI) classes [(dA, .int)] U ∧ va_D (fun _ => True) [(d0, .inr (2, [.ref aT, .ref qc, .ref aU, .ref qk, .ref qr, .int (nI now), .int (nI st.2.2.2.2.1), .int (rb_z st.2.2.2.2.2)])), (qc, .inl (dA, 4, .inl st.1)), (aT, .inr (1, [.ref t1, .ref t2, .ref t3, .int he.2.2.2])), (t1, .inl (dA, 1024, .inl he.1)), (t2, .inl (dA, 32, .inl he.2.1)), (t3, .inl (dA, 32, .inl he.2.2.1)), (aU, .inr (1, [.ref u1, .ref u2, .ref u3, .int st.2.1.2.2.2])), (u1, .inl (dA, 1024, .inl st.2.1.1)), (u2, .inl (dA, 32, .inl st.2.1.2.1)), (u3, .inl (dA, 32, .inl st.2.1.2.2.1)), (qk, .inl (dA, 400, .inl st.2.2.1)), (qr, .inl (dA, 400, .inl st.2.2.2.1))] ∧ rn_ U ∧ rz_ tP tG tC (va_A [(d0, .inr (2, [.ref aT, .ref qc, .ref aU, .ref qk, .ref qr, .int (nI now), .int (nI st.2.2.2.2.1), .int (rb_z st.2.2.2.2.2)])), (qc, .inl (dA, 4, .inl st.1)), (aT, .inr (1, [.ref t1, .ref t2, .ref t3, .int he.2.2.2])), (t1, .inl (dA, 1024, .inl he.1)), (t2, .inl (dA, 32, .inl he.2.1)), (t3, .inl (dA, 32, .inl he.2.2.1)), (aU, .inr (1, [.ref u1, .ref u2, .ref u3, .int st.2.1.2.2.2])), (u1, .inl (dA, 1024, .inl st.2.1.1)), (u2, .inl (dA, 32, .inl st.2.1.2.1)), (u3, .inl (dA, 32, .inl st.2.1.2.2.1)), (qk, .inl (dA, 400, .inl st.2.2.1)), (qr, .inl (dA, 400, .inl st.2.2.2.1))] sz) U)) (va_Qi (fun (z9 : Int32) (_ : Unit) => z9 = rb_z (rj_join (rx_trav he.1 he.2.1 he.2.2.1 he.2.2.2) (rd_meet now r) rd_ch r fx rem k ds st).2) (fun (_ : Unit) t => va_P (dC, dI) classes [(d0, .inr (2, [.ref aT, .ref qc, .ref aU, .ref qk, .ref qr, .int (nI now), .int (nI ((rj_join (rx_trav he.1 he.2.1 he.2.2.1 he.2.2.2) (rd_meet now r) rd_ch r fx rem k ds st).1).2.2.2.2.1), .int (rb_z ((rj_join (rx_trav he.1 he.2.1 he.2.2.1 he.2.2.2) (rd_meet now r) rd_ch r fx rem k ds st).1).2.2.2.2.2)])), (qc, .inl (dA, 4, .inl ((rj_join (rx_trav he.1 he.2.1 he.2.2.1 he.2.2.2) (rd_meet now r) rd_ch r fx rem k ds st).1).1)), (aT, .inr (1, [.ref t1, .ref t2, .ref t3, .int he.2.2.2])), (t1, .inl (dA, 1024, .inl he.1)), (t2, .inl (dA, 32, .inl he.2.1)), (t3, .inl (dA, 32, .inl he.2.2.1)), (aU, .inr (1, [.ref u1, .ref u2, .ref u3, .int (((rj_join (rx_trav he.1 he.2.1 he.2.2.1 he.2.2.2) (rd_meet now r) rd_ch r fx rem k ds st).1).2.1.2.2.2)])), (u1, .inl (dA, 1024, .inl (((rj_join (rx_trav he.1 he.2.1 he.2.2.1 he.2.2.2) (rd_meet now r) rd_ch r fx rem k ds st).1).2.1.1))), (u2, .inl (dA, 32, .inl (((rj_join (rx_trav he.1 he.2.1 he.2.2.1 he.2.2.2) (rd_meet now r) rd_ch r fx rem k ds st).1).2.1.2.1))), (u3, .inl (dA, 32, .inl (((rj_join (rx_trav he.1 he.2.1 he.2.2.1 he.2.2.2) (rd_meet now r) rd_ch r fx rem k ds st).1).2.1.2.2.1))), (qk, .inl (dA, 400, .inl ((rj_join (rx_trav he.1 he.2.1 he.2.2.1 he.2.2.2) (rd_meet now r) rd_ch r fx rem k ds st).1).2.2.1)), (qr, .inl (dA, 400, .inl ((rj_join (rx_trav he.1 he.2.1 he.2.2.1 he.2.2.2) (rd_meet now r) rd_ch r fx rem k ds st).1).2.2.2.1))] t.heap ∧ va_D (va_A [(d0, .inr (2, [.ref aT, .ref qc, .ref aU, .ref qk, .ref qr, .int (nI now), .int (nI st.2.2.2.2.1), .int (rb_z st.2.2.2.2.2)])), (qc, .inl (dA, 4, .inl st.1)), (aT, .inr (1, [.ref t1, .ref t2, .ref t3, .int he.2.2.2])), (t1, .inl (dA, 1024, .inl he.1)), (t2, .inl (dA, 32, .inl he.2.1)), (t3, .inl (dA, 32, .inl he.2.2.1)), (aU, .inr (1, [.ref u1, .ref u2, .ref u3, .int st.2.1.2.2.2])), (u1, .inl (dA, 1024, .inl st.2.1.1)), (u2, .inl (dA, 32, .inl st.2.1.2.1)), (u3, .inl (dA, 32, .inl st.2.1.2.2.1)), (qk, .inl (dA, 400, .inl st.2.2.1)), (qr, .inl (dA, 400, .inl st.2.2.2.1))] sz) [(d0, .inr (2, [.ref aT, .ref qc, .ref aU, .ref qk, .ref qr, .int (nI now), .int (nI ((rj_join (rx_trav he.1 he.2.1 he.2.2.1 he.2.2.2) (rd_meet now r) rd_ch r fx rem k ds st).1).2.2.2.2.1), .int (rb_z ((rj_join (rx_trav he.1 he.2.1 he.2.2.1 he.2.2.2) (rd_meet now r) rd_ch r fx rem k ds st).1).2.2.2.2.2)])), (qc, .inl (dA, 4, .inl ((rj_join (rx_trav he.1 he.2.1 he.2.2.1 he.2.2.2) (rd_meet now r) rd_ch r fx rem k ds st).1).1)), (aT, .inr (1, [.ref t1, .ref t2, .ref t3, .int he.2.2.2])), (t1, .inl (dA, 1024, .inl he.1)), (t2, .inl (dA, 32, .inl he.2.1)), (t3, .inl (dA, 32, .inl he.2.2.1)), (aU, .inr (1, [.ref u1, .ref u2, .ref u3, .int (((rj_join (rx_trav he.1 he.2.1 he.2.2.1 he.2.2.2) (rd_meet now r) rd_ch r fx rem k ds st).1).2.1.2.2.2)])), (u1, .inl (dA, 1024, .inl (((rj_join (rx_trav he.1 he.2.1 he.2.2.1 he.2.2.2) (rd_meet now r) rd_ch r fx rem k ds st).1).2.1.1))), (u2, .inl (dA, 32, .inl (((rj_join (rx_trav he.1 he.2.1 he.2.2.1 he.2.2.2) (rd_meet now r) rd_ch r fx rem k ds st).1).2.1.2.1))), (u3, .inl (dA, 32, .inl (((rj_join (rx_trav he.1 he.2.1 he.2.2.1 he.2.2.2) (rd_meet now r) rd_ch r fx rem k ds st).1).2.1.2.2.1))), (qk, .inl (dA, 400, .inl ((rj_join (rx_trav he.1 he.2.1 he.2.2.1 he.2.2.2) (rd_meet now r) rd_ch r fx rem k ds st).1).2.2.1)), (qr, .inl (dA, 400, .inl ((rj_join (rx_trav he.1 he.2.1 he.2.2.1 he.2.2.2) (rd_meet now r) rd_ch r fx rem k ds st).1).2.2.2.1))]) (va_A [(d0, .inr (2, [.ref aT, .ref qc, .ref aU, .ref qk, .ref qr, .int (nI now), .int (nI st.2.2.2.2.1), .int (rb_z st.2.2.2.2.2)])), (qc, .inl (dA, 4, .inl st.1)), (aT, .inr (1, [.ref t1, .ref t2, .ref t3, .int he.2.2.2])), (t1, .inl (dA, 1024, .inl he.1)), (t2, .inl (dA, 32, .inl he.2.1)), (t3, .inl (dA, 32, .inl he.2.2.1)), (aU, .inr (1, [.ref u1, .ref u2, .ref u3, .int st.2.1.2.2.2])), (u1, .inl (dA, 1024, .inl st.2.1.1)), (u2, .inl (dA, 32, .inl st.2.1.2.1)), (u3, .inl (dA, 32, .inl st.2.1.2.2.1)), (qk, .inl (dA, 400, .inl st.2.2.1)), (qr, .inl (dA, 400, .inl st.2.2.2.1))] sz)) 0 0 (va_A [(d0, .inr (2, [.ref aT, .ref qc, .ref aU, .ref qk, .ref qr, .int (nI now), .int (nI st.2.2.2.2.1), .int (rb_z st.2.2.2.2.2)])), (qc, .inl (dA, 4, .inl st.1)), (aT, .inr (1, [.ref t1, .ref t2, .ref t3, .int he.2.2.2])), (t1, .inl (dA, 1024, .inl he.1)), (t2, .inl (dA, 32, .inl he.2.1)), (t3, .inl (dA, 32, .inl he.2.2.1)), (aU, .inr (1, [.ref u1, .ref u2, .ref u3, .int st.2.1.2.2.2])), (u1, .inl (dA, 1024, .inl st.2.1.1)), (u2, .inl (dA, 32, .inl st.2.1.2.1)), (u3, .inl (dA, 32, .inl st.2.1.2.2.1)), (qk, .inl (dA, 400, .inl st.2.2.1)), (qr, .inl (dA, 400, .inl st.2.2.2.1))] sz) := by
  intro rem
  induction rem with
  | zero => intro dC dI dA tP tG tC d0 qc aT t1 t2 t3 aU u1 u2 u3 qk qr he now r k fx ds st sz hr0 hfx hd hcnt hcov hk; exact c_Ma_joinD0 l dC dI dA tP tG tC d0 qc aT t1 t2 t3 aU u1 u2 u3 qk qr he now r k fx ds st sz hr0 hfx hd hcnt hcov hk
  | succ rem ih => exact c_Ma_joinDs l (3 + rem) rem (by omega) ih

set_option maxHeartbeats 4000000 in
set_option maxRecDepth 100000 in
theorem c_Ma_joinS0 (l : Launch) (dC : Nat → ClassId) (dI : Nat → Nat → Nat) (dA : ClassId) (tP tG tC s0 qc aT t1 t2 t3 : Nat) (he : sT) (r k : Nat) (wt : Int32) (fx : Option Nat) (ds : List Nat) (st : sS) (sz : Nat) (hr0 : r < 24) (hfx : ∀ u, fx = some u → u < 4) (hd : rt_ok ds) (hk : k = rq_cnts.getD r 0) : Met l y_Ma_join (w_ y_Ma_join b_Ma_join 21 (some .boolean)) (rm_ 3) (va_Pc [.ref s0, .int (nI r), .int (nI k), .int (rt_i fx), .long (lN (rt_pk ds))] (fun U => U.heap.size = sz ∧ va_P (dC, dI) classes [(s0, .inr (3, [.ref aT, .ref qc, .int wt, .int st.2.1, .int st.2.2])), (qc, .inl (dA, 4, .inl st.1)), (aT, .inr (1, [.ref t1, .ref t2, .ref t3, .int he.2.2.2])), (t1, .inl (dA, 1024, .inl he.1)), (t2, .inl (dA, 32, .inl he.2.1)), (t3, .inl (dA, 32, .inl he.2.2.1))] U.heap ∧ va_K (dC, dI) classes [(dA, .int)] U ∧ va_D (fun _ => True) [(s0, .inr (3, [.ref aT, .ref qc, .int wt, .int st.2.1, .int st.2.2])), (qc, .inl (dA, 4, .inl st.1)), (aT, .inr (1, [.ref t1, .ref t2, .ref t3, .int he.2.2.2])), (t1, .inl (dA, 1024, .inl he.1)), (t2, .inl (dA, 32, .inl he.2.1)), (t3, .inl (dA, 32, .inl he.2.2.1))] ∧ rn_ U ∧ rz_ tP tG tC (va_A [(s0, .inr (3, [.ref aT, .ref qc, .int wt, .int st.2.1, .int st.2.2])), (qc, .inl (dA, 4, .inl st.1)), (aT, .inr (1, [.ref t1, .ref t2, .ref t3, .int he.2.2.2])), (t1, .inl (dA, 1024, .inl he.1)), (t2, .inl (dA, 32, .inl he.2.1)), (t3, .inl (dA, 32, .inl he.2.2.1))] sz) U)) (va_Qi (fun (z9 : Int32) (_ : Unit) => z9 = rb_z (rj_join (rx_trav he.1 he.2.1 he.2.2.1 he.2.2.2) (rs_meet wt r) rs_ch r fx 0 k ds st).2) (fun (_ : Unit) t => va_P (dC, dI) classes [(s0, .inr (3, [.ref aT, .ref qc, .int wt, .int ((rj_join (rx_trav he.1 he.2.1 he.2.2.1 he.2.2.2) (rs_meet wt r) rs_ch r fx 0 k ds st).1).2.1, .int ((rj_join (rx_trav he.1 he.2.1 he.2.2.1 he.2.2.2) (rs_meet wt r) rs_ch r fx 0 k ds st).1).2.2])), (qc, .inl (dA, 4, .inl ((rj_join (rx_trav he.1 he.2.1 he.2.2.1 he.2.2.2) (rs_meet wt r) rs_ch r fx 0 k ds st).1).1)), (aT, .inr (1, [.ref t1, .ref t2, .ref t3, .int he.2.2.2])), (t1, .inl (dA, 1024, .inl he.1)), (t2, .inl (dA, 32, .inl he.2.1)), (t3, .inl (dA, 32, .inl he.2.2.1))] t.heap ∧ va_D (va_A [(s0, .inr (3, [.ref aT, .ref qc, .int wt, .int st.2.1, .int st.2.2])), (qc, .inl (dA, 4, .inl st.1)), (aT, .inr (1, [.ref t1, .ref t2, .ref t3, .int he.2.2.2])), (t1, .inl (dA, 1024, .inl he.1)), (t2, .inl (dA, 32, .inl he.2.1)), (t3, .inl (dA, 32, .inl he.2.2.1))] sz) [(s0, .inr (3, [.ref aT, .ref qc, .int wt, .int ((rj_join (rx_trav he.1 he.2.1 he.2.2.1 he.2.2.2) (rs_meet wt r) rs_ch r fx 0 k ds st).1).2.1, .int ((rj_join (rx_trav he.1 he.2.1 he.2.2.1 he.2.2.2) (rs_meet wt r) rs_ch r fx 0 k ds st).1).2.2])), (qc, .inl (dA, 4, .inl ((rj_join (rx_trav he.1 he.2.1 he.2.2.1 he.2.2.2) (rs_meet wt r) rs_ch r fx 0 k ds st).1).1)), (aT, .inr (1, [.ref t1, .ref t2, .ref t3, .int he.2.2.2])), (t1, .inl (dA, 1024, .inl he.1)), (t2, .inl (dA, 32, .inl he.2.1)), (t3, .inl (dA, 32, .inl he.2.2.1))]) (va_A [(s0, .inr (3, [.ref aT, .ref qc, .int wt, .int st.2.1, .int st.2.2])), (qc, .inl (dA, 4, .inl st.1)), (aT, .inr (1, [.ref t1, .ref t2, .ref t3, .int he.2.2.2])), (t1, .inl (dA, 1024, .inl he.1)), (t2, .inl (dA, 32, .inl he.2.1)), (t3, .inl (dA, 32, .inl he.2.2.1))] sz)) 0 0 (va_A [(s0, .inr (3, [.ref aT, .ref qc, .int wt, .int st.2.1, .int st.2.2])), (qc, .inl (dA, 4, .inl st.1)), (aT, .inr (1, [.ref t1, .ref t2, .ref t3, .int he.2.2.2])), (t1, .inl (dA, 1024, .inl he.1)), (t2, .inl (dA, 32, .inl he.2.1)), (t3, .inl (dA, 32, .inl he.2.2.1))] sz) := by
  refine Met.ofW (cc := b_Ma_join) (maxL := 21) (ret := (some .boolean)) (by decide) rfl ?_
  have hcl := rq_cnts_le r (by omega)
  intro p e s m args below meth c s₁ B hml hv
  obtain ⟨rfl, hsz, hP, hK, hD0, hN, hZ⟩ := hv
  have hx := B.exec
  have hb := B.bytes
  have hr := B.returns
  have hts := atoms_spec (ws := (w_ y_Ma_join b_Ma_join 21 (some .boolean))) B.pre
  have hown : s.vm.findClass R_Ma = some m.cls := findClass_of_methodNamed B.named
  have hlocks := B.notSynchronized
  subst hsz
  have hD := hD0.self (sz := s.heap.size)
  generalize hAe : va_A [(s0, .inr (3, [.ref aT, .ref qc, .int wt, .int st.2.1, .int st.2.2])), (qc, .inl (dA, 4, .inl st.1)), (aT, .inr (1, [.ref t1, .ref t2, .ref t3, .int he.2.2.2])), (t1, .inl (dA, 1024, .inl he.1)), (t2, .inl (dA, 32, .inl he.2.1)), (t3, .inl (dA, 32, .inl he.2.2.1))] s.heap.size = A at hD hZ ⊢
  have hA : ∀ q : Nat, s.heap.size ≤ q → A q := fun q h => by rw [← hAe]; exact Or.inr h
  have hS : va_S A s.heap s.heap [] := va_S.rf
  have hl := lv_entry ([.ref s0, .int (nI r), .int (nI k), .int (rt_i fx), .long (lN (rt_pk ds))]) (n := 21) (Nat.le_of_ble_eq_true rfl)
  rw [lg_entry_eq]
  generalize (lg_sl ([.ref s0, .int (nI r), .int (nI k), .int (rt_i fx), .long (lN (rt_pk ds))]) ++ List.replicate (21 - (lg_sl ([.ref s0, .int (nI r), .int (nI k), .int (rt_i fx), .long (lN (rt_pk ds))])).length) Slot.unset).toArray = ls at hl ⊢
  have hl : lv_has ls 21 [(0, .ref s0), (1, .int (nI r)), (2, .int (nI k)), (3, .int (rt_i fx)), (4, .long (lN (rt_pk ds)))] := hl
  refine lv_iload_n hx hb d_Ma_join_0 rfl (lv_at hl 2 rfl) ?_
  refine lv_iload_n hx hb d_Ma_join_1 rfl (lv_at hl 1 rfl) ?_
  refine rv_calli (r := nI (rq_cnts.getD r 0)) (va_runS (As := [.int (nI r)]) (rest := [.int (nI k)]) ⟨hx, hb, hml, hown, hts⟩ (c_Tb_premiseCount l tP tG tC r (by omega)) (va_cwS 1 hts (rg_S (rg3 m_223 m_204 m_8) k_Tb_premiseCount) rfl rfl rfl (by decide +kernel) ⟨Nat.le_of_ble_eq_true rfl, Nat.le_of_ble_eq_true rfl⟩) ⟨fun a U g mk q => ⟨q.1, rz_same q.2⟩, fun U hU hW => ⟨rfl, rz_at hZ hS hU hW (fun _ h => h.elim)⟩⟩ rfl rfl hl.1 rfl (lv_room (Nat.le_of_ble_eq_true rfl)) d_Ma_join_2 ⟨Nat.zero_le _, Nat.zero_le _⟩) hS (fun _ h => h.elim) (fun H locs hk hS => ?_)
  have hP := rv_kept hP hk
  refine rv_icmp_ge (tgt := 13) hx hb d_Ma_join_5 (by decide) (by omega) (by omega) (fun c_5 => ?_) (fun c_5 => absurd c_5 (by omega))
  refine lv_aload_n hx hb d_Ma_join_13 rfl (lv_at hl 0 rfl) ?_
  refine lv_iload_n hx hb d_Ma_join_14 rfl (lv_at hl 1 rfl) ?_
  refine lv_lload hx hb d_Ma_join_15 (lv_at hl 4 rfl) ?_
  have hPc := hP.sub (ws' := [(s0, .inr (3, [.ref aT, .ref qc, .int wt, .int st.2.1, .int st.2.2])), (qc, .inl (dA, 4, .inl st.1)), (aT, .inr (1, [.ref t1, .ref t2, .ref t3, .int he.2.2.2])), (t1, .inl (dA, 1024, .inl he.1)), (t2, .inl (dA, 32, .inl he.2.1)), (t3, .inl (dA, 32, .inl he.2.2.1))]) [0, 1, 2, 3, 4, 5] rfl
  have hDc := hD.sub (ws' := [(s0, .inr (3, [.ref aT, .ref qc, .int wt, .int st.2.1, .int st.2.2])), (qc, .inl (dA, 4, .inl st.1)), (aT, .inr (1, [.ref t1, .ref t2, .ref t3, .int he.2.2.2])), (t1, .inl (dA, 1024, .inl he.1)), (t2, .inl (dA, 32, .inl he.2.1)), (t3, .inl (dA, 32, .inl he.2.2.1))]) [0, 1, 2, 3, 4, 5] (by decide) rfl
  have hFc := va_free (wc := [(s0, .inr (3, [.ref aT, .ref qc, .int wt, .int st.2.1, .int st.2.2])), (qc, .inl (dA, 4, .inl st.1)), (aT, .inr (1, [.ref t1, .ref t2, .ref t3, .int he.2.2.2])), (t1, .inl (dA, 1024, .inl he.1)), (t2, .inl (dA, 32, .inl he.2.1)), (t3, .inl (dA, 32, .inl he.2.2.1))]) hD hS hA [0, 1, 2, 3, 4, 5] rfl
  refine va_calli (va_runU (As := [.int (nI r), .long (lN (rt_pk ds))]) (rest := []) ⟨hx, hb, hml, hown, hts⟩ (c_Se_meet l dC dI dA tP tG tC s0 qc aT t1 t2 t3 he r wt ds st H.size) (va_cwA (owner := "RlRounds$Matcher") 2 hts (rg_U (rg5 m_224 m_226 m_240 m_241 m_5) k_Se_meet) rfl rfl rfl (hN _ rn_6) (by decide +kernel) ⟨Nat.le_of_ble_eq_true rfl, Nat.le_of_ble_eq_true rfl⟩) ⟨fun a U g mk q => ⟨q.1, q.2.1, q.2.2.1, va_K.moved (u := U) (U := U.calling g mk a) (Vm.Alike.refl U.vm) q.2.2.2.1, q.2.2.2.2.1, rn_same (u := U) (U := U.calling g mk a) rfl q.2.2.2.2.2.1, rz_same q.2.2.2.2.2.2⟩, va_recv hK hPc (ci := 3) (q0 := 0) rfl rfl, fun U hU hW => ⟨rfl, by rw [hU], by rw [hU]; exact hPc, va_K.moved hW.alike hK, hDc.weaken (fun _ _ _ _ => trivial), rn_warm hW hN, rz_at hZ hS hU hW hFc⟩⟩ rfl rfl hl.1 rfl (lv_room (Nat.le_of_ble_eq_true rfl)) d_Ma_join_17 ⟨Nat.zero_le _, Nat.zero_le _⟩) hS (fun q _ h => hFc q h) hFc (fun r9 u t H1 locs ht hvm hw hB hz1 hk1 hS => ?_)
  subst hw
  obtain ⟨hP1, hD1⟩ := hB
  rw [ht] at hP1
  obtain ⟨hP, hD⟩ := va_join (wr := []) (w1 := [(s0, .inr (3, [.ref aT, .ref qc, .int wt, .int ((rs_meet wt r ds st).1).2.1, .int ((rs_meet wt r ds st).1).2.2])), (qc, .inl (dA, 4, .inl ((rs_meet wt r ds st).1).1)), (aT, .inr (1, [.ref t1, .ref t2, .ref t3, .int he.2.2.2])), (t1, .inl (dA, 1024, .inl he.1)), (t2, .inl (dA, 32, .inl he.2.1)), (t3, .inl (dA, 32, .inl he.2.2.1))]) hP hD [0, 1, 2, 3, 4, 5] [] rfl rfl (by decide) (by decide) hk1 hFc hP1 hD1
  clear hk1 hFc hPc hDc hP1 hD1
  generalize H1 = H at hP hS ⊢
  have hP : va_P (dC, dI) classes [(s0, .inr (3, [.ref aT, .ref qc, .int wt, .int ((rs_meet wt r ds st).1).2.1, .int ((rs_meet wt r ds st).1).2.2])), (qc, .inl (dA, 4, .inl ((rs_meet wt r ds st).1).1)), (aT, .inr (1, [.ref t1, .ref t2, .ref t3, .int he.2.2.2])), (t1, .inl (dA, 1024, .inl he.1)), (t2, .inl (dA, 32, .inl he.2.1)), (t3, .inl (dA, 32, .inl he.2.2.1))] H := hP.sub [0, 1, 2, 3, 4, 5] rfl
  have hD : va_D A [(s0, .inr (3, [.ref aT, .ref qc, .int wt, .int ((rs_meet wt r ds st).1).2.1, .int ((rs_meet wt r ds st).1).2.2])), (qc, .inl (dA, 4, .inl ((rs_meet wt r ds st).1).1)), (aT, .inr (1, [.ref t1, .ref t2, .ref t3, .int he.2.2.2])), (t1, .inl (dA, 1024, .inl he.1)), (t2, .inl (dA, 32, .inl he.2.1)), (t3, .inl (dA, 32, .inl he.2.2.1))] := hD.sub [0, 1, 2, 3, 4, 5] (by decide) rfl
  exact W.zret (v := rb_z (rs_meet wt r ds st).2) hx hb hr (rb_z_nar _) (fun t ht hW => ⟨⟨rb_z (rs_meet wt r ds st).2, (), rfl, rfl, by rw [ht]; exact hP, hD⟩, hS.F ht⟩) hS.2.2 d_Ma_join_20

set_option maxHeartbeats 4000000 in
set_option maxRecDepth 100000 in
theorem c_Ma_joinSs (l : Launch) (d rem : Nat) (hd3 : 3 ≤ d) (IH : ∀ (dC : Nat → ClassId) (dI : Nat → Nat → Nat) (dA : ClassId) (tP tG tC s0 qc aT t1 t2 t3 : Nat) (he : sT) (r k : Nat) (wt : Int32) (fx : Option Nat) (ds : List Nat) (st : sS) (sz : Nat) (hr0 : r < 24) (hfx : ∀ u, fx = some u → u < 4) (hd : rt_ok ds) (hk : k + rem = rq_cnts.getD r 0), Met l y_Ma_join (w_ y_Ma_join b_Ma_join 21 (some .boolean)) (rm_ d) (va_Pc [.ref s0, .int (nI r), .int (nI k), .int (rt_i fx), .long (lN (rt_pk ds))] (fun U => U.heap.size = sz ∧ va_P (dC, dI) classes [(s0, .inr (3, [.ref aT, .ref qc, .int wt, .int st.2.1, .int st.2.2])), (qc, .inl (dA, 4, .inl st.1)), (aT, .inr (1, [.ref t1, .ref t2, .ref t3, .int he.2.2.2])), (t1, .inl (dA, 1024, .inl he.1)), (t2, .inl (dA, 32, .inl he.2.1)), (t3, .inl (dA, 32, .inl he.2.2.1))] U.heap ∧ va_K (dC, dI) classes [(dA, .int)] U ∧ va_D (fun _ => True) [(s0, .inr (3, [.ref aT, .ref qc, .int wt, .int st.2.1, .int st.2.2])), (qc, .inl (dA, 4, .inl st.1)), (aT, .inr (1, [.ref t1, .ref t2, .ref t3, .int he.2.2.2])), (t1, .inl (dA, 1024, .inl he.1)), (t2, .inl (dA, 32, .inl he.2.1)), (t3, .inl (dA, 32, .inl he.2.2.1))] ∧ rn_ U ∧ rz_ tP tG tC (va_A [(s0, .inr (3, [.ref aT, .ref qc, .int wt, .int st.2.1, .int st.2.2])), (qc, .inl (dA, 4, .inl st.1)), (aT, .inr (1, [.ref t1, .ref t2, .ref t3, .int he.2.2.2])), (t1, .inl (dA, 1024, .inl he.1)), (t2, .inl (dA, 32, .inl he.2.1)), (t3, .inl (dA, 32, .inl he.2.2.1))] sz) U)) (va_Qi (fun (z9 : Int32) (_ : Unit) => z9 = rb_z (rj_join (rx_trav he.1 he.2.1 he.2.2.1 he.2.2.2) (rs_meet wt r) rs_ch r fx rem k ds st).2) (fun (_ : Unit) t => va_P (dC, dI) classes [(s0, .inr (3, [.ref aT, .ref qc, .int wt, .int ((rj_join (rx_trav he.1 he.2.1 he.2.2.1 he.2.2.2) (rs_meet wt r) rs_ch r fx rem k ds st).1).2.1, .int ((rj_join (rx_trav he.1 he.2.1 he.2.2.1 he.2.2.2) (rs_meet wt r) rs_ch r fx rem k ds st).1).2.2])), (qc, .inl (dA, 4, .inl ((rj_join (rx_trav he.1 he.2.1 he.2.2.1 he.2.2.2) (rs_meet wt r) rs_ch r fx rem k ds st).1).1)), (aT, .inr (1, [.ref t1, .ref t2, .ref t3, .int he.2.2.2])), (t1, .inl (dA, 1024, .inl he.1)), (t2, .inl (dA, 32, .inl he.2.1)), (t3, .inl (dA, 32, .inl he.2.2.1))] t.heap ∧ va_D (va_A [(s0, .inr (3, [.ref aT, .ref qc, .int wt, .int st.2.1, .int st.2.2])), (qc, .inl (dA, 4, .inl st.1)), (aT, .inr (1, [.ref t1, .ref t2, .ref t3, .int he.2.2.2])), (t1, .inl (dA, 1024, .inl he.1)), (t2, .inl (dA, 32, .inl he.2.1)), (t3, .inl (dA, 32, .inl he.2.2.1))] sz) [(s0, .inr (3, [.ref aT, .ref qc, .int wt, .int ((rj_join (rx_trav he.1 he.2.1 he.2.2.1 he.2.2.2) (rs_meet wt r) rs_ch r fx rem k ds st).1).2.1, .int ((rj_join (rx_trav he.1 he.2.1 he.2.2.1 he.2.2.2) (rs_meet wt r) rs_ch r fx rem k ds st).1).2.2])), (qc, .inl (dA, 4, .inl ((rj_join (rx_trav he.1 he.2.1 he.2.2.1 he.2.2.2) (rs_meet wt r) rs_ch r fx rem k ds st).1).1)), (aT, .inr (1, [.ref t1, .ref t2, .ref t3, .int he.2.2.2])), (t1, .inl (dA, 1024, .inl he.1)), (t2, .inl (dA, 32, .inl he.2.1)), (t3, .inl (dA, 32, .inl he.2.2.1))]) (va_A [(s0, .inr (3, [.ref aT, .ref qc, .int wt, .int st.2.1, .int st.2.2])), (qc, .inl (dA, 4, .inl st.1)), (aT, .inr (1, [.ref t1, .ref t2, .ref t3, .int he.2.2.2])), (t1, .inl (dA, 1024, .inl he.1)), (t2, .inl (dA, 32, .inl he.2.1)), (t3, .inl (dA, 32, .inl he.2.2.1))] sz)) 0 0 (va_A [(s0, .inr (3, [.ref aT, .ref qc, .int wt, .int st.2.1, .int st.2.2])), (qc, .inl (dA, 4, .inl st.1)), (aT, .inr (1, [.ref t1, .ref t2, .ref t3, .int he.2.2.2])), (t1, .inl (dA, 1024, .inl he.1)), (t2, .inl (dA, 32, .inl he.2.1)), (t3, .inl (dA, 32, .inl he.2.2.1))] sz)) (dC : Nat → ClassId) (dI : Nat → Nat → Nat) (dA : ClassId) (tP tG tC s0 qc aT t1 t2 t3 : Nat) (he : sT) (r k : Nat) (wt : Int32) (fx : Option Nat) (ds : List Nat) (st : sS) (sz : Nat) (hr0 : r < 24) (hfx : ∀ u, fx = some u → u < 4) (hd : rt_ok ds) (hk : k + (rem + 1) = rq_cnts.getD r 0) : Met l y_Ma_join (w_ y_Ma_join b_Ma_join 21 (some .boolean)) (rm_ (d + 1)) (va_Pc [.ref s0, .int (nI r), .int (nI k), .int (rt_i fx), .long (lN (rt_pk ds))] (fun U => U.heap.size = sz ∧ va_P (dC, dI) classes [(s0, .inr (3, [.ref aT, .ref qc, .int wt, .int st.2.1, .int st.2.2])), (qc, .inl (dA, 4, .inl st.1)), (aT, .inr (1, [.ref t1, .ref t2, .ref t3, .int he.2.2.2])), (t1, .inl (dA, 1024, .inl he.1)), (t2, .inl (dA, 32, .inl he.2.1)), (t3, .inl (dA, 32, .inl he.2.2.1))] U.heap ∧ va_K (dC, dI) classes [(dA, .int)] U ∧ va_D (fun _ => True) [(s0, .inr (3, [.ref aT, .ref qc, .int wt, .int st.2.1, .int st.2.2])), (qc, .inl (dA, 4, .inl st.1)), (aT, .inr (1, [.ref t1, .ref t2, .ref t3, .int he.2.2.2])), (t1, .inl (dA, 1024, .inl he.1)), (t2, .inl (dA, 32, .inl he.2.1)), (t3, .inl (dA, 32, .inl he.2.2.1))] ∧ rn_ U ∧ rz_ tP tG tC (va_A [(s0, .inr (3, [.ref aT, .ref qc, .int wt, .int st.2.1, .int st.2.2])), (qc, .inl (dA, 4, .inl st.1)), (aT, .inr (1, [.ref t1, .ref t2, .ref t3, .int he.2.2.2])), (t1, .inl (dA, 1024, .inl he.1)), (t2, .inl (dA, 32, .inl he.2.1)), (t3, .inl (dA, 32, .inl he.2.2.1))] sz) U)) (va_Qi (fun (z9 : Int32) (_ : Unit) => z9 = rb_z (rj_join (rx_trav he.1 he.2.1 he.2.2.1 he.2.2.2) (rs_meet wt r) rs_ch r fx (rem + 1) k ds st).2) (fun (_ : Unit) t => va_P (dC, dI) classes [(s0, .inr (3, [.ref aT, .ref qc, .int wt, .int ((rj_join (rx_trav he.1 he.2.1 he.2.2.1 he.2.2.2) (rs_meet wt r) rs_ch r fx (rem + 1) k ds st).1).2.1, .int ((rj_join (rx_trav he.1 he.2.1 he.2.2.1 he.2.2.2) (rs_meet wt r) rs_ch r fx (rem + 1) k ds st).1).2.2])), (qc, .inl (dA, 4, .inl ((rj_join (rx_trav he.1 he.2.1 he.2.2.1 he.2.2.2) (rs_meet wt r) rs_ch r fx (rem + 1) k ds st).1).1)), (aT, .inr (1, [.ref t1, .ref t2, .ref t3, .int he.2.2.2])), (t1, .inl (dA, 1024, .inl he.1)), (t2, .inl (dA, 32, .inl he.2.1)), (t3, .inl (dA, 32, .inl he.2.2.1))] t.heap ∧ va_D (va_A [(s0, .inr (3, [.ref aT, .ref qc, .int wt, .int st.2.1, .int st.2.2])), (qc, .inl (dA, 4, .inl st.1)), (aT, .inr (1, [.ref t1, .ref t2, .ref t3, .int he.2.2.2])), (t1, .inl (dA, 1024, .inl he.1)), (t2, .inl (dA, 32, .inl he.2.1)), (t3, .inl (dA, 32, .inl he.2.2.1))] sz) [(s0, .inr (3, [.ref aT, .ref qc, .int wt, .int ((rj_join (rx_trav he.1 he.2.1 he.2.2.1 he.2.2.2) (rs_meet wt r) rs_ch r fx (rem + 1) k ds st).1).2.1, .int ((rj_join (rx_trav he.1 he.2.1 he.2.2.1 he.2.2.2) (rs_meet wt r) rs_ch r fx (rem + 1) k ds st).1).2.2])), (qc, .inl (dA, 4, .inl ((rj_join (rx_trav he.1 he.2.1 he.2.2.1 he.2.2.2) (rs_meet wt r) rs_ch r fx (rem + 1) k ds st).1).1)), (aT, .inr (1, [.ref t1, .ref t2, .ref t3, .int he.2.2.2])), (t1, .inl (dA, 1024, .inl he.1)), (t2, .inl (dA, 32, .inl he.2.1)), (t3, .inl (dA, 32, .inl he.2.2.1))]) (va_A [(s0, .inr (3, [.ref aT, .ref qc, .int wt, .int st.2.1, .int st.2.2])), (qc, .inl (dA, 4, .inl st.1)), (aT, .inr (1, [.ref t1, .ref t2, .ref t3, .int he.2.2.2])), (t1, .inl (dA, 1024, .inl he.1)), (t2, .inl (dA, 32, .inl he.2.1)), (t3, .inl (dA, 32, .inl he.2.2.1))] sz)) 0 0 (va_A [(s0, .inr (3, [.ref aT, .ref qc, .int wt, .int st.2.1, .int st.2.2])), (qc, .inl (dA, 4, .inl st.1)), (aT, .inr (1, [.ref t1, .ref t2, .ref t3, .int he.2.2.2])), (t1, .inl (dA, 1024, .inl he.1)), (t2, .inl (dA, 32, .inl he.2.1)), (t3, .inl (dA, 32, .inl he.2.2.1))] sz) := by
  refine Met.ofW (cc := b_Ma_join) (maxL := 21) (ret := (some .boolean)) (by decide) rfl ?_
  have hcl := rq_cnts_le r (by omega)
  intro p e s m args below meth c s₁ B hml hv
  obtain ⟨rfl, hsz, hP, hK, hD0, hN, hZ⟩ := hv
  have hx := B.exec
  have hb := B.bytes
  have hr := B.returns
  have hts := atoms_spec (ws := (w_ y_Ma_join b_Ma_join 21 (some .boolean))) B.pre
  have hown : s.vm.findClass R_Ma = some m.cls := findClass_of_methodNamed B.named
  have hlocks := B.notSynchronized
  subst hsz
  have hD := hD0.self (sz := s.heap.size)
  generalize hAe : va_A [(s0, .inr (3, [.ref aT, .ref qc, .int wt, .int st.2.1, .int st.2.2])), (qc, .inl (dA, 4, .inl st.1)), (aT, .inr (1, [.ref t1, .ref t2, .ref t3, .int he.2.2.2])), (t1, .inl (dA, 1024, .inl he.1)), (t2, .inl (dA, 32, .inl he.2.1)), (t3, .inl (dA, 32, .inl he.2.2.1))] s.heap.size = A at hD hZ ⊢
  have hA : ∀ q : Nat, s.heap.size ≤ q → A q := fun q h => by rw [← hAe]; exact Or.inr h
  have hS : va_S A s.heap s.heap [] := va_S.rf
  have hl := lv_entry ([.ref s0, .int (nI r), .int (nI k), .int (rt_i fx), .long (lN (rt_pk ds))]) (n := 21) (Nat.le_of_ble_eq_true rfl)
  rw [lg_entry_eq]
  generalize (lg_sl ([.ref s0, .int (nI r), .int (nI k), .int (rt_i fx), .long (lN (rt_pk ds))]) ++ List.replicate (21 - (lg_sl ([.ref s0, .int (nI r), .int (nI k), .int (rt_i fx), .long (lN (rt_pk ds))])).length) Slot.unset).toArray = ls at hl ⊢
  have hl : lv_has ls 21 [(0, .ref s0), (1, .int (nI r)), (2, .int (nI k)), (3, .int (rt_i fx)), (4, .long (lN (rt_pk ds)))] := hl
  refine lv_iload_n hx hb d_Ma_join_0 rfl (lv_at hl 2 rfl) ?_
  refine lv_iload_n hx hb d_Ma_join_1 rfl (lv_at hl 1 rfl) ?_
  refine rv_calli (r := nI (rq_cnts.getD r 0)) (va_runS (As := [.int (nI r)]) (rest := [.int (nI k)]) ⟨hx, hb, hml, hown, hts⟩ (c_Tb_premiseCount l tP tG tC r (by omega)) (va_cwS 1 hts (rg_S (rg3 m_223 m_204 m_8) k_Tb_premiseCount) rfl rfl rfl (by decide +kernel) ⟨by show 0 + 1 ≤ d + 1; omega, by show 8 + (1 + 11) + 64 * 0 ≤ 64 * (d + 1); omega⟩) ⟨fun a U g mk q => ⟨q.1, rz_same q.2⟩, fun U hU hW => ⟨rfl, rz_at hZ hS hU hW (fun _ h => h.elim)⟩⟩ rfl rfl hl.1 rfl (lv_room (Nat.le_of_ble_eq_true rfl)) d_Ma_join_2 ⟨Nat.zero_le _, Nat.zero_le _⟩) hS (fun _ h => h.elim) (fun H locs hk hS => ?_)
  have hP := rv_kept hP hk
  refine rv_icmp_ge (tgt := 13) hx hb d_Ma_join_5 (by decide) (by omega) (by omega) (fun c_5 => absurd c_5 (by omega)) (fun c_5 => ?_)
  refine lv_iload_n hx hb d_Ma_join_8 rfl (lv_at hl 2 rfl) ?_
  refine lv_iconst (v := nI 4) hx hb d_Ma_join_9 (by decide) ?_
  refine rv_icmp_lt (tgt := 21) hx hb d_Ma_join_10 (by decide) (by omega) (by omega) (fun c_10 => ?_) (fun c_10 => absurd c_10 (by omega))
  refine lv_iload_n hx hb d_Ma_join_21 rfl (lv_at hl 2 rfl) ?_
  refine lv_iload_n hx hb d_Ma_join_22 rfl (lv_at hl 3 rfl) ?_
  refine lv_icmp_ne (tgt := 38) hx hb d_Ma_join_23 (by decide) (fun c_23 => ?_) (fun c_23 => ?_)
  · refine lv_iload_n hx hb d_Ma_join_38 rfl (lv_at hl 1 rfl) ?_
    refine lv_iload_n hx hb d_Ma_join_39 rfl (lv_at hl 2 rfl) ?_
    refine rv_calli (r := nI (12 * r + 3 * k)) (va_runS (As := [.int (nI r), .int (nI k)]) (rest := []) ⟨hx, hb, hml, hown, hts⟩ (c_Tb_premiseAt l r k) (va_cwS 2 hts (rg_S (rg3 m_244 m_191 m_8) k_Tb_premiseAt) rfl rfl rfl (by decide +kernel) ⟨by show 0 + 1 ≤ d + 1; omega, by show 8 + (2 + 11) + 64 * 0 ≤ 64 * (d + 1); omega⟩) ⟨fun _ _ _ _ q => q, fun U hU hW => ⟨rfl, trivial⟩⟩ rfl rfl hl.1 rfl (lv_room (Nat.le_of_ble_eq_true rfl)) d_Ma_join_40 ⟨Nat.zero_le _, Nat.zero_le _⟩) hS (fun _ h => h.elim) (fun H locs hk hS => ?_)
    have hP := rv_kept hP hk
    refine lv_istore (lv' := [(6, .int (nI (12 * r + 3 * k))), (0, .ref s0), (1, .int (nI r)), (2, .int (nI k)), (3, .int (rt_i fx)), (4, .long (lN (rt_pk ds)))]) hx hb d_Ma_join_43 hl (by decide) rfl (fun ls hl => ?_)
    refine va_gets hx hb hZ.1.1 hS hown (hts _ (List.mem_cons_of_mem _ m_245)) (fun _ h9 => h9) d_Ma_join_45 ?_
    refine lv_iload hx hb d_Ma_join_48 (lv_at hl 0 rfl) ?_
    refine rv_ti (k := (12 * r + 3 * k)) hx hb hZ.1.2 hS (by omega) (by decide) (v := .int (nI (rq_prem.getD (12 * r + 3 * k) 0))) rfl d_Ma_join_50 ?_
    refine lv_lload hx hb d_Ma_join_51 (lv_at hl 5 rfl) ?_
    refine rv_calli (r := rt_i (rt_term (rq_prem.getD (12 * r + 3 * k) 0) ds)) (va_runS (As := [.int (nI (rq_prem.getD (12 * r + 3 * k) 0)), .long (lN (rt_pk ds))]) (rest := []) ⟨hx, hb, hml, hown, hts⟩ (c_Le_termOf l (rq_prem.getD (12 * r + 3 * k) 0) ds (rq_prem_lt _) (hd)) (va_cwS 2 hts (rg_S (rg3 m_246 m_216 m_9) k_Le_termOf) rfl rfl rfl (by decide +kernel) ⟨by show 0 + 1 ≤ d + 1; omega, by show 8 + (3 + 11) + 64 * 0 ≤ 64 * (d + 1); omega⟩) ⟨fun _ _ _ _ q => q, fun U hU hW => ⟨rfl, trivial⟩⟩ rfl rfl hl.1 rfl (lv_room (Nat.le_of_ble_eq_true rfl)) d_Ma_join_53 ⟨Nat.zero_le _, Nat.zero_le _⟩) hS (fun _ h => h.elim) (fun H locs hk hS => ?_)
    have hP := rv_kept hP hk
    obtain ⟨kS, ekS⟩ : ∃ x, x = rt_term (rq_prem.getD (12 * r + 3 * k) 0) ds := ⟨_, rfl⟩
    have hkS : ∀ x, kS = some x → x < 32 := fun x hx => rt_term_lt hd (ekS.symm.trans hx)
    refine rv_eq (y := rt_i kS) (by rw [ekS]) ?_
    refine lv_istore (lv' := [(7, .int (rt_i kS)), (6, .int (nI (12 * r + 3 * k))), (0, .ref s0), (1, .int (nI r)), (2, .int (nI k)), (3, .int (rt_i fx)), (4, .long (lN (rt_pk ds)))]) hx hb d_Ma_join_56 hl (by decide) rfl (fun ls hl => ?_)
    refine va_gets hx hb hZ.1.1 hS hown (hts _ (List.mem_cons_of_mem _ m_245)) (fun _ h9 => h9) d_Ma_join_58 ?_
    refine lv_iload hx hb d_Ma_join_61 (lv_at hl 1 rfl) ?_
    refine lv_iconst (v := nI 1) hx hb d_Ma_join_63 (by decide) ?_
    refine rv_iadd hx hb d_Ma_join_64 ?_
    refine rv_ti (k := ((12 * r + 3 * k) + 1)) hx hb hZ.1.2 hS (by omega) (by decide) (v := .int (nI (rq_prem.getD ((12 * r + 3 * k) + 1) 0))) rfl d_Ma_join_65 ?_
    refine lv_lload hx hb d_Ma_join_66 (lv_at hl 6 rfl) ?_
    refine rv_calli (r := rt_i (rt_term (rq_prem.getD ((12 * r + 3 * k) + 1) 0) ds)) (va_runS (As := [.int (nI (rq_prem.getD ((12 * r + 3 * k) + 1) 0)), .long (lN (rt_pk ds))]) (rest := []) ⟨hx, hb, hml, hown, hts⟩ (c_Le_termOf l (rq_prem.getD ((12 * r + 3 * k) + 1) 0) ds (rq_prem_lt _) (hd)) (va_cwS 2 hts (rg_S (rg3 m_246 m_216 m_9) k_Le_termOf) rfl rfl rfl (by decide +kernel) ⟨by show 0 + 1 ≤ d + 1; omega, by show 8 + (3 + 11) + 64 * 0 ≤ 64 * (d + 1); omega⟩) ⟨fun _ _ _ _ q => q, fun U hU hW => ⟨rfl, trivial⟩⟩ rfl rfl hl.1 rfl (lv_room (Nat.le_of_ble_eq_true rfl)) d_Ma_join_68 ⟨Nat.zero_le _, Nat.zero_le _⟩) hS (fun _ h => h.elim) (fun H locs hk hS => ?_)
    have hP := rv_kept hP hk
    obtain ⟨kP, ekP⟩ : ∃ x, x = rt_term (rq_prem.getD (12 * r + 3 * k + 1) 0) ds := ⟨_, rfl⟩
    have hkP : ∀ x, kP = some x → x < 32 := fun x hx => rt_term_lt hd (ekP.symm.trans hx)
    refine rv_eq (y := rt_i kP) (by rw [ekP]) ?_
    refine lv_istore (lv' := [(8, .int (rt_i kP)), (7, .int (rt_i kS)), (6, .int (nI (12 * r + 3 * k))), (0, .ref s0), (1, .int (nI r)), (2, .int (nI k)), (3, .int (rt_i fx)), (4, .long (lN (rt_pk ds)))]) hx hb d_Ma_join_71 hl (by decide) rfl (fun ls hl => ?_)
    refine va_gets hx hb hZ.1.1 hS hown (hts _ (List.mem_cons_of_mem _ m_245)) (fun _ h9 => h9) d_Ma_join_73 ?_
    refine lv_iload hx hb d_Ma_join_76 (lv_at hl 2 rfl) ?_
    refine lv_iconst (v := nI 2) hx hb d_Ma_join_78 (by decide) ?_
    refine rv_iadd hx hb d_Ma_join_79 ?_
    refine rv_ti (k := ((12 * r + 3 * k) + 2)) hx hb hZ.1.2 hS (by omega) (by decide) (v := .int (nI (rq_prem.getD ((12 * r + 3 * k) + 2) 0))) rfl d_Ma_join_80 ?_
    refine lv_lload hx hb d_Ma_join_81 (lv_at hl 7 rfl) ?_
    refine rv_calli (r := rt_i (rt_term (rq_prem.getD ((12 * r + 3 * k) + 2) 0) ds)) (va_runS (As := [.int (nI (rq_prem.getD ((12 * r + 3 * k) + 2) 0)), .long (lN (rt_pk ds))]) (rest := []) ⟨hx, hb, hml, hown, hts⟩ (c_Le_termOf l (rq_prem.getD ((12 * r + 3 * k) + 2) 0) ds (rq_prem_lt _) (hd)) (va_cwS 2 hts (rg_S (rg3 m_246 m_216 m_9) k_Le_termOf) rfl rfl rfl (by decide +kernel) ⟨by show 0 + 1 ≤ d + 1; omega, by show 8 + (3 + 11) + 64 * 0 ≤ 64 * (d + 1); omega⟩) ⟨fun _ _ _ _ q => q, fun U hU hW => ⟨rfl, trivial⟩⟩ rfl rfl hl.1 rfl (lv_room (Nat.le_of_ble_eq_true rfl)) d_Ma_join_83 ⟨Nat.zero_le _, Nat.zero_le _⟩) hS (fun _ h => h.elim) (fun H locs hk hS => ?_)
    have hP := rv_kept hP hk
    obtain ⟨kO, ekO⟩ : ∃ x, x = rt_term (rq_prem.getD (12 * r + 3 * k + 2) 0) ds := ⟨_, rfl⟩
    have hkO : ∀ x, kO = some x → x < 32 := fun x hx => rt_term_lt hd (ekO.symm.trans hx)
    refine rv_eq (y := rt_i kO) (by rw [ekO]) ?_
    refine lv_istore (lv' := [(9, .int (rt_i kO)), (8, .int (rt_i kP)), (7, .int (rt_i kS)), (6, .int (nI (12 * r + 3 * k))), (0, .ref s0), (1, .int (nI r)), (2, .int (nI k)), (3, .int (rt_i fx)), (4, .long (lN (rt_pk ds)))]) hx hb d_Ma_join_86 hl (by decide) rfl (fun ls hl => ?_)
    refine lv_aload_n hx hb d_Ma_join_88 rfl (lv_at hl 4 rfl) ?_
    refine va_get (D := (dC, dI)) (ci := 3) (v := .ref aT) (C := R_Se) (T := F_Se) (N := 5) hx hb hts (rg_c i_Se) hown hK hP 0 rfl rfl 0 (by decide) (hts _ (List.mem_cons_of_mem _ m_60)) (fun _ h9 => h9) rfl d_Ma_join_89 ?_
    refine lv_iload hx hb d_Ma_join_92 (lv_at hl 2 rfl) ?_
    refine lv_iload hx hb d_Ma_join_94 (lv_at hl 1 rfl) ?_
    refine rv_calli (r := rx_ss he.2.1 he.2.2.2 kS kP) (va_runV (As := [.int (rt_i kS), .int (rt_i kP)]) (rest := []) ⟨hx, hb, hml, hown, hts⟩ (c_Tr_subjectsFor l dC dI dA aT t1 t2 t3 he.1 he.2.1 he.2.2.1 he.2.2.2 kS kP (hkS) (hkP)) (cwV 2 hts (rg_V (rg4 m_247 m_194 m_195 m_2) k_Tr_subjectsFor) rfl rfl rfl (by decide +kernel) ⟨by show 1 + 1 ≤ d + 1; omega, by show 8 + (3 + 11) + 64 * 1 ≤ 64 * (d + 1); omega⟩) ⟨fun a U g mk q => ⟨q.1, va_K.moved (u := U) (U := U.calling g mk a) (Vm.Alike.refl U.vm) q.2.1, q.2.2.1, rn_same (u := U) (U := U.calling g mk a) rfl q.2.2.2⟩, va_recv hK hP (ci := 1) (q0 := 2) rfl rfl, fun U hU hW => ⟨rfl, va_K.moved hW.alike hK, by rw [hU]; exact hP.sub (ws' := [(aT, .inr (1, [.ref t1, .ref t2, .ref t3, .int he.2.2.2])), (t1, .inl (dA, 1024, .inl he.1)), (t2, .inl (dA, 32, .inl he.2.1)), (t3, .inl (dA, 32, .inl he.2.2.1))]) [2, 3, 4, 5] rfl, rn_warm hW hN⟩⟩ rfl rfl hl.1 rfl (lv_room (Nat.le_of_ble_eq_true rfl)) d_Ma_join_96 ⟨Nat.zero_le _, Nat.zero_le _⟩) hS (fun _ h => h.elim) (fun H locs hk hS => ?_)
    have hP := rv_kept hP hk
    refine lv_istore (lv' := [(10, .int (rx_ss he.2.1 he.2.2.2 kS kP)), (9, .int (rt_i kO)), (8, .int (rt_i kP)), (7, .int (rt_i kS)), (6, .int (nI (12 * r + 3 * k))), (0, .ref s0), (1, .int (nI r)), (2, .int (nI k)), (3, .int (rt_i fx)), (4, .long (lN (rt_pk ds)))]) hx hb d_Ma_join_99 hl (by decide) rfl (fun ls hl => ?_)
    refine lv_iload hx hb d_Ma_join_101 (lv_at hl 0 rfl) ?_
    refine rv_calli (r := nI (rb_cnt (rx_ss he.2.1 he.2.2.2 kS kP))) (va_runS (As := [.int (rx_ss he.2.1 he.2.2.2 kS kP)]) (rest := []) ⟨hx, hb, hml, hown, hts⟩ (c_Ig_bitCount l (rx_ss he.2.1 he.2.2.2 kS kP)) (va_cwS 1 hts (rg_S (rg3 m_248 m_249 m_10) k_Ig_bitCount) rfl rfl rfl (by decide +kernel) ⟨by show 0 + 1 ≤ d + 1; omega, by show 8 + (1 + 11) + 64 * 0 ≤ 64 * (d + 1); omega⟩) ⟨fun _ _ _ _ q => q, fun U hU hW => ⟨rfl, trivial⟩⟩ rfl rfl hl.1 rfl (lv_room (Nat.le_of_ble_eq_true rfl)) d_Ma_join_103 ⟨Nat.zero_le _, Nat.zero_le _⟩) hS (fun _ h => h.elim) (fun H locs hk hS => ?_)
    have hP := rv_kept hP hk
    refine lv_istore (lv' := [(11, .int (nI (rb_cnt (rx_ss he.2.1 he.2.2.2 kS kP)))), (10, .int (rx_ss he.2.1 he.2.2.2 kS kP)), (9, .int (rt_i kO)), (8, .int (rt_i kP)), (7, .int (rt_i kS)), (6, .int (nI (12 * r + 3 * k))), (0, .ref s0), (1, .int (nI r)), (2, .int (nI k)), (3, .int (rt_i fx)), (4, .long (lN (rt_pk ds)))]) hx hb d_Ma_join_106 hl (by decide) rfl (fun ls hl => ?_)
    have hfk : ¬ fx = some k := fun e => c_23 ((rj_term_i (by omega) (fun u hu => by have := hfx u hu; omega)).mpr e)
    obtain ⟨RES, hRES⟩ : ∃ R, R = rj_join (rx_trav he.1 he.2.1 he.2.2.1 he.2.2.2) (rs_meet wt r) rs_ch r fx (rem + 1) k ds st := ⟨_, rfl⟩
    have hR0 : rj_fold (rj_body rs_ch r k ds (rj_join (rx_trav he.1 he.2.1 he.2.2.1 he.2.2.2) (rs_meet wt r) rs_ch r fx rem (k + 1))) st ((rb_els (rx_ss he.2.1 he.2.2.2 kS kP)).flatMap (fun s => (rb_els (rx_ps he.2.2.1 s kP)).flatMap (fun p => (rb_els (rx_os he.1 s p kO)).map (fun o => rx_code s p o)))) = RES := by
      rw [hRES, ekS, ekP, ekO]
      show _ = if fx = some k then _ else _
      rw [if_neg hfk]
      rfl
    rw [← hRES]
    clear hRES
    refine rv_Q (fun Q hQ => ?_)
    have lp1 : ∀ (n : Nat) (x1 : Int32) (st : sS) (H : Heap) (locs : List Loc) (ls : Array Slot), rb_cnt x1 = n → rj_fold (rj_body rs_ch r k ds (rj_join (rx_trav he.1 he.2.1 he.2.2.1 he.2.2.2) (rs_meet wt r) rs_ch r fx rem (k + 1))) st ((rb_els x1).flatMap (fun s => (rb_els (rx_ps he.2.2.1 s kP)).flatMap (fun p => (rb_els (rx_os he.1 s p kO)).map (fun o => rx_code s p o)))) = RES → va_P (dC, dI) classes [(s0, .inr (3, [.ref aT, .ref qc, .int wt, .int st.2.1, .int st.2.2])), (qc, .inl (dA, 4, .inl st.1)), (aT, .inr (1, [.ref t1, .ref t2, .ref t3, .int he.2.2.2])), (t1, .inl (dA, 1024, .inl he.1)), (t2, .inl (dA, 32, .inl he.2.1)), (t3, .inl (dA, 32, .inl he.2.2.1))] H → va_D A [(s0, .inr (3, [.ref aT, .ref qc, .int wt, .int st.2.1, .int st.2.2])), (qc, .inl (dA, 4, .inl st.1)), (aT, .inr (1, [.ref t1, .ref t2, .ref t3, .int he.2.2.2])), (t1, .inl (dA, 1024, .inl he.1)), (t2, .inl (dA, 32, .inl he.2.1)), (t3, .inl (dA, 32, .inl he.2.2.1))] → va_S A s.heap H locs → lv_has ls 21 [(11, .int (nI n)), (10, .int x1), (0, .ref s0), (1, .int (nI r)), (2, .int (nI k)), (3, .int (rt_i fx)), (4, .long (lN (rt_pk ds))), (6, .int (nI (12 * r + 3 * k))), (8, .int (rt_i kP)), (9, .int (rt_i kO))] → W p l e (headSpec (w_ y_Ma_join b_Ma_join 21 (some .boolean)) (rm_ (d + 1))).room s m ([.ref s0, .int (nI r), .int (nI k), .int (rt_i fx), .long (lN (rt_pk ds))] : List Value).toArray below meth c H locs 0 0 Q (F0 m 108 ls []) := by
      intro n
      induction n with
      | zero =>
        intro x1 st H locs ls hn1 hR hP hD hS hl
        rw [rj_cnt_zero hn1] at hR
        refine lv_iload hx hb d_Ma_join_108 (lv_at hl 0 rfl) ?_
        refine rv_if_le (tgt := 279) hx hb d_Ma_join_110 (by decide) (by omega) (fun c_110 => ?_) (fun c_110 => absurd c_110 (by omega))
        refine lv_iconst (v := nI 0) hx hb d_Ma_join_279 (by decide) ?_
        subst hQ
        exact W.zret (v := nI 0) hx hb hr (by rfl) (fun t ht hW => ⟨⟨nI 0, (), rfl, by rw [← hR]; rfl, by rw [ht]; rw [← hR]; exact hP, by rw [← hR]; exact hD⟩, hS.F ht⟩) hS.2.2 d_Ma_join_280
      | succ n ih =>
        intro x1 st H locs ls hn1 hR hP hD hS hl
        have hcl1 := rb_cnt_le x1
        obtain ⟨s1, l1, hl1, hs1, hs32, hr1, hc1⟩ := rj_cnt_pos hn1
        rw [hl1, List.flatMap_cons, ← hr1] at hR
        refine lv_iload hx hb d_Ma_join_108 (lv_at hl 0 rfl) ?_
        refine rv_if_le (tgt := 279) hx hb d_Ma_join_110 (by decide) (by omega) (fun c_110 => absurd c_110 (by omega)) (fun c_110 => ?_)
        refine lv_iload hx hb d_Ma_join_113 (lv_at hl 1 rfl) ?_
        refine rv_calli (r := nI (rb_least x1)) (va_runSN (As := [.int x1]) (rest := []) ⟨hx, hb, hml, hown, hts⟩ (c_Rl_leastOf l x1) ⟨va_cnB 1 hts (rg_G k_Rl_leastOf) rfl rfl rfl (hN _ rn_8) (hts _ (List.mem_cons_of_mem _ m_1)) (by decide +kernel) ⟨by show 1 + 1 ≤ d + 1; omega, by show 8 + (1 + 11) + 64 * 1 ≤ 64 * (d + 1); omega⟩, hts _ (List.mem_cons_of_mem _ m_255), trivial⟩ ⟨fun _ _ _ _ q => q, fun U hU hW => ⟨rfl, trivial⟩⟩ rfl rfl hl.1 rfl (lv_room (Nat.le_of_ble_eq_true rfl)) d_Ma_join_115 ⟨Nat.zero_le _, Nat.zero_le _⟩) hS (fun _ h => h.elim) (fun H locs hk hS => ?_)
        have hP := rv_kept hP hk
        refine rv_eq (y := nI s1) (congrArg nI hs1) ?_
        refine lv_istore (lv' := [(12, .int (nI s1)), (11, .int (nI (n + 1))), (10, .int x1), (0, .ref s0), (1, .int (nI r)), (2, .int (nI k)), (3, .int (rt_i fx)), (4, .long (lN (rt_pk ds))), (6, .int (nI (12 * r + 3 * k))), (8, .int (rt_i kP)), (9, .int (rt_i kO))]) hx hb d_Ma_join_118 hl (by decide) rfl (fun ls hl => ?_)
        refine lv_iload hx hb d_Ma_join_120 (lv_at hl 2 rfl) ?_
        refine rv_calli (r := x1 &&& (x1 - 1)) (va_runSN (As := [.int x1]) (rest := []) ⟨hx, hb, hml, hown, hts⟩ (c_Rl_withoutLeast l x1) ⟨va_cnB 1 hts (rg_G k_Rl_withoutLeast) rfl rfl rfl (hN _ rn_9) (hts _ (List.mem_cons_of_mem _ m_1)) (by decide +kernel) ⟨by show 0 + 1 ≤ d + 1; omega, by show 8 + (1 + 11) + 64 * 0 ≤ 64 * (d + 1); omega⟩, hts _ (List.mem_cons_of_mem _ m_259), trivial⟩ ⟨fun _ _ _ _ q => q, fun U hU hW => ⟨rfl, trivial⟩⟩ rfl rfl hl.1 rfl (lv_room (Nat.le_of_ble_eq_true rfl)) d_Ma_join_122 ⟨Nat.zero_le _, Nat.zero_le _⟩) hS (fun _ h => h.elim) (fun H locs hk hS => ?_)
        have hP := rv_kept hP hk
        generalize hx1g : x1 &&& (x1 - 1) = x1b at hR hc1 ⊢
        refine lv_istore (lv' := [(10, .int x1b), (12, .int (nI s1)), (11, .int (nI (n + 1))), (0, .ref s0), (1, .int (nI r)), (2, .int (nI k)), (3, .int (rt_i fx)), (4, .long (lN (rt_pk ds))), (6, .int (nI (12 * r + 3 * k))), (8, .int (rt_i kP)), (9, .int (rt_i kO))]) hx hb d_Ma_join_125 hl (by decide) rfl (fun ls hl => ?_)
        refine lv_aload_n hx hb d_Ma_join_127 rfl (lv_at hl 3 rfl) ?_
        refine va_get (D := (dC, dI)) (ci := 3) (v := .ref aT) (C := R_Se) (T := F_Se) (N := 5) hx hb hts (rg_c i_Se) hown hK hP 0 rfl rfl 0 (by decide) (hts _ (List.mem_cons_of_mem _ m_60)) (fun _ h9 => h9) rfl d_Ma_join_128 ?_
        refine lv_iload hx hb d_Ma_join_131 (lv_at hl 1 rfl) ?_
        refine lv_iload hx hb d_Ma_join_133 (lv_at hl 9 rfl) ?_
        refine rv_calli (r := rx_ps he.2.2.1 s1 kP) (va_runV (As := [.int (nI s1), .int (rt_i kP)]) (rest := []) ⟨hx, hb, hml, hown, hts⟩ (c_Tr_predicatesFor l dC dI dA aT t1 t2 t3 he.1 he.2.1 he.2.2.1 he.2.2.2 s1 kP (hs32) (hkP)) (cwV 2 hts (rg_V (rg4 m_261 m_262 m_263 m_2) k_Tr_predicatesFor) rfl rfl rfl (by decide +kernel) ⟨by show 1 + 1 ≤ d + 1; omega, by show 8 + (3 + 11) + 64 * 1 ≤ 64 * (d + 1); omega⟩) ⟨fun a U g mk q => ⟨q.1, va_K.moved (u := U) (U := U.calling g mk a) (Vm.Alike.refl U.vm) q.2.1, q.2.2.1, rn_same (u := U) (U := U.calling g mk a) rfl q.2.2.2⟩, va_recv hK hP (ci := 1) (q0 := 2) rfl rfl, fun U hU hW => ⟨rfl, va_K.moved hW.alike hK, by rw [hU]; exact hP.sub (ws' := [(aT, .inr (1, [.ref t1, .ref t2, .ref t3, .int he.2.2.2])), (t1, .inl (dA, 1024, .inl he.1)), (t2, .inl (dA, 32, .inl he.2.1)), (t3, .inl (dA, 32, .inl he.2.2.1))]) [2, 3, 4, 5] rfl, rn_warm hW hN⟩⟩ rfl rfl hl.1 rfl (lv_room (Nat.le_of_ble_eq_true rfl)) d_Ma_join_135 ⟨Nat.zero_le _, Nat.zero_le _⟩) hS (fun _ h => h.elim) (fun H locs hk hS => ?_)
        have hP := rv_kept hP hk
        refine lv_istore (lv' := [(13, .int (rx_ps he.2.2.1 s1 kP)), (10, .int x1b), (12, .int (nI s1)), (11, .int (nI (n + 1))), (0, .ref s0), (1, .int (nI r)), (2, .int (nI k)), (3, .int (rt_i fx)), (4, .long (lN (rt_pk ds))), (6, .int (nI (12 * r + 3 * k))), (8, .int (rt_i kP)), (9, .int (rt_i kO))]) hx hb d_Ma_join_138 hl (by decide) rfl (fun ls hl => ?_)
        refine lv_iload hx hb d_Ma_join_140 (lv_at hl 0 rfl) ?_
        refine rv_calli (r := nI (rb_cnt (rx_ps he.2.2.1 s1 kP))) (va_runS (As := [.int (rx_ps he.2.2.1 s1 kP)]) (rest := []) ⟨hx, hb, hml, hown, hts⟩ (c_Ig_bitCount l (rx_ps he.2.2.1 s1 kP)) (va_cwS 1 hts (rg_S (rg3 m_248 m_249 m_10) k_Ig_bitCount) rfl rfl rfl (by decide +kernel) ⟨by show 0 + 1 ≤ d + 1; omega, by show 8 + (1 + 11) + 64 * 0 ≤ 64 * (d + 1); omega⟩) ⟨fun _ _ _ _ q => q, fun U hU hW => ⟨rfl, trivial⟩⟩ rfl rfl hl.1 rfl (lv_room (Nat.le_of_ble_eq_true rfl)) d_Ma_join_142 ⟨Nat.zero_le _, Nat.zero_le _⟩) hS (fun _ h => h.elim) (fun H locs hk hS => ?_)
        have hP := rv_kept hP hk
        refine lv_istore (lv' := [(14, .int (nI (rb_cnt (rx_ps he.2.2.1 s1 kP)))), (13, .int (rx_ps he.2.2.1 s1 kP)), (10, .int x1b), (12, .int (nI s1)), (11, .int (nI (n + 1))), (0, .ref s0), (1, .int (nI r)), (2, .int (nI k)), (3, .int (rt_i fx)), (4, .long (lN (rt_pk ds))), (6, .int (nI (12 * r + 3 * k))), (8, .int (rt_i kP)), (9, .int (rt_i kO))]) hx hb d_Ma_join_145 hl (by decide) rfl (fun ls hl => ?_)
        have lp2 : ∀ (n2 : Nat) (x2 : Int32) (st : sS) (H : Heap) (locs : List Loc) (ls : Array Slot), rb_cnt x2 = n2 → rj_fold (rj_body rs_ch r k ds (rj_join (rx_trav he.1 he.2.1 he.2.2.1 he.2.2.2) (rs_meet wt r) rs_ch r fx rem (k + 1))) st ((rb_els x2).flatMap (fun p => (rb_els (rx_os he.1 s1 p kO)).map (fun o => rx_code s1 p o)) ++ (rb_els x1b).flatMap (fun s => (rb_els (rx_ps he.2.2.1 s kP)).flatMap (fun p => (rb_els (rx_os he.1 s p kO)).map (fun o => rx_code s p o)))) = RES → va_P (dC, dI) classes [(s0, .inr (3, [.ref aT, .ref qc, .int wt, .int st.2.1, .int st.2.2])), (qc, .inl (dA, 4, .inl st.1)), (aT, .inr (1, [.ref t1, .ref t2, .ref t3, .int he.2.2.2])), (t1, .inl (dA, 1024, .inl he.1)), (t2, .inl (dA, 32, .inl he.2.1)), (t3, .inl (dA, 32, .inl he.2.2.1))] H → va_D A [(s0, .inr (3, [.ref aT, .ref qc, .int wt, .int st.2.1, .int st.2.2])), (qc, .inl (dA, 4, .inl st.1)), (aT, .inr (1, [.ref t1, .ref t2, .ref t3, .int he.2.2.2])), (t1, .inl (dA, 1024, .inl he.1)), (t2, .inl (dA, 32, .inl he.2.1)), (t3, .inl (dA, 32, .inl he.2.2.1))] → va_S A s.heap H locs → lv_has ls 21 [(14, .int (nI n2)), (13, .int x2), (11, .int (nI (n + 1))), (10, .int x1b), (12, .int (nI s1)), (0, .ref s0), (1, .int (nI r)), (2, .int (nI k)), (3, .int (rt_i fx)), (4, .long (lN (rt_pk ds))), (6, .int (nI (12 * r + 3 * k))), (8, .int (rt_i kP)), (9, .int (rt_i kO))] → W p l e (headSpec (w_ y_Ma_join b_Ma_join 21 (some .boolean)) (rm_ (d + 1))).room s m ([.ref s0, .int (nI r), .int (nI k), .int (rt_i fx), .long (lN (rt_pk ds))] : List Value).toArray below meth c H locs 0 0 Q (F0 m 147 ls []) := by
          intro n2
          induction n2 with
          | zero =>
            intro x2 st H locs ls hn2 hR hP hD hS hl
            rw [rj_cnt_zero hn2] at hR
            refine lv_iload hx hb d_Ma_join_147 (lv_at hl 0 rfl) ?_
            refine rv_if_le (tgt := 273) hx hb d_Ma_join_149 (by decide) (by omega) (fun c_149 => ?_) (fun c_149 => absurd c_149 (by omega))
            refine rv_dec (k := 2) (lv' := [(11, .int (nI n)), (14, .int (nI 0)), (13, .int x2), (10, .int x1b), (12, .int (nI s1)), (0, .ref s0), (1, .int (nI r)), (2, .int (nI k)), (3, .int (rt_i fx)), (4, .long (lN (rt_pk ds))), (6, .int (nI (12 * r + 3 * k))), (8, .int (rt_i kP)), (9, .int (rt_i kO))]) hx hb d_Ma_join_273 hl rfl (by decide) rfl (fun ls hl => ?_)
            refine lv_goto (tgt := 108) hx hb d_Ma_join_276 (by decide) ?_
            exact ih x1b st _ _ _ (hc1) (hR) hP hD hS (lv_sub hl [0, 3, 5, 6, 7, 8, 9, 10, 11, 12] rfl)
          | succ n2 ih2 =>
            intro x2 st H locs ls hn2 hR hP hD hS hl
            have hcl2 := rb_cnt_le x2
            obtain ⟨p1, l2, hl2, hp1, hp32, hr2, hc2⟩ := rj_cnt_pos hn2
            rw [hl2, List.flatMap_cons, ← hr2, List.append_assoc] at hR
            refine lv_iload hx hb d_Ma_join_147 (lv_at hl 0 rfl) ?_
            refine rv_if_le (tgt := 273) hx hb d_Ma_join_149 (by decide) (by omega) (fun c_149 => absurd c_149 (by omega)) (fun c_149 => ?_)
            refine lv_iload hx hb d_Ma_join_152 (lv_at hl 1 rfl) ?_
            refine rv_calli (r := nI (rb_least x2)) (va_runSN (As := [.int x2]) (rest := []) ⟨hx, hb, hml, hown, hts⟩ (c_Rl_leastOf l x2) ⟨va_cnB 1 hts (rg_G k_Rl_leastOf) rfl rfl rfl (hN _ rn_8) (hts _ (List.mem_cons_of_mem _ m_1)) (by decide +kernel) ⟨by show 1 + 1 ≤ d + 1; omega, by show 8 + (1 + 11) + 64 * 1 ≤ 64 * (d + 1); omega⟩, hts _ (List.mem_cons_of_mem _ m_255), trivial⟩ ⟨fun _ _ _ _ q => q, fun U hU hW => ⟨rfl, trivial⟩⟩ rfl rfl hl.1 rfl (lv_room (Nat.le_of_ble_eq_true rfl)) d_Ma_join_154 ⟨Nat.zero_le _, Nat.zero_le _⟩) hS (fun _ h => h.elim) (fun H locs hk hS => ?_)
            have hP := rv_kept hP hk
            refine rv_eq (y := nI p1) (congrArg nI hp1) ?_
            refine lv_istore (lv' := [(15, .int (nI p1)), (14, .int (nI (n2 + 1))), (13, .int x2), (11, .int (nI (n + 1))), (10, .int x1b), (12, .int (nI s1)), (0, .ref s0), (1, .int (nI r)), (2, .int (nI k)), (3, .int (rt_i fx)), (4, .long (lN (rt_pk ds))), (6, .int (nI (12 * r + 3 * k))), (8, .int (rt_i kP)), (9, .int (rt_i kO))]) hx hb d_Ma_join_157 hl (by decide) rfl (fun ls hl => ?_)
            refine lv_iload hx hb d_Ma_join_159 (lv_at hl 2 rfl) ?_
            refine rv_calli (r := x2 &&& (x2 - 1)) (va_runSN (As := [.int x2]) (rest := []) ⟨hx, hb, hml, hown, hts⟩ (c_Rl_withoutLeast l x2) ⟨va_cnB 1 hts (rg_G k_Rl_withoutLeast) rfl rfl rfl (hN _ rn_9) (hts _ (List.mem_cons_of_mem _ m_1)) (by decide +kernel) ⟨by show 0 + 1 ≤ d + 1; omega, by show 8 + (1 + 11) + 64 * 0 ≤ 64 * (d + 1); omega⟩, hts _ (List.mem_cons_of_mem _ m_259), trivial⟩ ⟨fun _ _ _ _ q => q, fun U hU hW => ⟨rfl, trivial⟩⟩ rfl rfl hl.1 rfl (lv_room (Nat.le_of_ble_eq_true rfl)) d_Ma_join_161 ⟨Nat.zero_le _, Nat.zero_le _⟩) hS (fun _ h => h.elim) (fun H locs hk hS => ?_)
            have hP := rv_kept hP hk
            generalize hx2g : x2 &&& (x2 - 1) = x2b at hR hc2 ⊢
            refine lv_istore (lv' := [(13, .int x2b), (15, .int (nI p1)), (14, .int (nI (n2 + 1))), (11, .int (nI (n + 1))), (10, .int x1b), (12, .int (nI s1)), (0, .ref s0), (1, .int (nI r)), (2, .int (nI k)), (3, .int (rt_i fx)), (4, .long (lN (rt_pk ds))), (6, .int (nI (12 * r + 3 * k))), (8, .int (rt_i kP)), (9, .int (rt_i kO))]) hx hb d_Ma_join_164 hl (by decide) rfl (fun ls hl => ?_)
            refine lv_aload_n hx hb d_Ma_join_166 rfl (lv_at hl 6 rfl) ?_
            refine va_get (D := (dC, dI)) (ci := 3) (v := .ref aT) (C := R_Se) (T := F_Se) (N := 5) hx hb hts (rg_c i_Se) hown hK hP 0 rfl rfl 0 (by decide) (hts _ (List.mem_cons_of_mem _ m_60)) (fun _ h9 => h9) rfl d_Ma_join_167 ?_
            refine lv_iload hx hb d_Ma_join_170 (lv_at hl 5 rfl) ?_
            refine lv_iload hx hb d_Ma_join_172 (lv_at hl 1 rfl) ?_
            refine lv_iload hx hb d_Ma_join_174 (lv_at hl 13 rfl) ?_
            refine rv_calli (r := rx_os he.1 s1 p1 kO) (va_runV (As := [.int (nI s1), .int (nI p1), .int (rt_i kO)]) (rest := []) ⟨hx, hb, hml, hown, hts⟩ (c_Tr_objectsFor l dC dI dA aT t1 t2 t3 he.1 he.2.1 he.2.2.1 he.2.2.2 s1 p1 kO (hs32) (hp32) (hkO)) (cwV 3 hts (rg_V (rg4 m_265 m_266 m_267 m_2) k_Tr_objectsFor) rfl rfl rfl (by decide +kernel) ⟨by show 1 + 1 ≤ d + 1; omega, by show 8 + (5 + 11) + 64 * 1 ≤ 64 * (d + 1); omega⟩) ⟨fun a U g mk q => ⟨q.1, va_K.moved (u := U) (U := U.calling g mk a) (Vm.Alike.refl U.vm) q.2.1, q.2.2.1, rn_same (u := U) (U := U.calling g mk a) rfl q.2.2.2⟩, va_recv hK hP (ci := 1) (q0 := 2) rfl rfl, fun U hU hW => ⟨rfl, va_K.moved hW.alike hK, by rw [hU]; exact hP.sub (ws' := [(aT, .inr (1, [.ref t1, .ref t2, .ref t3, .int he.2.2.2])), (t1, .inl (dA, 1024, .inl he.1)), (t2, .inl (dA, 32, .inl he.2.1)), (t3, .inl (dA, 32, .inl he.2.2.1))]) [2, 3, 4, 5] rfl, rn_warm hW hN⟩⟩ rfl rfl hl.1 rfl (lv_room (Nat.le_of_ble_eq_true rfl)) d_Ma_join_176 ⟨Nat.zero_le _, Nat.zero_le _⟩) hS (fun _ h => h.elim) (fun H locs hk hS => ?_)
            have hP := rv_kept hP hk
            refine lv_istore (lv' := [(16, .int (rx_os he.1 s1 p1 kO)), (13, .int x2b), (15, .int (nI p1)), (14, .int (nI (n2 + 1))), (11, .int (nI (n + 1))), (10, .int x1b), (12, .int (nI s1)), (0, .ref s0), (1, .int (nI r)), (2, .int (nI k)), (3, .int (rt_i fx)), (4, .long (lN (rt_pk ds))), (6, .int (nI (12 * r + 3 * k))), (8, .int (rt_i kP)), (9, .int (rt_i kO))]) hx hb d_Ma_join_179 hl (by decide) rfl (fun ls hl => ?_)
            refine lv_iload hx hb d_Ma_join_181 (lv_at hl 0 rfl) ?_
            refine rv_calli (r := nI (rb_cnt (rx_os he.1 s1 p1 kO))) (va_runS (As := [.int (rx_os he.1 s1 p1 kO)]) (rest := []) ⟨hx, hb, hml, hown, hts⟩ (c_Ig_bitCount l (rx_os he.1 s1 p1 kO)) (va_cwS 1 hts (rg_S (rg3 m_248 m_249 m_10) k_Ig_bitCount) rfl rfl rfl (by decide +kernel) ⟨by show 0 + 1 ≤ d + 1; omega, by show 8 + (1 + 11) + 64 * 0 ≤ 64 * (d + 1); omega⟩) ⟨fun _ _ _ _ q => q, fun U hU hW => ⟨rfl, trivial⟩⟩ rfl rfl hl.1 rfl (lv_room (Nat.le_of_ble_eq_true rfl)) d_Ma_join_183 ⟨Nat.zero_le _, Nat.zero_le _⟩) hS (fun _ h => h.elim) (fun H locs hk hS => ?_)
            have hP := rv_kept hP hk
            refine lv_istore (lv' := [(17, .int (nI (rb_cnt (rx_os he.1 s1 p1 kO)))), (16, .int (rx_os he.1 s1 p1 kO)), (13, .int x2b), (15, .int (nI p1)), (14, .int (nI (n2 + 1))), (11, .int (nI (n + 1))), (10, .int x1b), (12, .int (nI s1)), (0, .ref s0), (1, .int (nI r)), (2, .int (nI k)), (3, .int (rt_i fx)), (4, .long (lN (rt_pk ds))), (6, .int (nI (12 * r + 3 * k))), (8, .int (rt_i kP)), (9, .int (rt_i kO))]) hx hb d_Ma_join_186 hl (by decide) rfl (fun ls hl => ?_)
            have lp3 : ∀ (n3 : Nat) (x3 : Int32) (st : sS) (H : Heap) (locs : List Loc) (ls : Array Slot), rb_cnt x3 = n3 → rj_fold (rj_body rs_ch r k ds (rj_join (rx_trav he.1 he.2.1 he.2.2.1 he.2.2.2) (rs_meet wt r) rs_ch r fx rem (k + 1))) st ((rb_els x3).map (fun o => rx_code s1 p1 o) ++ ((rb_els x2b).flatMap (fun p => (rb_els (rx_os he.1 s1 p kO)).map (fun o => rx_code s1 p o)) ++ (rb_els x1b).flatMap (fun s => (rb_els (rx_ps he.2.2.1 s kP)).flatMap (fun p => (rb_els (rx_os he.1 s p kO)).map (fun o => rx_code s p o))))) = RES → va_P (dC, dI) classes [(s0, .inr (3, [.ref aT, .ref qc, .int wt, .int st.2.1, .int st.2.2])), (qc, .inl (dA, 4, .inl st.1)), (aT, .inr (1, [.ref t1, .ref t2, .ref t3, .int he.2.2.2])), (t1, .inl (dA, 1024, .inl he.1)), (t2, .inl (dA, 32, .inl he.2.1)), (t3, .inl (dA, 32, .inl he.2.2.1))] H → va_D A [(s0, .inr (3, [.ref aT, .ref qc, .int wt, .int st.2.1, .int st.2.2])), (qc, .inl (dA, 4, .inl st.1)), (aT, .inr (1, [.ref t1, .ref t2, .ref t3, .int he.2.2.2])), (t1, .inl (dA, 1024, .inl he.1)), (t2, .inl (dA, 32, .inl he.2.1)), (t3, .inl (dA, 32, .inl he.2.2.1))] → va_S A s.heap H locs → lv_has ls 21 [(17, .int (nI n3)), (16, .int x3), (14, .int (nI (n2 + 1))), (13, .int x2b), (11, .int (nI (n + 1))), (10, .int x1b), (12, .int (nI s1)), (15, .int (nI p1)), (0, .ref s0), (1, .int (nI r)), (2, .int (nI k)), (3, .int (rt_i fx)), (4, .long (lN (rt_pk ds))), (6, .int (nI (12 * r + 3 * k))), (8, .int (rt_i kP)), (9, .int (rt_i kO))] → W p l e (headSpec (w_ y_Ma_join b_Ma_join 21 (some .boolean)) (rm_ (d + 1))).room s m ([.ref s0, .int (nI r), .int (nI k), .int (rt_i fx), .long (lN (rt_pk ds))] : List Value).toArray below meth c H locs 0 0 Q (F0 m 188 ls []) := by
              intro n3
              induction n3 with
              | zero =>
                intro x3 st H locs ls hn3 hR hP hD hS hl
                rw [rj_cnt_zero hn3] at hR
                refine lv_iload hx hb d_Ma_join_188 (lv_at hl 0 rfl) ?_
                refine rv_if_le (tgt := 267) hx hb d_Ma_join_190 (by decide) (by omega) (fun c_190 => ?_) (fun c_190 => absurd c_190 (by omega))
                refine rv_dec (k := 2) (lv' := [(14, .int (nI n2)), (17, .int (nI 0)), (16, .int x3), (13, .int x2b), (11, .int (nI (n + 1))), (10, .int x1b), (12, .int (nI s1)), (15, .int (nI p1)), (0, .ref s0), (1, .int (nI r)), (2, .int (nI k)), (3, .int (rt_i fx)), (4, .long (lN (rt_pk ds))), (6, .int (nI (12 * r + 3 * k))), (8, .int (rt_i kP)), (9, .int (rt_i kO))]) hx hb d_Ma_join_267 hl rfl (by decide) rfl (fun ls hl => ?_)
                refine lv_goto (tgt := 147) hx hb d_Ma_join_270 (by decide) ?_
                exact ih2 x2b st _ _ _ (hc2) (hR) hP hD hS (lv_sub hl [0, 3, 4, 5, 6, 8, 9, 10, 11, 12, 13, 14, 15] rfl)
              | succ n3 ih3 =>
                intro x3 st H locs ls hn3 hR hP hD hS hl
                have hcl3 := rb_cnt_le x3
                obtain ⟨o1, l3, hl3, ho1, ho32, hr3, hc3⟩ := rj_cnt_pos hn3
                rw [hl3, List.map_cons, ← hr3, List.cons_append] at hR
                have hcc := rx_code_lt hs32 hp32 ho32
                refine lv_iload hx hb d_Ma_join_188 (lv_at hl 0 rfl) ?_
                refine rv_if_le (tgt := 267) hx hb d_Ma_join_190 (by decide) (by omega) (fun c_190 => absurd c_190 (by omega)) (fun c_190 => ?_)
                refine lv_iload hx hb d_Ma_join_193 (lv_at hl 6 rfl) ?_
                refine lv_iload hx hb d_Ma_join_195 (lv_at hl 7 rfl) ?_
                refine lv_iload hx hb d_Ma_join_197 (lv_at hl 1 rfl) ?_
                refine rv_calli (r := nI (rb_least x3)) (va_runSN (As := [.int x3]) (rest := [.int (nI p1), .int (nI s1)]) ⟨hx, hb, hml, hown, hts⟩ (c_Rl_leastOf l x3) ⟨va_cnB 1 hts (rg_G k_Rl_leastOf) rfl rfl rfl (hN _ rn_8) (hts _ (List.mem_cons_of_mem _ m_1)) (by decide +kernel) ⟨by show 1 + 1 ≤ d + 1; omega, by show 8 + (1 + 11) + 64 * 1 ≤ 64 * (d + 1); omega⟩, hts _ (List.mem_cons_of_mem _ m_255), trivial⟩ ⟨fun _ _ _ _ q => q, fun U hU hW => ⟨rfl, trivial⟩⟩ rfl rfl hl.1 rfl (lv_room (Nat.le_of_ble_eq_true rfl)) d_Ma_join_199 ⟨Nat.zero_le _, Nat.zero_le _⟩) hS (fun _ h => h.elim) (fun H locs hk hS => ?_)
                have hP := rv_kept hP hk
                refine rv_eq (y := nI o1) (congrArg nI ho1) ?_
                refine rv_calli (r := nI (rx_code s1 p1 o1)) (va_runSN (As := [.int (nI s1), .int (nI p1), .int (nI o1)]) (rest := []) ⟨hx, hb, hml, hown, hts⟩ (c_Rl_codeOf l s1 p1 o1) ⟨va_cnB 3 hts (rg_G k_Rl_codeOf) rfl rfl rfl (hN _ rn_10) (hts _ (List.mem_cons_of_mem _ m_1)) (by decide +kernel) ⟨by show 0 + 1 ≤ d + 1; omega, by show 8 + (3 + 11) + 64 * 0 ≤ 64 * (d + 1); omega⟩, hts _ (List.mem_cons_of_mem _ m_135), trivial⟩ ⟨fun _ _ _ _ q => q, fun U hU hW => ⟨rfl, trivial⟩⟩ rfl rfl hl.1 rfl (lv_room (Nat.le_of_ble_eq_true rfl)) d_Ma_join_202 ⟨Nat.zero_le _, Nat.zero_le _⟩) hS (fun _ h => h.elim) (fun H locs hk hS => ?_)
                have hP := rv_kept hP hk
                refine lv_istore (lv' := [(18, .int (nI (rx_code s1 p1 o1))), (17, .int (nI (n3 + 1))), (16, .int x3), (14, .int (nI (n2 + 1))), (13, .int x2b), (11, .int (nI (n + 1))), (10, .int x1b), (12, .int (nI s1)), (15, .int (nI p1)), (0, .ref s0), (1, .int (nI r)), (2, .int (nI k)), (3, .int (rt_i fx)), (4, .long (lN (rt_pk ds))), (6, .int (nI (12 * r + 3 * k))), (8, .int (rt_i kP)), (9, .int (rt_i kO))]) hx hb d_Ma_join_205 hl (by decide) rfl (fun ls hl => ?_)
                refine lv_iload hx hb d_Ma_join_207 (lv_at hl 2 rfl) ?_
                refine rv_calli (r := x3 &&& (x3 - 1)) (va_runSN (As := [.int x3]) (rest := []) ⟨hx, hb, hml, hown, hts⟩ (c_Rl_withoutLeast l x3) ⟨va_cnB 1 hts (rg_G k_Rl_withoutLeast) rfl rfl rfl (hN _ rn_9) (hts _ (List.mem_cons_of_mem _ m_1)) (by decide +kernel) ⟨by show 0 + 1 ≤ d + 1; omega, by show 8 + (1 + 11) + 64 * 0 ≤ 64 * (d + 1); omega⟩, hts _ (List.mem_cons_of_mem _ m_259), trivial⟩ ⟨fun _ _ _ _ q => q, fun U hU hW => ⟨rfl, trivial⟩⟩ rfl rfl hl.1 rfl (lv_room (Nat.le_of_ble_eq_true rfl)) d_Ma_join_209 ⟨Nat.zero_le _, Nat.zero_le _⟩) hS (fun _ h => h.elim) (fun H locs hk hS => ?_)
                have hP := rv_kept hP hk
                generalize hx3g : x3 &&& (x3 - 1) = x3b at hR hc3 ⊢
                refine lv_istore (lv' := [(16, .int x3b), (18, .int (nI (rx_code s1 p1 o1))), (17, .int (nI (n3 + 1))), (14, .int (nI (n2 + 1))), (13, .int x2b), (11, .int (nI (n + 1))), (10, .int x1b), (12, .int (nI s1)), (15, .int (nI p1)), (0, .ref s0), (1, .int (nI r)), (2, .int (nI k)), (3, .int (rt_i fx)), (4, .long (lN (rt_pk ds))), (6, .int (nI (12 * r + 3 * k))), (8, .int (rt_i kP)), (9, .int (rt_i kO))]) hx hb d_Ma_join_212 hl (by decide) rfl (fun ls hl => ?_)
                refine lv_aload_n hx hb d_Ma_join_214 rfl (lv_at hl 9 rfl) ?_
                refine va_get (D := (dC, dI)) (ci := 3) (v := .ref qc) (C := R_Se) (T := F_Se) (N := 5) hx hb hts (rg_c i_Se) hown hK hP 0 rfl rfl 1 (by decide) (hts _ (List.mem_cons_of_mem _ m_63)) (fun _ h9 => h9) rfl d_Ma_join_215 ?_
                refine lv_iload_n hx hb d_Ma_join_218 rfl (lv_at hl 11 rfl) ?_
                refine lv_iload hx hb d_Ma_join_219 (lv_at hl 1 rfl) ?_
                refine rv_ast (k := k) (x := nI (rx_code s1 p1 o1)) hx hb hK hP hD hS 1 0 rfl rfl (by omega) (by decide) d_Ma_join_221 (fun H locs hP hD hS => ?_)
                have hP : va_P (dC, dI) classes [(s0, .inr (3, [.ref aT, .ref qc, .int wt, .int st.2.1, .int st.2.2])), (qc, .inl (dA, 4, .inl (upd st.1 k (nI (rx_code s1 p1 o1))))), (aT, .inr (1, [.ref t1, .ref t2, .ref t3, .int he.2.2.2])), (t1, .inl (dA, 1024, .inl he.1)), (t2, .inl (dA, 32, .inl he.2.1)), (t3, .inl (dA, 32, .inl he.2.2.1))] H := hP
                have hD : va_D A [(s0, .inr (3, [.ref aT, .ref qc, .int wt, .int st.2.1, .int st.2.2])), (qc, .inl (dA, 4, .inl (upd st.1 k (nI (rx_code s1 p1 o1))))), (aT, .inr (1, [.ref t1, .ref t2, .ref t3, .int he.2.2.2])), (t1, .inl (dA, 1024, .inl he.1)), (t2, .inl (dA, 32, .inl he.2.1)), (t3, .inl (dA, 32, .inl he.2.2.1))] := hD
                have hP : va_P (dC, dI) classes [(s0, .inr (3, [.ref aT, .ref qc, .int wt, .int (rs_ch k (rx_code s1 p1 o1) st).2.1, .int (rs_ch k (rx_code s1 p1 o1) st).2.2])), (qc, .inl (dA, 4, .inl (rs_ch k (rx_code s1 p1 o1) st).1)), (aT, .inr (1, [.ref t1, .ref t2, .ref t3, .int he.2.2.2])), (t1, .inl (dA, 1024, .inl he.1)), (t2, .inl (dA, 32, .inl he.2.1)), (t3, .inl (dA, 32, .inl he.2.2.1))] H := hP
                have hD : va_D A [(s0, .inr (3, [.ref aT, .ref qc, .int wt, .int (rs_ch k (rx_code s1 p1 o1) st).2.1, .int (rs_ch k (rx_code s1 p1 o1) st).2.2])), (qc, .inl (dA, 4, .inl (rs_ch k (rx_code s1 p1 o1) st).1)), (aT, .inr (1, [.ref t1, .ref t2, .ref t3, .int he.2.2.2])), (t1, .inl (dA, 1024, .inl he.1)), (t2, .inl (dA, 32, .inl he.2.1)), (t3, .inl (dA, 32, .inl he.2.2.1))] := hD
                refine va_gets hx hb hZ.1.1 hS hown (hts _ (List.mem_cons_of_mem _ m_245)) (fun _ h9 => h9) d_Ma_join_222 ?_
                refine lv_iload hx hb d_Ma_join_225 (lv_at hl 14 rfl) ?_
                refine lv_iload hx hb d_Ma_join_227 (lv_at hl 1 rfl) ?_
                refine lv_lload hx hb d_Ma_join_229 (lv_at hl 13 rfl) ?_
                refine rv_calll (r := rt_l (rt_fit (rq_prem.getD (12 * r + 3 * k) 0) (rq_prem.getD ((12 * r + 3 * k) + 1) 0) (rq_prem.getD ((12 * r + 3 * k) + 2) 0) (rx_code s1 p1 o1) ds)) (va_runS (As := [.ref tP, .int (nI (12 * r + 3 * k)), .int (nI (rx_code s1 p1 o1)), .long (lN (rt_pk ds))]) (rest := []) ⟨hx, hb, hml, hown, hts⟩ (c_Le_fit l tP 288 (12 * r + 3 * k) (rx_code s1 p1 o1) rq_prem ds (by decide) (by omega) (rq_prem_lt _) (rq_prem_lt _) (rq_prem_lt _) (hcc) (hd)) (va_cwS 4 hts (rg_S (rg3 m_270 m_209 m_9) k_Le_fit) rfl rfl rfl (by decide +kernel) ⟨by show 2 + 1 ≤ d + 1; omega, by show 8 + (7 + 11) + 64 * 2 ≤ 64 * (d + 1); omega⟩) ⟨fun a U g mk q => ⟨q.1, q.2.moved (Vm.Alike.refl U.vm)⟩, fun U hU hW => ⟨rfl, rv_T hZ.1.2 hS hU hW (fun _ h => h.elim)⟩⟩ rfl rfl hl.1 rfl (lv_room (Nat.le_of_ble_eq_true rfl)) d_Ma_join_231 ⟨Nat.zero_le _, Nat.zero_le _⟩) hS (fun _ h => h.elim) (fun H locs hk hS => ?_)
                have hP := rv_kept hP hk
                rcases hq : rt_fit (rq_prem.getD (12 * r + 3 * k) 0) (rq_prem.getD (12 * r + 3 * k + 1) 0) (rq_prem.getD (12 * r + 3 * k + 2) 0) (rx_code s1 p1 o1) ds with _ | ds2
                · refine rv_eql (y := (-1)) (rfl) ?_
                  have hFq : (rj_body rs_ch r k ds (rj_join (rx_trav he.1 he.2.1 he.2.2.1 he.2.2.2) (rs_meet wt r) rs_ch r fx rem (k + 1))) st (rx_code s1 p1 o1) = (rs_ch k (rx_code s1 p1 o1) st, false) := by unfold rj_body; rw [hq]
                  refine lv_lstore (lv' := [(19, .long (-1)), (16, .int x3b), (18, .int (nI (rx_code s1 p1 o1))), (17, .int (nI (n3 + 1))), (14, .int (nI (n2 + 1))), (13, .int x2b), (11, .int (nI (n + 1))), (10, .int x1b), (12, .int (nI s1)), (15, .int (nI p1)), (0, .ref s0), (1, .int (nI r)), (2, .int (nI k)), (3, .int (rt_i fx)), (4, .long (lN (rt_pk ds))), (6, .int (nI (12 * r + 3 * k))), (8, .int (rt_i kP)), (9, .int (rt_i kO))]) hx hb d_Ma_join_234 hl (by decide) rfl (fun ls hl => ?_)
                  refine lv_lload hx hb d_Ma_join_236 (lv_at hl 0 rfl) ?_
                  refine lv_ldc2 (v := (-1)) hx hb hown (hts _ (List.mem_cons_of_mem _ m_271)) d_Ma_join_238 ?_
                  refine W.lcmp hx hb d_Ma_join_241 ?_
                  refine rv_eq (y := nI 0) (rt_cmp0 _) ?_
                  refine rv_if_eq (tgt := 261) hx hb d_Ma_join_242 (by decide) (by omega) (fun c_242 => ?_) (fun c_242 => absurd c_242 (by omega))
                  refine rv_dec (k := 3) (lv' := [(17, .int (nI n3)), (19, .long (-1)), (16, .int x3b), (18, .int (nI (rx_code s1 p1 o1))), (14, .int (nI (n2 + 1))), (13, .int x2b), (11, .int (nI (n + 1))), (10, .int x1b), (12, .int (nI s1)), (15, .int (nI p1)), (0, .ref s0), (1, .int (nI r)), (2, .int (nI k)), (3, .int (rt_i fx)), (4, .long (lN (rt_pk ds))), (6, .int (nI (12 * r + 3 * k))), (8, .int (rt_i kP)), (9, .int (rt_i kO))]) hx hb d_Ma_join_261 hl rfl (by decide) rfl (fun ls hl => ?_)
                  refine lv_goto (tgt := 188) hx hb d_Ma_join_264 (by decide) ?_
                  have hR2 := rj_fold_go hR (by rw [hFq])
                  rw [hFq] at hR2
                  exact ih3 x3b (rs_ch k (rx_code s1 p1 o1) st) _ _ _ (hc3) (hR2) hP hD hS (lv_sub hl [0, 2, 4, 5, 6, 7, 8, 9, 10, 11, 12, 13, 14, 15, 16, 17] rfl)
                · have hd2 := rt_fit_ok hd hcc hq
                  refine rv_eql (y := lN (rt_pk ds2)) (rfl) ?_
                  have hFq : (rj_body rs_ch r k ds (rj_join (rx_trav he.1 he.2.1 he.2.2.1 he.2.2.2) (rs_meet wt r) rs_ch r fx rem (k + 1))) st (rx_code s1 p1 o1) = rj_join (rx_trav he.1 he.2.1 he.2.2.1 he.2.2.2) (rs_meet wt r) rs_ch r fx rem (k + 1) ds2 (rs_ch k (rx_code s1 p1 o1) st) := by unfold rj_body; rw [hq]
                  refine lv_lstore (lv' := [(19, .long (lN (rt_pk ds2))), (16, .int x3b), (18, .int (nI (rx_code s1 p1 o1))), (17, .int (nI (n3 + 1))), (14, .int (nI (n2 + 1))), (13, .int x2b), (11, .int (nI (n + 1))), (10, .int x1b), (12, .int (nI s1)), (15, .int (nI p1)), (0, .ref s0), (1, .int (nI r)), (2, .int (nI k)), (3, .int (rt_i fx)), (4, .long (lN (rt_pk ds))), (6, .int (nI (12 * r + 3 * k))), (8, .int (rt_i kP)), (9, .int (rt_i kO))]) hx hb d_Ma_join_234 hl (by decide) rfl (fun ls hl => ?_)
                  refine lv_lload hx hb d_Ma_join_236 (lv_at hl 0 rfl) ?_
                  refine lv_ldc2 (v := (-1)) hx hb hown (hts _ (List.mem_cons_of_mem _ m_271)) d_Ma_join_238 ?_
                  refine W.lcmp hx hb d_Ma_join_241 ?_
                  refine lv_if_eq (tgt := 261) hx hb d_Ma_join_242 (by decide) (fun c_242 => absurd c_242 (rt_cmp_ne hd2)) (fun c_242 => ?_)
                  refine lv_aload_n hx hb d_Ma_join_245 rfl (lv_at hl 10 rfl) ?_
                  refine lv_iload_n hx hb d_Ma_join_246 rfl (lv_at hl 11 rfl) ?_
                  refine lv_iload_n hx hb d_Ma_join_247 rfl (lv_at hl 12 rfl) ?_
                  refine lv_iconst (v := nI 1) hx hb d_Ma_join_248 (by decide) ?_
                  refine rv_iadd hx hb d_Ma_join_249 ?_
                  refine lv_iload_n hx hb d_Ma_join_250 rfl (lv_at hl 13 rfl) ?_
                  refine lv_lload hx hb d_Ma_join_251 (lv_at hl 0 rfl) ?_
                  have hPc := hP.sub (ws' := [(s0, .inr (3, [.ref aT, .ref qc, .int wt, .int (rs_ch k (rx_code s1 p1 o1) st).2.1, .int (rs_ch k (rx_code s1 p1 o1) st).2.2])), (qc, .inl (dA, 4, .inl (rs_ch k (rx_code s1 p1 o1) st).1)), (aT, .inr (1, [.ref t1, .ref t2, .ref t3, .int he.2.2.2])), (t1, .inl (dA, 1024, .inl he.1)), (t2, .inl (dA, 32, .inl he.2.1)), (t3, .inl (dA, 32, .inl he.2.2.1))]) [0, 1, 2, 3, 4, 5] rfl
                  have hDc := hD.sub (ws' := [(s0, .inr (3, [.ref aT, .ref qc, .int wt, .int (rs_ch k (rx_code s1 p1 o1) st).2.1, .int (rs_ch k (rx_code s1 p1 o1) st).2.2])), (qc, .inl (dA, 4, .inl (rs_ch k (rx_code s1 p1 o1) st).1)), (aT, .inr (1, [.ref t1, .ref t2, .ref t3, .int he.2.2.2])), (t1, .inl (dA, 1024, .inl he.1)), (t2, .inl (dA, 32, .inl he.2.1)), (t3, .inl (dA, 32, .inl he.2.2.1))]) [0, 1, 2, 3, 4, 5] (by decide) rfl
                  have hFc := va_free (wc := [(s0, .inr (3, [.ref aT, .ref qc, .int wt, .int (rs_ch k (rx_code s1 p1 o1) st).2.1, .int (rs_ch k (rx_code s1 p1 o1) st).2.2])), (qc, .inl (dA, 4, .inl (rs_ch k (rx_code s1 p1 o1) st).1)), (aT, .inr (1, [.ref t1, .ref t2, .ref t3, .int he.2.2.2])), (t1, .inl (dA, 1024, .inl he.1)), (t2, .inl (dA, 32, .inl he.2.1)), (t3, .inl (dA, 32, .inl he.2.2.1))]) hD hS hA [0, 1, 2, 3, 4, 5] rfl
                  refine va_calli (va_runS (As := [.ref s0, .int (nI r), .int (nI (k + 1)), .int (rt_i fx), .long (lN (rt_pk ds2))]) (rest := []) ⟨hx, hb, hml, hown, hts⟩ (IH dC dI dA tP tG tC s0 qc aT t1 t2 t3 he r (k + 1) wt fx ds2 (rs_ch k (rx_code s1 p1 o1) st) H.size hr0 hfx hd2 (by omega)) (va_cwS 5 hts (rg_S (rg3 m_243 m_221 m_3) k_Ma_join) rfl rfl rfl (by decide +kernel) ⟨by show d + 1 ≤ d + 1; omega, by show 8 + (21 + 11) + 64 * d ≤ 64 * (d + 1); omega⟩) ⟨fun a U g mk q => ⟨q.1, q.2.1, q.2.2.1, va_K.moved (u := U) (U := U.calling g mk a) (Vm.Alike.refl U.vm) q.2.2.2.1, q.2.2.2.2.1, rn_same (u := U) (U := U.calling g mk a) rfl q.2.2.2.2.2.1, rz_same q.2.2.2.2.2.2⟩, fun U hU hW => ⟨rfl, by rw [hU], by rw [hU]; exact hPc, va_K.moved hW.alike hK, hDc.weaken (fun _ _ _ _ => trivial), rn_warm hW hN, rz_at hZ hS hU hW hFc⟩⟩ rfl rfl hl.1 rfl (lv_room (Nat.le_of_ble_eq_true rfl)) d_Ma_join_253 ⟨Nat.zero_le _, Nat.zero_le _⟩) hS (fun q _ h => hFc q h) hFc (fun r9 u t H1 locs ht hvm hw hB hz1 hk1 hS => ?_)
                  subst hw
                  obtain ⟨hP1, hD1⟩ := hB
                  rw [ht] at hP1
                  obtain ⟨hP, hD⟩ := va_join (wr := []) (w1 := [(s0, .inr (3, [.ref aT, .ref qc, .int wt, .int ((rj_join (rx_trav he.1 he.2.1 he.2.2.1 he.2.2.2) (rs_meet wt r) rs_ch r fx rem (k + 1) ds2 (rs_ch k (rx_code s1 p1 o1) st)).1).2.1, .int ((rj_join (rx_trav he.1 he.2.1 he.2.2.1 he.2.2.2) (rs_meet wt r) rs_ch r fx rem (k + 1) ds2 (rs_ch k (rx_code s1 p1 o1) st)).1).2.2])), (qc, .inl (dA, 4, .inl ((rj_join (rx_trav he.1 he.2.1 he.2.2.1 he.2.2.2) (rs_meet wt r) rs_ch r fx rem (k + 1) ds2 (rs_ch k (rx_code s1 p1 o1) st)).1).1)), (aT, .inr (1, [.ref t1, .ref t2, .ref t3, .int he.2.2.2])), (t1, .inl (dA, 1024, .inl he.1)), (t2, .inl (dA, 32, .inl he.2.1)), (t3, .inl (dA, 32, .inl he.2.2.1))]) hP hD [0, 1, 2, 3, 4, 5] [] rfl rfl (by decide) (by decide) hk1 hFc hP1 hD1
                  clear hk1 hFc hPc hDc hP1 hD1
                  generalize H1 = H at hP hS ⊢
                  have hP : va_P (dC, dI) classes [(s0, .inr (3, [.ref aT, .ref qc, .int wt, .int ((rj_join (rx_trav he.1 he.2.1 he.2.2.1 he.2.2.2) (rs_meet wt r) rs_ch r fx rem (k + 1) ds2 (rs_ch k (rx_code s1 p1 o1) st)).1).2.1, .int ((rj_join (rx_trav he.1 he.2.1 he.2.2.1 he.2.2.2) (rs_meet wt r) rs_ch r fx rem (k + 1) ds2 (rs_ch k (rx_code s1 p1 o1) st)).1).2.2])), (qc, .inl (dA, 4, .inl ((rj_join (rx_trav he.1 he.2.1 he.2.2.1 he.2.2.2) (rs_meet wt r) rs_ch r fx rem (k + 1) ds2 (rs_ch k (rx_code s1 p1 o1) st)).1).1)), (aT, .inr (1, [.ref t1, .ref t2, .ref t3, .int he.2.2.2])), (t1, .inl (dA, 1024, .inl he.1)), (t2, .inl (dA, 32, .inl he.2.1)), (t3, .inl (dA, 32, .inl he.2.2.1))] H := hP.sub [0, 1, 2, 3, 4, 5] rfl
                  have hD : va_D A [(s0, .inr (3, [.ref aT, .ref qc, .int wt, .int ((rj_join (rx_trav he.1 he.2.1 he.2.2.1 he.2.2.2) (rs_meet wt r) rs_ch r fx rem (k + 1) ds2 (rs_ch k (rx_code s1 p1 o1) st)).1).2.1, .int ((rj_join (rx_trav he.1 he.2.1 he.2.2.1 he.2.2.2) (rs_meet wt r) rs_ch r fx rem (k + 1) ds2 (rs_ch k (rx_code s1 p1 o1) st)).1).2.2])), (qc, .inl (dA, 4, .inl ((rj_join (rx_trav he.1 he.2.1 he.2.2.1 he.2.2.2) (rs_meet wt r) rs_ch r fx rem (k + 1) ds2 (rs_ch k (rx_code s1 p1 o1) st)).1).1)), (aT, .inr (1, [.ref t1, .ref t2, .ref t3, .int he.2.2.2])), (t1, .inl (dA, 1024, .inl he.1)), (t2, .inl (dA, 32, .inl he.2.1)), (t3, .inl (dA, 32, .inl he.2.2.1))] := hD.sub [0, 1, 2, 3, 4, 5] (by decide) rfl
                  generalize hJ : rj_join (rx_trav he.1 he.2.1 he.2.2.1 he.2.2.2) (rs_meet wt r) rs_ch r fx rem (k + 1) ds2 (rs_ch k (rx_code s1 p1 o1) st) = J at hP hD hFq ⊢
                  rcases hj2 : J.2 with _ | _
                  · refine rv_eq (y := nI 0) (rfl) ?_
                    have hR2 := rj_fold_go hR (by rw [hFq]; exact hj2)
                    rw [hFq] at hR2
                    refine rv_if_eq (tgt := 261) hx hb d_Ma_join_256 (by decide) (by omega) (fun c_256 => ?_) (fun c_256 => absurd c_256 (by omega))
                    refine rv_dec (k := 3) (lv' := [(17, .int (nI n3)), (19, .long (lN (rt_pk ds2))), (16, .int x3b), (18, .int (nI (rx_code s1 p1 o1))), (14, .int (nI (n2 + 1))), (13, .int x2b), (11, .int (nI (n + 1))), (10, .int x1b), (12, .int (nI s1)), (15, .int (nI p1)), (0, .ref s0), (1, .int (nI r)), (2, .int (nI k)), (3, .int (rt_i fx)), (4, .long (lN (rt_pk ds))), (6, .int (nI (12 * r + 3 * k))), (8, .int (rt_i kP)), (9, .int (rt_i kO))]) hx hb d_Ma_join_261 hl rfl (by decide) rfl (fun ls hl => ?_)
                    refine lv_goto (tgt := 188) hx hb d_Ma_join_264 (by decide) ?_
                    exact ih3 x3b J.1 _ _ _ (hc3) (hR2) hP hD hS (lv_sub hl [0, 2, 4, 5, 6, 7, 8, 9, 10, 11, 12, 13, 14, 15, 16, 17] rfl)
                  · refine rv_eq (y := nI 1) (rfl) ?_
                    have hR2 := rj_fold_stop hR (by rw [hFq]; exact hj2)
                    rw [hFq] at hR2
                    refine rv_if_eq (tgt := 261) hx hb d_Ma_join_256 (by decide) (by omega) (fun c_256 => absurd c_256 (by omega)) (fun c_256 => ?_)
                    refine lv_iconst (v := nI 1) hx hb d_Ma_join_259 (by decide) ?_
                    subst hQ
                    exact W.zret (v := nI 1) hx hb hr (by rfl) (fun t ht hW => ⟨⟨nI 1, (), rfl, by rw [← hR2, hj2]; rfl, by rw [ht]; rw [← hR2]; exact hP, by rw [← hR2]; exact hD⟩, hS.F ht⟩) hS.2.2 d_Ma_join_260
            exact lp3 (rb_cnt (rx_os he.1 s1 p1 kO)) (rx_os he.1 s1 p1 kO) st _ _ _ (rfl) (hR) hP hD hS (lv_sub hl [0, 1, 4, 2, 5, 6, 7, 3, 8, 9, 10, 11, 12, 13, 14, 15] rfl)
        exact lp2 (rb_cnt (rx_ps he.2.2.1 s1 kP)) (rx_ps he.2.2.1 s1 kP) st _ _ _ (rfl) (hR) hP hD hS (lv_sub hl [0, 1, 4, 2, 3, 5, 6, 7, 8, 9, 10, 11, 12] rfl)
    exact lp1 (rb_cnt (rx_ss he.2.1 he.2.2.2 kS kP)) (rx_ss he.2.1 he.2.2.2 kS kP) st _ _ _ (rfl) (hR0) hP hD hS (lv_sub hl [0, 1, 6, 7, 8, 9, 10, 5, 3, 2] rfl)
  · have hfk : fx = some k := (rj_term_i (by omega) (fun u hu => by have := hfx u hu; omega)).mp c_23
    refine lv_aload_n hx hb d_Ma_join_26 rfl (lv_at hl 0 rfl) ?_
    refine lv_iload_n hx hb d_Ma_join_27 rfl (lv_at hl 1 rfl) ?_
    refine lv_iload_n hx hb d_Ma_join_28 rfl (lv_at hl 2 rfl) ?_
    refine lv_iconst (v := nI 1) hx hb d_Ma_join_29 (by decide) ?_
    refine rv_iadd hx hb d_Ma_join_30 ?_
    refine lv_iload_n hx hb d_Ma_join_31 rfl (lv_at hl 3 rfl) ?_
    refine lv_lload hx hb d_Ma_join_32 (lv_at hl 4 rfl) ?_
    have hPc := hP.sub (ws' := [(s0, .inr (3, [.ref aT, .ref qc, .int wt, .int st.2.1, .int st.2.2])), (qc, .inl (dA, 4, .inl st.1)), (aT, .inr (1, [.ref t1, .ref t2, .ref t3, .int he.2.2.2])), (t1, .inl (dA, 1024, .inl he.1)), (t2, .inl (dA, 32, .inl he.2.1)), (t3, .inl (dA, 32, .inl he.2.2.1))]) [0, 1, 2, 3, 4, 5] rfl
    have hDc := hD.sub (ws' := [(s0, .inr (3, [.ref aT, .ref qc, .int wt, .int st.2.1, .int st.2.2])), (qc, .inl (dA, 4, .inl st.1)), (aT, .inr (1, [.ref t1, .ref t2, .ref t3, .int he.2.2.2])), (t1, .inl (dA, 1024, .inl he.1)), (t2, .inl (dA, 32, .inl he.2.1)), (t3, .inl (dA, 32, .inl he.2.2.1))]) [0, 1, 2, 3, 4, 5] (by decide) rfl
    have hFc := va_free (wc := [(s0, .inr (3, [.ref aT, .ref qc, .int wt, .int st.2.1, .int st.2.2])), (qc, .inl (dA, 4, .inl st.1)), (aT, .inr (1, [.ref t1, .ref t2, .ref t3, .int he.2.2.2])), (t1, .inl (dA, 1024, .inl he.1)), (t2, .inl (dA, 32, .inl he.2.1)), (t3, .inl (dA, 32, .inl he.2.2.1))]) hD hS hA [0, 1, 2, 3, 4, 5] rfl
    refine va_calli (va_runS (As := [.ref s0, .int (nI r), .int (nI (k + 1)), .int (rt_i fx), .long (lN (rt_pk ds))]) (rest := []) ⟨hx, hb, hml, hown, hts⟩ (IH dC dI dA tP tG tC s0 qc aT t1 t2 t3 he r (k + 1) wt fx ds st H.size hr0 hfx hd (by omega)) (va_cwS 5 hts (rg_S (rg3 m_243 m_221 m_3) k_Ma_join) rfl rfl rfl (by decide +kernel) ⟨by show d + 1 ≤ d + 1; omega, by show 8 + (21 + 11) + 64 * d ≤ 64 * (d + 1); omega⟩) ⟨fun a U g mk q => ⟨q.1, q.2.1, q.2.2.1, va_K.moved (u := U) (U := U.calling g mk a) (Vm.Alike.refl U.vm) q.2.2.2.1, q.2.2.2.2.1, rn_same (u := U) (U := U.calling g mk a) rfl q.2.2.2.2.2.1, rz_same q.2.2.2.2.2.2⟩, fun U hU hW => ⟨rfl, by rw [hU], by rw [hU]; exact hPc, va_K.moved hW.alike hK, hDc.weaken (fun _ _ _ _ => trivial), rn_warm hW hN, rz_at hZ hS hU hW hFc⟩⟩ rfl rfl hl.1 rfl (lv_room (Nat.le_of_ble_eq_true rfl)) d_Ma_join_34 ⟨Nat.zero_le _, Nat.zero_le _⟩) hS (fun q _ h => hFc q h) hFc (fun r9 u t H1 locs ht hvm hw hB hz1 hk1 hS => ?_)
    subst hw
    obtain ⟨hP1, hD1⟩ := hB
    rw [ht] at hP1
    obtain ⟨hP, hD⟩ := va_join (wr := []) (w1 := [(s0, .inr (3, [.ref aT, .ref qc, .int wt, .int ((rj_join (rx_trav he.1 he.2.1 he.2.2.1 he.2.2.2) (rs_meet wt r) rs_ch r fx rem (k + 1) ds st).1).2.1, .int ((rj_join (rx_trav he.1 he.2.1 he.2.2.1 he.2.2.2) (rs_meet wt r) rs_ch r fx rem (k + 1) ds st).1).2.2])), (qc, .inl (dA, 4, .inl ((rj_join (rx_trav he.1 he.2.1 he.2.2.1 he.2.2.2) (rs_meet wt r) rs_ch r fx rem (k + 1) ds st).1).1)), (aT, .inr (1, [.ref t1, .ref t2, .ref t3, .int he.2.2.2])), (t1, .inl (dA, 1024, .inl he.1)), (t2, .inl (dA, 32, .inl he.2.1)), (t3, .inl (dA, 32, .inl he.2.2.1))]) hP hD [0, 1, 2, 3, 4, 5] [] rfl rfl (by decide) (by decide) hk1 hFc hP1 hD1
    clear hk1 hFc hPc hDc hP1 hD1
    generalize H1 = H at hP hS ⊢
    have hP : va_P (dC, dI) classes [(s0, .inr (3, [.ref aT, .ref qc, .int wt, .int ((rj_join (rx_trav he.1 he.2.1 he.2.2.1 he.2.2.2) (rs_meet wt r) rs_ch r fx rem (k + 1) ds st).1).2.1, .int ((rj_join (rx_trav he.1 he.2.1 he.2.2.1 he.2.2.2) (rs_meet wt r) rs_ch r fx rem (k + 1) ds st).1).2.2])), (qc, .inl (dA, 4, .inl ((rj_join (rx_trav he.1 he.2.1 he.2.2.1 he.2.2.2) (rs_meet wt r) rs_ch r fx rem (k + 1) ds st).1).1)), (aT, .inr (1, [.ref t1, .ref t2, .ref t3, .int he.2.2.2])), (t1, .inl (dA, 1024, .inl he.1)), (t2, .inl (dA, 32, .inl he.2.1)), (t3, .inl (dA, 32, .inl he.2.2.1))] H := hP.sub [0, 1, 2, 3, 4, 5] rfl
    have hD : va_D A [(s0, .inr (3, [.ref aT, .ref qc, .int wt, .int ((rj_join (rx_trav he.1 he.2.1 he.2.2.1 he.2.2.2) (rs_meet wt r) rs_ch r fx rem (k + 1) ds st).1).2.1, .int ((rj_join (rx_trav he.1 he.2.1 he.2.2.1 he.2.2.2) (rs_meet wt r) rs_ch r fx rem (k + 1) ds st).1).2.2])), (qc, .inl (dA, 4, .inl ((rj_join (rx_trav he.1 he.2.1 he.2.2.1 he.2.2.2) (rs_meet wt r) rs_ch r fx rem (k + 1) ds st).1).1)), (aT, .inr (1, [.ref t1, .ref t2, .ref t3, .int he.2.2.2])), (t1, .inl (dA, 1024, .inl he.1)), (t2, .inl (dA, 32, .inl he.2.1)), (t3, .inl (dA, 32, .inl he.2.2.1))] := hD.sub [0, 1, 2, 3, 4, 5] (by decide) rfl
    exact W.zret (v := rb_z (rj_join (rx_trav he.1 he.2.1 he.2.2.1 he.2.2.2) (rs_meet wt r) rs_ch r fx rem (k + 1) ds st).2) hx hb hr (rb_z_nar _) (fun t ht hW => ⟨⟨rb_z (rj_join (rx_trav he.1 he.2.1 he.2.2.1 he.2.2.2) (rs_meet wt r) rs_ch r fx rem (k + 1) ds st).2, (), rfl, by rw [show rj_join (rx_trav he.1 he.2.1 he.2.2.1 he.2.2.2) (rs_meet wt r) rs_ch r fx (rem + 1) k ds st = rj_join (rx_trav he.1 he.2.1 he.2.2.1 he.2.2.2) (rs_meet wt r) rs_ch r fx rem (k + 1) ds st from by show (if fx = some k then _ else _) = _; rw [if_pos hfk]], by rw [ht]; rw [show rj_join (rx_trav he.1 he.2.1 he.2.2.1 he.2.2.2) (rs_meet wt r) rs_ch r fx (rem + 1) k ds st = rj_join (rx_trav he.1 he.2.1 he.2.2.1 he.2.2.2) (rs_meet wt r) rs_ch r fx rem (k + 1) ds st from by show (if fx = some k then _ else _) = _; rw [if_pos hfk]]; exact hP, by rw [show rj_join (rx_trav he.1 he.2.1 he.2.2.1 he.2.2.2) (rs_meet wt r) rs_ch r fx (rem + 1) k ds st = rj_join (rx_trav he.1 he.2.1 he.2.2.1 he.2.2.2) (rs_meet wt r) rs_ch r fx rem (k + 1) ds st from by show (if fx = some k then _ else _) = _; rw [if_pos hfk]]; exact hD⟩, hS.F ht⟩) hS.2.2 d_Ma_join_37

theorem c_Ma_joinS (l : Launch) : ∀ (rem : Nat) (dC : Nat → ClassId) (dI : Nat → Nat → Nat) (dA : ClassId) (tP tG tC s0 qc aT t1 t2 t3 : Nat) (he : sT) (r k : Nat) (wt : Int32) (fx : Option Nat) (ds : List Nat) (st : sS) (sz : Nat) (hr0 : r < 24) (hfx : ∀ u, fx = some u → u < 4) (hd : rt_ok ds) (hk : k + rem = rq_cnts.getD r 0), Met l y_Ma_join (w_ y_Ma_join b_Ma_join 21 (some .boolean)) (rm_ (3 + rem)) (va_Pc [.ref s0, .int (nI r), .int (nI k), .int (rt_i fx), .long (lN (rt_pk ds))] (fun U => U.heap.size = sz ∧ va_P (dC, dI) classes [(s0, .inr (3, [.ref aT, .ref qc, .int wt, .int st.2.1, .int st.2.2])), (qc, .inl (dA, 4, .inl st.1)), (aT, .inr (1, [.ref t1, .ref t2, .ref t3, .int he.2.2.2])), (t1, .inl (dA, 1024, .inl he.1)), (t2, .inl (dA, 32, .inl he.2.1)), (t3, .inl (dA, 32, .inl he.2.2.1))] U.heap ∧ va_K (dC, dI) classes [(dA, .int)] U ∧ va_D (fun _ => True) [(s0, .inr (3, [.ref aT, .ref qc, .int wt, .int st.2.1, .int st.2.2])), (qc, .inl (dA, 4, .inl st.1)), (aT, .inr (1, [.ref t1, .ref t2, .ref t3, .int he.2.2.2])), (t1, .inl (dA, 1024, .inl he.1)), (t2, .inl (dA, 32, .inl he.2.1)), (t3, .inl (dA, 32, .inl he.2.2.1))] ∧ rn_ U ∧ rz_ tP tG tC (va_A [(s0, .inr (3, [.ref aT, .ref qc, .int wt, .int st.2.1, .int st.2.2])), (qc, .inl (dA, 4, .inl st.1)), (aT, .inr (1, [.ref t1, .ref t2, .ref t3, .int he.2.2.2])), (t1, .inl (dA, 1024, .inl he.1)), (t2, .inl (dA, 32, .inl he.2.1)), (t3, .inl (dA, 32, .inl he.2.2.1))] sz) U)) (va_Qi (fun (z9 : Int32) (_ : Unit) => z9 = rb_z (rj_join (rx_trav he.1 he.2.1 he.2.2.1 he.2.2.2) (rs_meet wt r) rs_ch r fx rem k ds st).2) (fun (_ : Unit) t => va_P (dC, dI) classes [(s0, .inr (3, [.ref aT, .ref qc, .int wt, .int ((rj_join (rx_trav he.1 he.2.1 he.2.2.1 he.2.2.2) (rs_meet wt r) rs_ch r fx rem k ds st).1).2.1, .int ((rj_join (rx_trav he.1 he.2.1 he.2.2.1 he.2.2.2) (rs_meet wt r) rs_ch r fx rem k ds st).1).2.2])), (qc, .inl (dA, 4, .inl ((rj_join (rx_trav he.1 he.2.1 he.2.2.1 he.2.2.2) (rs_meet wt r) rs_ch r fx rem k ds st).1).1)), (aT, .inr (1, [.ref t1, .ref t2, .ref t3, .int he.2.2.2])), (t1, .inl (dA, 1024, .inl he.1)), (t2, .inl (dA, 32, .inl he.2.1)), (t3, .inl (dA, 32, .inl he.2.2.1))] t.heap ∧ va_D (va_A [(s0, .inr (3, [.ref aT, .ref qc, .int wt, .int st.2.1, .int st.2.2])), (qc, .inl (dA, 4, .inl st.1)), (aT, .inr (1, [.ref t1, .ref t2, .ref t3, .int he.2.2.2])), (t1, .inl (dA, 1024, .inl he.1)), (t2, .inl (dA, 32, .inl he.2.1)), (t3, .inl (dA, 32, .inl he.2.2.1))] sz) [(s0, .inr (3, [.ref aT, .ref qc, .int wt, .int ((rj_join (rx_trav he.1 he.2.1 he.2.2.1 he.2.2.2) (rs_meet wt r) rs_ch r fx rem k ds st).1).2.1, .int ((rj_join (rx_trav he.1 he.2.1 he.2.2.1 he.2.2.2) (rs_meet wt r) rs_ch r fx rem k ds st).1).2.2])), (qc, .inl (dA, 4, .inl ((rj_join (rx_trav he.1 he.2.1 he.2.2.1 he.2.2.2) (rs_meet wt r) rs_ch r fx rem k ds st).1).1)), (aT, .inr (1, [.ref t1, .ref t2, .ref t3, .int he.2.2.2])), (t1, .inl (dA, 1024, .inl he.1)), (t2, .inl (dA, 32, .inl he.2.1)), (t3, .inl (dA, 32, .inl he.2.2.1))]) (va_A [(s0, .inr (3, [.ref aT, .ref qc, .int wt, .int st.2.1, .int st.2.2])), (qc, .inl (dA, 4, .inl st.1)), (aT, .inr (1, [.ref t1, .ref t2, .ref t3, .int he.2.2.2])), (t1, .inl (dA, 1024, .inl he.1)), (t2, .inl (dA, 32, .inl he.2.1)), (t3, .inl (dA, 32, .inl he.2.2.1))] sz)) 0 0 (va_A [(s0, .inr (3, [.ref aT, .ref qc, .int wt, .int st.2.1, .int st.2.2])), (qc, .inl (dA, 4, .inl st.1)), (aT, .inr (1, [.ref t1, .ref t2, .ref t3, .int he.2.2.2])), (t1, .inl (dA, 1024, .inl he.1)), (t2, .inl (dA, 32, .inl he.2.1)), (t3, .inl (dA, 32, .inl he.2.2.1))] sz) := by
  intro rem
  induction rem with
  | zero => intro dC dI dA tP tG tC s0 qc aT t1 t2 t3 he r k wt fx ds st sz hr0 hfx hd hk; exact c_Ma_joinS0 l dC dI dA tP tG tC s0 qc aT t1 t2 t3 he r k wt fx ds st sz hr0 hfx hd hk
  | succ rem ih => exact c_Ma_joinSs l (3 + rem) rem (by omega) ih
end
section
/-! models of the rounds, and what stays true of their states -/
theorem rj_fold_inv2 {σ α : Type} {I : σ → Prop} {f : σ → α → σ × Bool} : ∀ (l : List α) (st : σ), (∀ st c, c ∈ l → I st → I (f st c).1) → I st → I (rj_fold f st l).1
  | [], _, _, h => h
  | c :: l, st, hf, h => by
    show I (if (f st c).2 = true then f st c else rj_fold f (f st c).1 l).1
    split
    · exact hf st c List.mem_cons_self h
    · exact rj_fold_inv2 l _ (fun st c hc => hf st c (List.mem_cons_of_mem _ hc)) (hf st c List.mem_cons_self h)
theorem rj_join_inv2 {σ : Type} {I : σ → Prop} {TV : Option Nat → Option Nat → Option Nat → List Nat} {mt : List Nat → σ → σ × Bool} {ch : Nat → Nat → σ → σ} {r : Nat} {fx : Option Nat} (hTV : ∀ a b d c, c ∈ TV a b d → c < 32768) (hm : ∀ ds st, rt_ok ds → I st → I (mt ds st).1) (hc : ∀ k c st, I st → I (ch k c st)) : ∀ (rem k : Nat) (ds : List Nat) (st : σ), rt_ok ds → I st → I (rj_join TV mt ch r fx rem k ds st).1
  | 0, _, ds, st, hd, h => hm ds st hd h
  | rem + 1, k, ds, st, hd, h => by
    show I (if fx = some k then rj_join TV mt ch r fx rem (k + 1) ds st else _).1
    split
    · exact rj_join_inv2 hTV hm hc rem (k + 1) ds st hd h
    · refine rj_fold_inv2 _ _ (fun st c hcm h => ?_) h
      unfold rj_body
      split
      · exact hc k c st h
      · rename_i ds' hq
        exact rj_join_inv2 hTV hm hc rem (k + 1) _ _ (rt_fit_ok hd (hTV _ _ _ c hcm) hq) (hc k c st h)
theorem rx_trav_lt {f g h : Nat → Int32} {al : Int32} (a b d : Option Nat) (c : Nat) (hc : c ∈ rx_trav f g h al a b d) : c < 32768 := by
  unfold rx_trav at hc
  obtain ⟨s, hs, hc⟩ := List.mem_flatMap.mp hc
  obtain ⟨p, hp, hc⟩ := List.mem_flatMap.mp hc
  obtain ⟨o, ho, rfl⟩ := List.mem_map.mp hc
  exact rx_code_lt (rb_mem.mp hs).1 (rb_mem.mp hp).1 (rb_mem.mp ho).1
theorem rj_given_lt {r : Nat} {ds : List Nat} (hd : rt_ok ds) : rj_given r ds < 32768 := by
  have h : ∀ k, (rt_term k ds).getD 0 < 32 := by
    intro k
    cases hk : rt_term k ds with
    | none => decide
    | some u => exact rt_term_lt hd hk
  exact rx_code_lt (h _) (h _) (h _)
/-- the number behind an int -/
def rk_ (f : Nat → Int32) (i : Nat) : Nat := (f i).toBitVec.toNat
theorem rk_nI (f : Nat → Int32) (i : Nat) : nI (rk_ f i) = f i := (rb_of (f i)).symm
theorem rk_upd {f : Nat → Int32} {i j c : Nat} (hc : c < 4294967296) : rk_ (upd f i (nI c)) j = if j = i then c else rk_ f j := by
  unfold rk_ upd
  split
  · exact rb_tn hc
  · rfl
/-- what stays true of a state: not too many, and codes are codes -/
def rd_ok (st : sD) : Prop := st.2.2.2.2.1 ≤ 400 ∧ ∀ i, i < st.2.2.2.2.1 → rk_ st.2.2.1 i < 32768
theorem rd_ok_add {now c : Nat} {st : sD} (hc : c < 32768) (h : rd_ok st) : rd_ok (rd_add now c st) := by
  refine ⟨rd_cnt_le h.1, ?_⟩
  unfold rd_add
  split
  · exact h.2
  · split
    · exact h.2
    · intro i hi
      show rk_ (upd st.2.2.1 st.2.2.2.2.1 (nI c)) i < 32768
      rw [rk_upd (by omega)]
      split
      · exact hc
      · exact h.2 i (by have : i < st.2.2.2.2.1 + 1 := hi; omega)
theorem rd_ok_join {f g h : Nat → Int32} {al : Int32} {now r : Nat} {fx : Option Nat} (rem k : Nat) (ds : List Nat) (st : sD) (hd : rt_ok ds) (hs : rd_ok st) : rd_ok (rj_join (rx_trav f g h al) (rd_meet now r) rd_ch r fx rem k ds st).1 :=
  rj_join_inv2 (I := rd_ok) (mt := rd_meet now r) (ch := rd_ch) (fun _ _ _ _ hc => rx_trav_lt _ _ _ _ hc) (fun _ _ hd h => rd_ok_add (rj_given_lt hd) h) (fun _ _ _ h => h) rem k ds st hd hs
/-- one rule with one premise fixed -/
def rd_F (he : sT) (now c : Nat) (st : sD) (q : Nat × Nat) : sD × Bool :=
  match rt_fit (rq_prem.getD (12 * q.1 + 3 * q.2) 0) (rq_prem.getD (12 * q.1 + 3 * q.2 + 1) 0) (rq_prem.getD (12 * q.1 + 3 * q.2 + 2) 0) c rt_free with
  | none => (st, false)
  | some ds => rj_join (rx_trav he.1 he.2.1 he.2.2.1 he.2.2.2) (rd_meet now q.1) rd_ch q.1 (some q.2) (rq_cnts.getD q.1 0) 0 ds st
def rd_row (x : Int32) (r : Nat) : List (Nat × Nat) := if rb_b x r then (List.range' 0 (rq_cnts.getD r 0)).map (fun f => (r, f)) else []
def rd_apply (he : sT) (now : Nat) (x : Int32) (c : Nat) (st : sD) : sD := (rj_fold (rd_F he now c) st ((List.range' 0 21).flatMap (rd_row x))).1
theorem rj_cov_init {r f c : Nat} {ds : List Nat} (hc : c < 32768) (h : rt_fit (rq_prem.getD (12 * r + 3 * f) 0) (rq_prem.getD (12 * r + 3 * f + 1) 0) (rq_prem.getD (12 * r + 3 * f + 2) 0) c rt_free = some ds) : rj_cov r 0 (some f) ds := by
  obtain ⟨t1, t2, t3⟩ := rt_fit_this rt_free_ok hc (rq_prem_lt _) (rq_prem_lt _) (rq_prem_lt _) h
  intro j _ hj t ht
  rcases hj with hj | hj
  · exact absurd hj (Nat.not_lt_zero _)
  · cases hj
    rcases (show t = 0 ∨ t = 1 ∨ t = 2 by omega) with rfl | rfl | rfl
    · exact ⟨_, by omega, t1⟩
    · exact ⟨_, by omega, t2⟩
    · exact ⟨_, by omega, t3⟩
theorem rd_ok_F {he : sT} {now c : Nat} {st : sD} {q : Nat × Nat} (hc : c < 32768) (h : rd_ok st) : rd_ok (rd_F he now c st q).1 := by
  unfold rd_F
  split
  · exact h
  · rename_i ds hq
    exact rd_ok_join _ _ _ _ (rt_fit_ok rt_free_ok hc hq) h
theorem rd_ok_apply {he : sT} {now c : Nat} {x : Int32} {st : sD} (hc : c < 32768) (h : rd_ok st) : rd_ok (rd_apply he now x c st) :=
  rj_fold_inv2 (I := rd_ok) _ _ (fun _ _ _ h => rd_ok_F hc h) h
/-- which rules have a first premise that something can meet -/
def rd_reach (g : Nat → Int32) : Nat → Nat → Int32 → Int32
  | 0, _, m => m
  | n + 1, r, m => rd_reach g n (r + 1) (if g (rq_prem.getD (12 * r + 3 * 0 + 1) 0) = 0 then m else m ||| (nI 1) <<< (nI r &&& 31))
theorem rq_prem_p : ∀ r, r < 24 → rq_prem.getD (12 * r + 3 * 0 + 1) 0 < 32 := by decide +kernel
/-- the codes from one place to another go into the set -/
def rd_puts (f : Nat → Int32) : Nat → Nat → sT → sT
  | 0, _, x => x
  | n + 1, i, x => rd_puts f n (i + 1) (rx_put (rk_ f i) x)
def rd_all (he : sT) (now : Nat) (x : Int32) : Nat → Nat → sD → sD
  | 0, _, st => st
  | n + 1, i, st => if st.2.2.2.2.2 = true then st else rd_all he now x n (i + 1) (rd_apply he now x (rk_ st.2.2.1 i) st)
def rd_start (sc : Nat → Nat) : Nat → Nat → sD → sD
  | 0, _, st => st
  | n + 1, i, st => rd_start sc n (i + 1) (rd_add 0 (sc i) st)
/-- what a round starts from: the set of the rounds before, the state, the number of the round last begun -/
abbrev sR : Type := sT × sD × Nat
def rd_round (x : Int32) (r frm : Nat) (z : sR) : sR :=
  let he := rd_puts z.2.1.2.2.1 (z.2.1.2.2.2.2.1 - frm) frm z.1
  (he, rd_all he r (x &&& rd_reach he.2.1 21 0 (nI 0)) (z.2.1.2.2.2.2.1 - frm) frm z.2.1, r)
def rd_rounds (x : Int32) : Nat → Nat → Nat → sR → sR
  | 0, _, _, z => z
  | n + 1, r, frm, z => if frm < z.2.1.2.2.2.2.1 ∧ z.2.1.2.2.2.2.2 = false then rd_rounds x n (r + 1) z.2.1.2.2.2.2.1 (rd_round x r frm z) else z
def rx_zero : sT := (fun _ => nI 0, fun _ => nI 0, fun _ => nI 0, nI 0)
def rd_derive (sc : Nat → Nat) (n : Nat) (x : Int32) (st : sD) : sR := rd_rounds x 400 1 0 (rx_zero, rd_start sc n 0 (st.1, rx_zero, st.2.2.1, st.2.2.2.1, 0, false), 0)
theorem rd_ok_start {sc : Nat → Nat} : ∀ (n i : Nat) (st : sD), (∀ j, j < i + n → sc j < 32768) → rd_ok st → rd_ok (rd_start sc n i st)
  | 0, _, _, _, h => h
  | n + 1, i, st, hs, h => rd_ok_start n (i + 1) _ (fun j hj => hs j (by omega)) (rd_ok_add (hs i (by omega)) h)
theorem rd_add_mono {now c : Nat} {st : sD} : st.2.2.2.2.1 ≤ (rd_add now c st).2.2.2.2.1 ∧ ∀ i, i < st.2.2.2.2.1 → (rd_add now c st).2.2.1 i = st.2.2.1 i := by
  unfold rd_add
  split
  · exact ⟨Nat.le_refl _, fun _ _ => rfl⟩
  · split
    · exact ⟨Nat.le_refl _, fun _ _ => rfl⟩
    · refine ⟨Nat.le_succ _, fun i hi => ?_⟩
      show upd st.2.2.1 st.2.2.2.2.1 (nI c) i = st.2.2.1 i
      unfold upd
      rw [if_neg (by omega)]
/-- a later state: no fewer, the old codes stand -/
def rd_le (a b : sD) : Prop := a.2.2.2.2.1 ≤ b.2.2.2.2.1 ∧ ∀ i, i < a.2.2.2.2.1 → b.2.2.1 i = a.2.2.1 i
theorem rd_le_refl (a : sD) : rd_le a a := ⟨Nat.le_refl _, fun _ _ => rfl⟩
theorem rd_le_trans {a b c : sD} (h1 : rd_le a b) (h2 : rd_le b c) : rd_le a c := ⟨Nat.le_trans h1.1 h2.1, fun i hi => (h2.2 i (by have := h1.1; omega)).trans (h1.2 i hi)⟩
theorem rd_le_join {TV : Option Nat → Option Nat → Option Nat → List Nat} {now r : Nat} {fx : Option Nat} (rem k : Nat) (ds : List Nat) (st : sD) : rd_le st (rj_join TV (rd_meet now r) rd_ch r fx rem k ds st).1 :=
  rj_join_inv (I := fun b => rd_le st b) (mt := rd_meet now r) (ch := rd_ch) (fun _ _ h => rd_le_trans h rd_add_mono) (fun _ _ _ h => h) rem k ds st (rd_le_refl st)
theorem rd_le_apply {he : sT} {now c : Nat} {x : Int32} {st : sD} : rd_le st (rd_apply he now x c st) :=
  rj_fold_inv (I := fun b => rd_le st b) (fun st2 q h => by
    unfold rd_F
    split
    · exact h
    · exact rd_le_trans h (rd_le_join _ _ _ _)) _ _ (rd_le_refl st)
theorem rd_ok_all {he : sT} {now : Nat} {x : Int32} : ∀ (n i : Nat) (st : sD), i + n ≤ st.2.2.2.2.1 → rd_ok st → rd_ok (rd_all he now x n i st)
  | 0, _, _, _, h => h
  | n + 1, i, st, hi, h => by
    show rd_ok (if st.2.2.2.2.2 = true then st else rd_all he now x n (i + 1) (rd_apply he now x (rk_ st.2.2.1 i) st))
    split
    · exact h
    · have hl := rd_le_apply (he := he) (now := now) (x := x) (c := rk_ st.2.2.1 i) (st := st)
      exact rd_ok_all n (i + 1) _ (by have := hl.1; omega) (rd_ok_apply (h.2 i (by omega)) h)
theorem rd_le_all {he : sT} {now : Nat} {x : Int32} : ∀ (n i : Nat) (st : sD), rd_le st (rd_all he now x n i st)
  | 0, _, st => rd_le_refl st
  | n + 1, i, st => by
    show rd_le st (if st.2.2.2.2.2 = true then st else rd_all he now x n (i + 1) (rd_apply he now x (rk_ st.2.2.1 i) st))
    split
    · exact rd_le_refl st
    · exact rd_le_trans rd_le_apply (rd_le_all n (i + 1) _)
theorem rd_ok_rounds {x : Int32} : ∀ (n r frm : Nat) (z : sR), frm ≤ z.2.1.2.2.2.2.1 → rd_ok z.2.1 → rd_ok (rd_rounds x n r frm z).2.1
  | 0, _, _, _, _, h => h
  | n + 1, r, frm, z, hf, h => by
    show rd_ok (if frm < z.2.1.2.2.2.2.1 ∧ z.2.1.2.2.2.2.2 = false then rd_rounds x n (r + 1) z.2.1.2.2.2.2.1 (rd_round x r frm z) else z).2.1
    split
    · exact rd_ok_rounds n (r + 1) _ _ (rd_le_all _ _ _).1 (rd_ok_all _ _ _ (by omega) h)
    · exact h
theorem rd_ok_derive {sc : Nat → Nat} {n : Nat} {x : Int32} {st : sD} (hs : ∀ j, j < n → sc j < 32768) : rd_ok (rd_derive sc n x st).2.1 :=
  rd_ok_rounds _ _ _ _ (Nat.zero_le _) (rd_ok_start n 0 _ (fun j hj => hs j (by omega)) ⟨Nat.zero_le _, fun i hi => absurd hi (Nat.not_lt_zero _)⟩)
/-! the seeker's -/
def rs_F (he : sT) (wt : Int32) (c : Nat) (st : sS) (r : Nat) : sS × Bool :=
  match rt_fit (rq_given.getD (3 * r) 0) (rq_given.getD (3 * r + 1) 0) (rq_given.getD (3 * r + 2) 0) c rt_free with
  | none => (st, false)
  | some ds => rj_join (rx_trav he.1 he.2.1 he.2.2.1 he.2.2.2) (rs_meet wt r) rs_ch r none (rq_cnts.getD r 0) 0 ds st
def rs_G (he : sT) (wt : Int32) (c : Nat) (x : Int32) (st : sS) (r : Nat) : sS × Bool := if rb_b x r then rs_F he wt c st r else (st, false)
def rs_way (he : sT) (wt : Int32) (c : Nat) (x : Int32) (st : sS) : sS × Bool := rj_fold (rs_G he wt c x) (st.1, nI 0, st.2.2) (List.range' 0 21)
def rs_K (he : sT) (wt : Int32) (st : sS) (k : Nat) : sS × Bool := rj_join (rx_trav he.1 he.2.1 he.2.2.1 he.2.2.2) (rs_meet wt (21 + k)) rs_ch (21 + k) none (rq_cnts.getD (21 + k) 0) 0 rt_free st
def rs_clash (he : sT) (wt : Int32) (st : sS) : sS × Bool := rj_fold (rs_K he wt) (st.1, nI 0, st.2.2) (List.range' 0 3)
end
section
set_option maxHeartbeats 4000000 in
set_option maxRecDepth 100000 in
theorem c_De_rulesInReach (l : Launch) (dC : Nat → ClassId) (dI : Nat → Nat → Nat) (dA : ClassId) (tP tG tC d0 qc aT t1 t2 t3 aU u1 u2 u3 qk qr : Nat) (he : sT) (now : Nat) (st : sD) : Met l y_De_rulesInReach (w_ y_De_rulesInReach b_De_rulesInReach 4 (some .int)) (rm_ 2) (va_Pc [.ref d0] (fun U => va_K (dC, dI) classes [(dA, .int)] U ∧ va_P (dC, dI) classes [(d0, .inr (2, [.ref aT, .ref qc, .ref aU, .ref qk, .ref qr, .int (nI now), .int (nI st.2.2.2.2.1), .int (rb_z st.2.2.2.2.2)])), (aT, .inr (1, [.ref t1, .ref t2, .ref t3, .int he.2.2.2])), (t1, .inl (dA, 1024, .inl he.1)), (t2, .inl (dA, 32, .inl he.2.1)), (t3, .inl (dA, 32, .inl he.2.2.1))] U.heap ∧ rn_ U ∧ rz_ tP tG tC (fun _ => False) U)) (va_Qi (fun (z9 : Int32) (_ : Unit) => z9 = rd_reach he.2.1 21 0 (nI 0)) (fun _ _ => True) (fun _ => False)) 0 0 (fun _ => False) := by
  refine Met.ofW (cc := b_De_rulesInReach) (maxL := 4) (ret := (some .int)) (by decide) rfl ?_
  intro p e s m args below meth c s₁ B hml hv
  obtain ⟨rfl, hK, hP, hN, hZ⟩ := hv
  have hx := B.exec
  have hb := B.bytes
  have hr := B.returns
  have hts := atoms_spec (ws := (w_ y_De_rulesInReach b_De_rulesInReach 4 (some .int))) B.pre
  have hown : s.vm.findClass R_De = some m.cls := findClass_of_methodNamed B.named
  have hlocks := B.notSynchronized
  have hS : va_S (fun _ => False) s.heap s.heap [] := va_S.rf
  have hl := lv_entry ([.ref d0]) (n := 4) (Nat.le_of_ble_eq_true rfl)
  rw [lg_entry_eq]
  generalize (lg_sl ([.ref d0]) ++ List.replicate (4 - (lg_sl ([.ref d0])).length) Slot.unset).toArray = ls at hl ⊢
  have hl : lv_has ls 4 [(0, .ref d0)] := hl
  refine lv_iconst (v := nI 0) hx hb d_De_rulesInReach_0 (by decide) ?_
  refine lv_istore_n (lv' := [(1, .int (nI 0)), (0, .ref d0)]) hx hb d_De_rulesInReach_1 rfl hl (by decide) rfl (fun ls hl => ?_)
  refine lv_iconst (v := nI 0) hx hb d_De_rulesInReach_2 (by decide) ?_
  refine lv_istore_n (lv' := [(2, .int (nI 0)), (1, .int (nI 0)), (0, .ref d0)]) hx hb d_De_rulesInReach_3 rfl hl (by decide) rfl (fun ls hl => ?_)
  refine rv_Q (fun Q hQ => ?_)
  have lp : ∀ (n : Nat) (row : Nat) (mm : Int32) (H : Heap) (locs : List Loc) (ls : Array Slot), row + n = 21 → rd_reach he.2.1 n row mm = rd_reach he.2.1 21 0 (nI 0) → va_P (dC, dI) classes [(d0, .inr (2, [.ref aT, .ref qc, .ref aU, .ref qk, .ref qr, .int (nI now), .int (nI st.2.2.2.2.1), .int (rb_z st.2.2.2.2.2)])), (aT, .inr (1, [.ref t1, .ref t2, .ref t3, .int he.2.2.2])), (t1, .inl (dA, 1024, .inl he.1)), (t2, .inl (dA, 32, .inl he.2.1)), (t3, .inl (dA, 32, .inl he.2.2.1))] H → va_S (fun _ => False) s.heap H locs → lv_has ls 4 [(2, .int (nI row)), (1, .int mm), (0, .ref d0)] → W p l e (headSpec (w_ y_De_rulesInReach b_De_rulesInReach 4 (some .int)) (rm_ 2)).room s m ([.ref d0] : List Value).toArray below meth c H locs 0 0 Q (F0 m 4 ls []) := by
    intro n
    induction n with
    | zero =>
      intro row mm H locs ls hn hR hP hS hl
      refine lv_iload_n hx hb d_De_rulesInReach_4 rfl (lv_at hl 0 rfl) ?_
      refine lv_bipush (v := nI 21) hx hb d_De_rulesInReach_5 (by decide) ?_
      refine rv_icmp_ge (tgt := 46) hx hb d_De_rulesInReach_7 (by decide) (by omega) (by omega) (fun c_7 => ?_) (fun c_7 => absurd c_7 (by omega))
      refine lv_iload_n hx hb d_De_rulesInReach_46 rfl (lv_at hl 1 rfl) ?_
      subst hQ
      exact W.iret (v := mm) hx hb hr (fun t ht hW => ⟨⟨mm, (), rfl, hR, trivial⟩, hS.F ht⟩) hS.2.2 d_De_rulesInReach_47
    | succ n ih =>
      intro row mm H locs ls hn hR hP hS hl
      have hpp := rq_prem_p row (by omega)
      refine lv_iload_n hx hb d_De_rulesInReach_4 rfl (lv_at hl 0 rfl) ?_
      refine lv_bipush (v := nI 21) hx hb d_De_rulesInReach_5 (by decide) ?_
      refine rv_icmp_ge (tgt := 46) hx hb d_De_rulesInReach_7 (by decide) (by omega) (by omega) (fun c_7 => absurd c_7 (by omega)) (fun c_7 => ?_)
      refine va_gets hx hb hZ.1.1 hS hown (hts _ (List.mem_cons_of_mem _ m_188)) (fun _ h9 => h9) d_De_rulesInReach_10 ?_
      refine lv_iload_n hx hb d_De_rulesInReach_13 rfl (lv_at hl 0 rfl) ?_
      refine lv_iconst (v := nI 0) hx hb d_De_rulesInReach_14 (by decide) ?_
      refine rv_calli (r := nI (12 * row + 3 * 0)) (va_runS (As := [.int (nI row), .int (nI 0)]) (rest := [.ref tP]) ⟨hx, hb, hml, hown, hts⟩ (c_Tb_premiseAt l row 0) (va_cwS 2 hts (rg_S (rg3 m_190 m_191 m_8) k_Tb_premiseAt) rfl rfl rfl (by decide +kernel) ⟨Nat.le_of_ble_eq_true rfl, Nat.le_of_ble_eq_true rfl⟩) ⟨fun _ _ _ _ q => q, fun U hU hW => ⟨rfl, trivial⟩⟩ rfl rfl hl.1 rfl (lv_room (Nat.le_of_ble_eq_true rfl)) d_De_rulesInReach_15 ⟨Nat.zero_le _, Nat.zero_le _⟩) hS (fun _ h => h.elim) (fun H locs hk hS => ?_)
      have hP := rv_kept hP hk
      refine lv_iconst (v := nI 1) hx hb d_De_rulesInReach_18 (by decide) ?_
      refine rv_iadd hx hb d_De_rulesInReach_19 ?_
      refine rv_ti (k := ((12 * row + 3 * 0) + 1)) hx hb hZ.1.2 hS (by omega) (by decide) (v := .int (nI (rq_prem.getD ((12 * row + 3 * 0) + 1) 0))) rfl d_De_rulesInReach_20 ?_
      refine lv_istore_n (lv' := [(3, .int (nI (rq_prem.getD ((12 * row + 3 * 0) + 1) 0))), (2, .int (nI row)), (1, .int mm), (0, .ref d0)]) hx hb d_De_rulesInReach_21 rfl hl (by decide) rfl (fun ls hl => ?_)
      refine lv_aload_n hx hb d_De_rulesInReach_22 rfl (lv_at hl 3 rfl) ?_
      refine va_get (D := (dC, dI)) (ci := 2) (v := .ref aT) (C := R_De) (T := F_De) (N := 8) hx hb hts (rg_c i_De) hown hK hP 0 rfl rfl 0 (by decide) (hts _ (List.mem_cons_of_mem _ m_61)) (fun x9 h9 => u_same (hts _ (List.mem_cons_of_mem _ m_62)) x9 h9) rfl d_De_rulesInReach_23 ?_
      refine lv_iconst (v := (-1)) hx hb d_De_rulesInReach_26 (by decide) ?_
      refine lv_iload_n hx hb d_De_rulesInReach_27 rfl (lv_at hl 0 rfl) ?_
      refine rv_calli (r := rx_ss he.2.1 he.2.2.2 none (some (rq_prem.getD ((12 * row + 3 * 0) + 1) 0))) (va_runV (As := [.int (-1), .int (nI (rq_prem.getD ((12 * row + 3 * 0) + 1) 0))]) (rest := []) ⟨hx, hb, hml, hown, hts⟩ (c_Tr_subjectsFor l dC dI dA aT t1 t2 t3 he.1 he.2.1 he.2.2.1 he.2.2.2 none (some (rq_prem.getD ((12 * row + 3 * 0) + 1) 0)) (fun _ h => by cases h) (fun x hx => by cases hx; exact hpp)) (cwV 2 hts (rg_V (rg4 m_193 m_194 m_195 m_2) k_Tr_subjectsFor) rfl rfl rfl (by decide +kernel) ⟨Nat.le_of_ble_eq_true rfl, Nat.le_of_ble_eq_true rfl⟩) ⟨fun a U g mk q => ⟨q.1, va_K.moved (u := U) (U := U.calling g mk a) (Vm.Alike.refl U.vm) q.2.1, q.2.2.1, rn_same (u := U) (U := U.calling g mk a) rfl q.2.2.2⟩, va_recv hK hP (ci := 1) (q0 := 1) rfl rfl, fun U hU hW => ⟨rfl, va_K.moved hW.alike hK, by rw [hU]; exact hP.sub (ws' := [(aT, .inr (1, [.ref t1, .ref t2, .ref t3, .int he.2.2.2])), (t1, .inl (dA, 1024, .inl he.1)), (t2, .inl (dA, 32, .inl he.2.1)), (t3, .inl (dA, 32, .inl he.2.2.1))]) [1, 2, 3, 4] rfl, rn_warm hW hN⟩⟩ rfl rfl hl.1 rfl (lv_room (Nat.le_of_ble_eq_true rfl)) d_De_rulesInReach_28 ⟨Nat.zero_le _, Nat.zero_le _⟩) hS (fun _ h => h.elim) (fun H locs hk hS => ?_)
      have hP := rv_kept hP hk
      refine rv_eq (y := he.2.1 (rq_prem.getD (12 * row + 3 * 0 + 1) 0)) (rfl) ?_
      refine lv_if_eq (tgt := 40) hx hb d_De_rulesInReach_31 (by decide) (fun c_31 => ?_) (fun c_31 => ?_)
      · have hR2 : rd_reach he.2.1 n (row + 1) mm = rd_reach he.2.1 21 0 (nI 0) := by rw [← hR]; show _ = rd_reach _ n (row + 1) (if _ then _ else _); rw [if_pos c_31]
        refine rv_inc (k := 1) (lv' := [(2, .int (nI (row + 1))), (3, .int (nI (rq_prem.getD ((12 * row + 3 * 0) + 1) 0))), (1, .int mm), (0, .ref d0)]) hx hb d_De_rulesInReach_40 hl rfl (by decide) rfl (fun ls hl => ?_)
        refine lv_goto (tgt := 4) hx hb d_De_rulesInReach_43 (by decide) ?_
        exact ih (row + 1) mm _ _ _ (by omega) (hR2) hP hS (lv_sub hl [0, 2, 3] rfl)
      · have hR2 : rd_reach he.2.1 n (row + 1) (mm ||| (nI 1) <<< (nI row &&& 31)) = rd_reach he.2.1 21 0 (nI 0) := by rw [← hR]; show _ = rd_reach _ n (row + 1) (if _ then _ else _); rw [if_neg c_31]
        refine lv_iload_n hx hb d_De_rulesInReach_34 rfl (lv_at hl 2 rfl) ?_
        refine lv_iconst (v := nI 1) hx hb d_De_rulesInReach_35 (by decide) ?_
        refine lv_iload_n hx hb d_De_rulesInReach_36 rfl (lv_at hl 1 rfl) ?_
        refine lv_ishl hx hb d_De_rulesInReach_37 ?_
        refine lv_ior hx hb d_De_rulesInReach_38 ?_
        refine lv_istore_n (lv' := [(1, .int (mm ||| ((nI 1) <<< ((nI row) &&& 31)))), (3, .int (nI (rq_prem.getD ((12 * row + 3 * 0) + 1) 0))), (2, .int (nI row)), (0, .ref d0)]) hx hb d_De_rulesInReach_39 rfl hl (by decide) rfl (fun ls hl => ?_)
        refine rv_inc (k := 2) (lv' := [(2, .int (nI (row + 1))), (1, .int (mm ||| ((nI 1) <<< ((nI row) &&& 31)))), (3, .int (nI (rq_prem.getD ((12 * row + 3 * 0) + 1) 0))), (0, .ref d0)]) hx hb d_De_rulesInReach_40 hl rfl (by decide) rfl (fun ls hl => ?_)
        refine lv_goto (tgt := 4) hx hb d_De_rulesInReach_43 (by decide) ?_
        exact ih (row + 1) (mm ||| (nI 1) <<< (nI row &&& 31)) _ _ _ (by omega) (hR2) hP hS (lv_sub hl [0, 1, 3] rfl)
  exact lp 21 0 (nI 0) _ _ _ (by omega) (rfl) hP hS (lv_sub hl [0, 1, 2] rfl)

set_option maxHeartbeats 4000000 in
set_option maxRecDepth 100000 in
theorem c_De_applyRules (l : Launch) (dC : Nat → ClassId) (dI : Nat → Nat → Nat) (dA : ClassId) (tP tG tC d0 qc aT t1 t2 t3 aU u1 u2 u3 qk qr : Nat) (he : sT) (now c0 : Nat) (x : Int32) (st : sD) (sz : Nat) (hc : c0 < 32768) (hok : rd_ok st) : Met l y_De_applyRules (w_ y_De_applyRules b_De_applyRules 9 none) (rm_ 8) (va_Pc [.ref d0, .int (nI c0), .int x] (fun U => U.heap.size = sz ∧ va_P (dC, dI) classes [(d0, .inr (2, [.ref aT, .ref qc, .ref aU, .ref qk, .ref qr, .int (nI now), .int (nI st.2.2.2.2.1), .int (rb_z st.2.2.2.2.2)])), (qc, .inl (dA, 4, .inl st.1)), (aT, .inr (1, [.ref t1, .ref t2, .ref t3, .int he.2.2.2])), (t1, .inl (dA, 1024, .inl he.1)), (t2, .inl (dA, 32, .inl he.2.1)), (t3, .inl (dA, 32, .inl he.2.2.1)), (aU, .inr (1, [.ref u1, .ref u2, .ref u3, .int st.2.1.2.2.2])), (u1, .inl (dA, 1024, .inl st.2.1.1)), (u2, .inl (dA, 32, .inl st.2.1.2.1)), (u3, .inl (dA, 32, .inl st.2.1.2.2.1)), (qk, .inl (dA, 400, .inl st.2.2.1)), (qr, .inl (dA, 400, .inl st.2.2.2.1))] U.heap ∧ va_K (dC, dI) classes [(dA, .int)] U ∧ va_D (fun _ => True) [(d0, .inr (2, [.ref aT, .ref qc, .ref aU, .ref qk, .ref qr, .int (nI now), .int (nI st.2.2.2.2.1), .int (rb_z st.2.2.2.2.2)])), (qc, .inl (dA, 4, .inl st.1)), (aT, .inr (1, [.ref t1, .ref t2, .ref t3, .int he.2.2.2])), (t1, .inl (dA, 1024, .inl he.1)), (t2, .inl (dA, 32, .inl he.2.1)), (t3, .inl (dA, 32, .inl he.2.2.1)), (aU, .inr (1, [.ref u1, .ref u2, .ref u3, .int st.2.1.2.2.2])), (u1, .inl (dA, 1024, .inl st.2.1.1)), (u2, .inl (dA, 32, .inl st.2.1.2.1)), (u3, .inl (dA, 32, .inl st.2.1.2.2.1)), (qk, .inl (dA, 400, .inl st.2.2.1)), (qr, .inl (dA, 400, .inl st.2.2.2.1))] ∧ rn_ U ∧ rz_ tP tG tC (va_A [(d0, .inr (2, [.ref aT, .ref qc, .ref aU, .ref qk, .ref qr, .int (nI now), .int (nI st.2.2.2.2.1), .int (rb_z st.2.2.2.2.2)])), (qc, .inl (dA, 4, .inl st.1)), (aT, .inr (1, [.ref t1, .ref t2, .ref t3, .int he.2.2.2])), (t1, .inl (dA, 1024, .inl he.1)), (t2, .inl (dA, 32, .inl he.2.1)), (t3, .inl (dA, 32, .inl he.2.2.1)), (aU, .inr (1, [.ref u1, .ref u2, .ref u3, .int st.2.1.2.2.2])), (u1, .inl (dA, 1024, .inl st.2.1.1)), (u2, .inl (dA, 32, .inl st.2.1.2.1)), (u3, .inl (dA, 32, .inl st.2.1.2.2.1)), (qk, .inl (dA, 400, .inl st.2.2.1)), (qr, .inl (dA, 400, .inl st.2.2.2.1))] sz) U)) (va_Qv (fun (_ : Unit) => True) (fun (_ : Unit) t => va_P (dC, dI) classes [(d0, .inr (2, [.ref aT, .ref qc, .ref aU, .ref qk, .ref qr, .int (nI now), .int (nI (rd_apply he now x c0 st).2.2.2.2.1), .int (rb_z (rd_apply he now x c0 st).2.2.2.2.2)])), (qc, .inl (dA, 4, .inl (rd_apply he now x c0 st).1)), (aT, .inr (1, [.ref t1, .ref t2, .ref t3, .int he.2.2.2])), (t1, .inl (dA, 1024, .inl he.1)), (t2, .inl (dA, 32, .inl he.2.1)), (t3, .inl (dA, 32, .inl he.2.2.1)), (aU, .inr (1, [.ref u1, .ref u2, .ref u3, .int ((rd_apply he now x c0 st).2.1.2.2.2)])), (u1, .inl (dA, 1024, .inl ((rd_apply he now x c0 st).2.1.1))), (u2, .inl (dA, 32, .inl ((rd_apply he now x c0 st).2.1.2.1))), (u3, .inl (dA, 32, .inl ((rd_apply he now x c0 st).2.1.2.2.1))), (qk, .inl (dA, 400, .inl (rd_apply he now x c0 st).2.2.1)), (qr, .inl (dA, 400, .inl (rd_apply he now x c0 st).2.2.2.1))] t.heap ∧ va_D (va_A [(d0, .inr (2, [.ref aT, .ref qc, .ref aU, .ref qk, .ref qr, .int (nI now), .int (nI st.2.2.2.2.1), .int (rb_z st.2.2.2.2.2)])), (qc, .inl (dA, 4, .inl st.1)), (aT, .inr (1, [.ref t1, .ref t2, .ref t3, .int he.2.2.2])), (t1, .inl (dA, 1024, .inl he.1)), (t2, .inl (dA, 32, .inl he.2.1)), (t3, .inl (dA, 32, .inl he.2.2.1)), (aU, .inr (1, [.ref u1, .ref u2, .ref u3, .int st.2.1.2.2.2])), (u1, .inl (dA, 1024, .inl st.2.1.1)), (u2, .inl (dA, 32, .inl st.2.1.2.1)), (u3, .inl (dA, 32, .inl st.2.1.2.2.1)), (qk, .inl (dA, 400, .inl st.2.2.1)), (qr, .inl (dA, 400, .inl st.2.2.2.1))] sz) [(d0, .inr (2, [.ref aT, .ref qc, .ref aU, .ref qk, .ref qr, .int (nI now), .int (nI (rd_apply he now x c0 st).2.2.2.2.1), .int (rb_z (rd_apply he now x c0 st).2.2.2.2.2)])), (qc, .inl (dA, 4, .inl (rd_apply he now x c0 st).1)), (aT, .inr (1, [.ref t1, .ref t2, .ref t3, .int he.2.2.2])), (t1, .inl (dA, 1024, .inl he.1)), (t2, .inl (dA, 32, .inl he.2.1)), (t3, .inl (dA, 32, .inl he.2.2.1)), (aU, .inr (1, [.ref u1, .ref u2, .ref u3, .int ((rd_apply he now x c0 st).2.1.2.2.2)])), (u1, .inl (dA, 1024, .inl ((rd_apply he now x c0 st).2.1.1))), (u2, .inl (dA, 32, .inl ((rd_apply he now x c0 st).2.1.2.1))), (u3, .inl (dA, 32, .inl ((rd_apply he now x c0 st).2.1.2.2.1))), (qk, .inl (dA, 400, .inl (rd_apply he now x c0 st).2.2.1)), (qr, .inl (dA, 400, .inl (rd_apply he now x c0 st).2.2.2.1))]) (va_A [(d0, .inr (2, [.ref aT, .ref qc, .ref aU, .ref qk, .ref qr, .int (nI now), .int (nI st.2.2.2.2.1), .int (rb_z st.2.2.2.2.2)])), (qc, .inl (dA, 4, .inl st.1)), (aT, .inr (1, [.ref t1, .ref t2, .ref t3, .int he.2.2.2])), (t1, .inl (dA, 1024, .inl he.1)), (t2, .inl (dA, 32, .inl he.2.1)), (t3, .inl (dA, 32, .inl he.2.2.1)), (aU, .inr (1, [.ref u1, .ref u2, .ref u3, .int st.2.1.2.2.2])), (u1, .inl (dA, 1024, .inl st.2.1.1)), (u2, .inl (dA, 32, .inl st.2.1.2.1)), (u3, .inl (dA, 32, .inl st.2.1.2.2.1)), (qk, .inl (dA, 400, .inl st.2.2.1)), (qr, .inl (dA, 400, .inl st.2.2.2.1))] sz)) 0 0 (va_A [(d0, .inr (2, [.ref aT, .ref qc, .ref aU, .ref qk, .ref qr, .int (nI now), .int (nI st.2.2.2.2.1), .int (rb_z st.2.2.2.2.2)])), (qc, .inl (dA, 4, .inl st.1)), (aT, .inr (1, [.ref t1, .ref t2, .ref t3, .int he.2.2.2])), (t1, .inl (dA, 1024, .inl he.1)), (t2, .inl (dA, 32, .inl he.2.1)), (t3, .inl (dA, 32, .inl he.2.2.1)), (aU, .inr (1, [.ref u1, .ref u2, .ref u3, .int st.2.1.2.2.2])), (u1, .inl (dA, 1024, .inl st.2.1.1)), (u2, .inl (dA, 32, .inl st.2.1.2.1)), (u3, .inl (dA, 32, .inl st.2.1.2.2.1)), (qk, .inl (dA, 400, .inl st.2.2.1)), (qr, .inl (dA, 400, .inl st.2.2.2.1))] sz) := by
  refine Met.ofW (cc := b_De_applyRules) (maxL := 9) (ret := none) (by decide) rfl ?_
  intro p e s m args below meth c s₁ B hml hv
  obtain ⟨rfl, hsz, hP, hK, hD0, hN, hZ⟩ := hv
  have hx := B.exec
  have hb := B.bytes
  have hr := B.returns
  have hts := atoms_spec (ws := (w_ y_De_applyRules b_De_applyRules 9 none)) B.pre
  have hown : s.vm.findClass R_De = some m.cls := findClass_of_methodNamed B.named
  have hlocks := B.notSynchronized
  subst hsz
  have hD := hD0.self (sz := s.heap.size)
  generalize hAe : va_A [(d0, .inr (2, [.ref aT, .ref qc, .ref aU, .ref qk, .ref qr, .int (nI now), .int (nI st.2.2.2.2.1), .int (rb_z st.2.2.2.2.2)])), (qc, .inl (dA, 4, .inl st.1)), (aT, .inr (1, [.ref t1, .ref t2, .ref t3, .int he.2.2.2])), (t1, .inl (dA, 1024, .inl he.1)), (t2, .inl (dA, 32, .inl he.2.1)), (t3, .inl (dA, 32, .inl he.2.2.1)), (aU, .inr (1, [.ref u1, .ref u2, .ref u3, .int st.2.1.2.2.2])), (u1, .inl (dA, 1024, .inl st.2.1.1)), (u2, .inl (dA, 32, .inl st.2.1.2.1)), (u3, .inl (dA, 32, .inl st.2.1.2.2.1)), (qk, .inl (dA, 400, .inl st.2.2.1)), (qr, .inl (dA, 400, .inl st.2.2.2.1))] s.heap.size = A at hD hZ ⊢
  have hA : ∀ q : Nat, s.heap.size ≤ q → A q := fun q h => by rw [← hAe]; exact Or.inr h
  have hS : va_S A s.heap s.heap [] := va_S.rf
  have hl := lv_entry ([.ref d0, .int (nI c0), .int x]) (n := 9) (Nat.le_of_ble_eq_true rfl)
  rw [lg_entry_eq]
  generalize (lg_sl ([.ref d0, .int (nI c0), .int x]) ++ List.replicate (9 - (lg_sl ([.ref d0, .int (nI c0), .int x])).length) Slot.unset).toArray = ls at hl ⊢
  have hl : lv_has ls 9 [(0, .ref d0), (1, .int (nI c0)), (2, .int x)] := hl
  refine lv_iconst (v := nI 0) hx hb d_De_applyRules_0 (by decide) ?_
  refine lv_istore_n (lv' := [(3, .int (nI 0)), (0, .ref d0), (1, .int (nI c0)), (2, .int x)]) hx hb d_De_applyRules_1 rfl hl (by decide) rfl (fun ls hl => ?_)
  obtain ⟨RES, hRES⟩ : ∃ R, R = rj_fold (rd_F he now c0) st ((List.range' 0 21).flatMap (rd_row x)) := ⟨_, rfl⟩
  rw [show rd_apply he now x c0 st = RES.1 from by rw [hRES]; rfl]
  refine rv_Q (fun Q hQ => ?_)
  have lp : ∀ (n : Nat) (row : Nat) (st : sD) (H : Heap) (locs : List Loc) (ls : Array Slot), row + n = 21 → rd_ok st → rj_fold (rd_F he now c0) st ((List.range' row n).flatMap (rd_row x)) = RES → va_P (dC, dI) classes [(d0, .inr (2, [.ref aT, .ref qc, .ref aU, .ref qk, .ref qr, .int (nI now), .int (nI st.2.2.2.2.1), .int (rb_z st.2.2.2.2.2)])), (qc, .inl (dA, 4, .inl st.1)), (aT, .inr (1, [.ref t1, .ref t2, .ref t3, .int he.2.2.2])), (t1, .inl (dA, 1024, .inl he.1)), (t2, .inl (dA, 32, .inl he.2.1)), (t3, .inl (dA, 32, .inl he.2.2.1)), (aU, .inr (1, [.ref u1, .ref u2, .ref u3, .int st.2.1.2.2.2])), (u1, .inl (dA, 1024, .inl st.2.1.1)), (u2, .inl (dA, 32, .inl st.2.1.2.1)), (u3, .inl (dA, 32, .inl st.2.1.2.2.1)), (qk, .inl (dA, 400, .inl st.2.2.1)), (qr, .inl (dA, 400, .inl st.2.2.2.1))] H → va_D A [(d0, .inr (2, [.ref aT, .ref qc, .ref aU, .ref qk, .ref qr, .int (nI now), .int (nI st.2.2.2.2.1), .int (rb_z st.2.2.2.2.2)])), (qc, .inl (dA, 4, .inl st.1)), (aT, .inr (1, [.ref t1, .ref t2, .ref t3, .int he.2.2.2])), (t1, .inl (dA, 1024, .inl he.1)), (t2, .inl (dA, 32, .inl he.2.1)), (t3, .inl (dA, 32, .inl he.2.2.1)), (aU, .inr (1, [.ref u1, .ref u2, .ref u3, .int st.2.1.2.2.2])), (u1, .inl (dA, 1024, .inl st.2.1.1)), (u2, .inl (dA, 32, .inl st.2.1.2.1)), (u3, .inl (dA, 32, .inl st.2.1.2.2.1)), (qk, .inl (dA, 400, .inl st.2.2.1)), (qr, .inl (dA, 400, .inl st.2.2.2.1))] → va_S A s.heap H locs → lv_has ls 9 [(3, .int (nI row)), (0, .ref d0), (1, .int (nI c0)), (2, .int x)] → W p l e (headSpec (w_ y_De_applyRules b_De_applyRules 9 none) (rm_ 8)).room s m ([.ref d0, .int (nI c0), .int x] : List Value).toArray below meth c H locs 0 0 Q (F0 m 2 ls []) := by
    intro n
    induction n with
    | zero =>
      intro row st H locs ls hn hok hR hP hD hS hl
      refine lv_iload_n hx hb d_De_applyRules_2 rfl (lv_at hl 0 rfl) ?_
      refine lv_bipush (v := nI 21) hx hb d_De_applyRules_3 (by decide) ?_
      refine rv_icmp_ge (tgt := 91) hx hb d_De_applyRules_5 (by decide) (by omega) (by omega) (fun c_5 => ?_) (fun c_5 => absurd c_5 (by omega))
      subst hQ
      exact W.vret hx hb hr (fun t ht hW => ⟨⟨(), rfl, trivial, by rw [ht]; rw [← hR]; exact hP, by rw [← hR]; exact hD⟩, hS.F ht⟩) hS.2.2 d_De_applyRules_91
    | succ n ih =>
      intro row st H locs ls hn hok hR hP hD hS hl
      have hcl := rq_cnts_le row (by omega)
      rw [List.range'_succ, List.flatMap_cons] at hR
      refine lv_iload_n hx hb d_De_applyRules_2 rfl (lv_at hl 0 rfl) ?_
      refine lv_bipush (v := nI 21) hx hb d_De_applyRules_3 (by decide) ?_
      refine rv_icmp_ge (tgt := 91) hx hb d_De_applyRules_5 (by decide) (by omega) (by omega) (fun c_5 => absurd c_5 (by omega)) (fun c_5 => ?_)
      refine lv_iload_n hx hb d_De_applyRules_8 rfl (lv_at hl 3 rfl) ?_
      refine lv_iload_n hx hb d_De_applyRules_9 rfl (lv_at hl 0 rfl) ?_
      refine rv_calli (r := if rb_b x row then nI 1 else nI 0) (va_runSN (As := [.int x, .int (nI row)]) (rest := []) ⟨hx, hb, hml, hown, hts⟩ (c_Rl_contains l x row (by omega)) ⟨va_cnB 2 hts (rg_G k_Rl_contains) rfl rfl rfl (hN _ rn_4) (hts _ (List.mem_cons_of_mem _ m_1)) (by decide +kernel) ⟨by show 0 + 1 ≤ 8; omega, by show 8 + (2 + 11) + 64 * 0 ≤ 64 * (8); omega⟩, hts _ (List.mem_cons_of_mem _ m_150), trivial⟩ ⟨fun _ _ _ _ q => q, fun U hU hW => ⟨rfl, trivial⟩⟩ rfl rfl hl.1 rfl (lv_room (Nat.le_of_ble_eq_true rfl)) d_De_applyRules_10 ⟨Nat.zero_le _, Nat.zero_le _⟩) hS (fun _ h => h.elim) (fun H locs hk hS => ?_)
      have hP := rv_kept hP hk
      rcases hq0 : rb_b x row with _ | _
      · refine rv_eq (y := nI 0) (rfl) ?_
        rw [show rd_row x row = [] from by unfold rd_row; rw [hq0]; rfl, List.nil_append] at hR
        refine rv_if_eq (tgt := 23) hx hb d_De_applyRules_13 (by decide) (by omega) (fun c_13 => ?_) (fun c_13 => absurd c_13 (by omega))
        refine lv_iconst (v := nI 0) hx hb d_De_applyRules_23 (by decide) ?_
        refine lv_istore (lv' := [(4, .int (nI 0)), (3, .int (nI row)), (0, .ref d0), (1, .int (nI c0)), (2, .int x)]) hx hb d_De_applyRules_24 hl (by decide) rfl (fun ls hl => ?_)
        refine lv_iconst (v := nI 0) hx hb d_De_applyRules_26 (by decide) ?_
        refine lv_istore (lv' := [(5, .int (nI 0)), (4, .int (nI 0)), (3, .int (nI row)), (0, .ref d0), (1, .int (nI c0)), (2, .int x)]) hx hb d_De_applyRules_27 hl (by decide) rfl (fun ls hl => ?_)
        refine lv_iload hx hb d_De_applyRules_29 (lv_at hl 0 rfl) ?_
        refine lv_iload hx hb d_De_applyRules_31 (lv_at hl 1 rfl) ?_
        refine rv_icmp_ge (tgt := 85) hx hb d_De_applyRules_33 (by decide) (by omega) (by omega) (fun c_33 => ?_) (fun c_33 => absurd c_33 (by omega))
        refine rv_inc (k := 2) (lv' := [(3, .int (nI (row + 1))), (5, .int (nI 0)), (4, .int (nI 0)), (0, .ref d0), (1, .int (nI c0)), (2, .int x)]) hx hb d_De_applyRules_85 hl rfl (by decide) rfl (fun ls hl => ?_)
        refine lv_goto (tgt := 2) hx hb d_De_applyRules_88 (by decide) ?_
        exact ih (row + 1) st _ _ _ (by omega) (hok) (hR) hP hD hS (lv_sub hl [0, 3, 4, 5] rfl)
      · refine rv_eq (y := nI 1) (rfl) ?_
        rw [show rd_row x row = (List.range' 0 (rq_cnts.getD row 0)).map (fun f => (row, f)) from by unfold rd_row; rw [hq0]; rfl] at hR
        refine rv_if_eq (tgt := 23) hx hb d_De_applyRules_13 (by decide) (by omega) (fun c_13 => absurd c_13 (by omega)) (fun c_13 => ?_)
        refine lv_iload_n hx hb d_De_applyRules_16 rfl (lv_at hl 0 rfl) ?_
        refine rv_calli (r := nI (rq_cnts.getD row 0)) (va_runS (As := [.int (nI row)]) (rest := []) ⟨hx, hb, hml, hown, hts⟩ (c_Tb_premiseCount l tP tG tC row (by omega)) (va_cwS 1 hts (rg_S (rg3 m_203 m_204 m_8) k_Tb_premiseCount) rfl rfl rfl (by decide +kernel) ⟨by show 0 + 1 ≤ 8; omega, by show 8 + (1 + 11) + 64 * 0 ≤ 64 * (8); omega⟩) ⟨fun a U g mk q => ⟨q.1, rz_same q.2⟩, fun U hU hW => ⟨rfl, rz_at hZ hS hU hW (fun _ h => h.elim)⟩⟩ rfl rfl hl.1 rfl (lv_room (Nat.le_of_ble_eq_true rfl)) d_De_applyRules_17 ⟨Nat.zero_le _, Nat.zero_le _⟩) hS (fun _ h => h.elim) (fun H locs hk hS => ?_)
        have hP := rv_kept hP hk
        refine lv_goto (tgt := 24) hx hb d_De_applyRules_20 (by decide) ?_
        refine lv_istore (lv' := [(4, .int (nI (rq_cnts.getD row 0))), (3, .int (nI row)), (0, .ref d0), (1, .int (nI c0)), (2, .int x)]) hx hb d_De_applyRules_24 hl (by decide) rfl (fun ls hl => ?_)
        refine lv_iconst (v := nI 0) hx hb d_De_applyRules_26 (by decide) ?_
        refine lv_istore (lv' := [(5, .int (nI 0)), (4, .int (nI (rq_cnts.getD row 0))), (3, .int (nI row)), (0, .ref d0), (1, .int (nI c0)), (2, .int x)]) hx hb d_De_applyRules_27 hl (by decide) rfl (fun ls hl => ?_)
        have lp2 : ∀ (m2 : Nat) (fx : Nat) (st : sD) (H : Heap) (locs : List Loc) (ls : Array Slot), fx + m2 = rq_cnts.getD row 0 → rd_ok st → rj_fold (rd_F he now c0) st ((List.range' fx m2).map (fun f => (row, f)) ++ (List.range' (row + 1) n).flatMap (rd_row x)) = RES → va_P (dC, dI) classes [(d0, .inr (2, [.ref aT, .ref qc, .ref aU, .ref qk, .ref qr, .int (nI now), .int (nI st.2.2.2.2.1), .int (rb_z st.2.2.2.2.2)])), (qc, .inl (dA, 4, .inl st.1)), (aT, .inr (1, [.ref t1, .ref t2, .ref t3, .int he.2.2.2])), (t1, .inl (dA, 1024, .inl he.1)), (t2, .inl (dA, 32, .inl he.2.1)), (t3, .inl (dA, 32, .inl he.2.2.1)), (aU, .inr (1, [.ref u1, .ref u2, .ref u3, .int st.2.1.2.2.2])), (u1, .inl (dA, 1024, .inl st.2.1.1)), (u2, .inl (dA, 32, .inl st.2.1.2.1)), (u3, .inl (dA, 32, .inl st.2.1.2.2.1)), (qk, .inl (dA, 400, .inl st.2.2.1)), (qr, .inl (dA, 400, .inl st.2.2.2.1))] H → va_D A [(d0, .inr (2, [.ref aT, .ref qc, .ref aU, .ref qk, .ref qr, .int (nI now), .int (nI st.2.2.2.2.1), .int (rb_z st.2.2.2.2.2)])), (qc, .inl (dA, 4, .inl st.1)), (aT, .inr (1, [.ref t1, .ref t2, .ref t3, .int he.2.2.2])), (t1, .inl (dA, 1024, .inl he.1)), (t2, .inl (dA, 32, .inl he.2.1)), (t3, .inl (dA, 32, .inl he.2.2.1)), (aU, .inr (1, [.ref u1, .ref u2, .ref u3, .int st.2.1.2.2.2])), (u1, .inl (dA, 1024, .inl st.2.1.1)), (u2, .inl (dA, 32, .inl st.2.1.2.1)), (u3, .inl (dA, 32, .inl st.2.1.2.2.1)), (qk, .inl (dA, 400, .inl st.2.2.1)), (qr, .inl (dA, 400, .inl st.2.2.2.1))] → va_S A s.heap H locs → lv_has ls 9 [(5, .int (nI fx)), (4, .int (nI (rq_cnts.getD row 0))), (3, .int (nI row)), (0, .ref d0), (1, .int (nI c0)), (2, .int x)] → W p l e (headSpec (w_ y_De_applyRules b_De_applyRules 9 none) (rm_ 8)).room s m ([.ref d0, .int (nI c0), .int x] : List Value).toArray below meth c H locs 0 0 Q (F0 m 29 ls []) := by
          intro m2
          induction m2 with
          | zero =>
            intro fx st H locs ls hm hok hR hP hD hS hl
            refine lv_iload hx hb d_De_applyRules_29 (lv_at hl 0 rfl) ?_
            refine lv_iload hx hb d_De_applyRules_31 (lv_at hl 1 rfl) ?_
            refine rv_icmp_ge (tgt := 85) hx hb d_De_applyRules_33 (by decide) (by omega) (by omega) (fun c_33 => ?_) (fun c_33 => absurd c_33 (by omega))
            refine rv_inc (k := 2) (lv' := [(3, .int (nI (row + 1))), (5, .int (nI fx)), (4, .int (nI (rq_cnts.getD row 0))), (0, .ref d0), (1, .int (nI c0)), (2, .int x)]) hx hb d_De_applyRules_85 hl rfl (by decide) rfl (fun ls hl => ?_)
            refine lv_goto (tgt := 2) hx hb d_De_applyRules_88 (by decide) ?_
            exact ih (row + 1) st _ _ _ (by omega) (hok) (hR) hP hD hS (lv_sub hl [0, 3, 4, 5] rfl)
          | succ m2 ih2 =>
            intro fx st H locs ls hm hok hR hP hD hS hl
            rw [List.range'_succ, List.map_cons, List.cons_append] at hR
            refine lv_iload hx hb d_De_applyRules_29 (lv_at hl 0 rfl) ?_
            refine lv_iload hx hb d_De_applyRules_31 (lv_at hl 1 rfl) ?_
            refine rv_icmp_ge (tgt := 85) hx hb d_De_applyRules_33 (by decide) (by omega) (by omega) (fun c_33 => absurd c_33 (by omega)) (fun c_33 => ?_)
            refine lv_iload_n hx hb d_De_applyRules_36 rfl (lv_at hl 2 rfl) ?_
            refine lv_iload hx hb d_De_applyRules_37 (lv_at hl 0 rfl) ?_
            refine rv_calli (r := nI (12 * row + 3 * fx)) (va_runS (As := [.int (nI row), .int (nI fx)]) (rest := []) ⟨hx, hb, hml, hown, hts⟩ (c_Tb_premiseAt l row fx) (va_cwS 2 hts (rg_S (rg3 m_190 m_191 m_8) k_Tb_premiseAt) rfl rfl rfl (by decide +kernel) ⟨by show 0 + 1 ≤ 8; omega, by show 8 + (2 + 11) + 64 * 0 ≤ 64 * (8); omega⟩) ⟨fun _ _ _ _ q => q, fun U hU hW => ⟨rfl, trivial⟩⟩ rfl rfl hl.1 rfl (lv_room (Nat.le_of_ble_eq_true rfl)) d_De_applyRules_39 ⟨Nat.zero_le _, Nat.zero_le _⟩) hS (fun _ h => h.elim) (fun H locs hk hS => ?_)
            have hP := rv_kept hP hk
            refine lv_istore (lv' := [(6, .int (nI (12 * row + 3 * fx))), (5, .int (nI fx)), (4, .int (nI (rq_cnts.getD row 0))), (3, .int (nI row)), (0, .ref d0), (1, .int (nI c0)), (2, .int x)]) hx hb d_De_applyRules_42 hl (by decide) rfl (fun ls hl => ?_)
            refine va_gets hx hb hZ.1.1 hS hown (hts _ (List.mem_cons_of_mem _ m_188)) (fun _ h9 => h9) d_De_applyRules_44 ?_
            refine lv_iload hx hb d_De_applyRules_47 (lv_at hl 0 rfl) ?_
            refine lv_iload_n hx hb d_De_applyRules_49 rfl (lv_at hl 5 rfl) ?_
            refine lv_lconst (v := lN 0) hx hb d_De_applyRules_50 (by decide) ?_
            refine rv_eql (y := lN (rt_pk rt_free)) (congrArg lN rt_free_pk.symm) ?_
            refine rv_calll (r := rt_l (rt_fit (rq_prem.getD (12 * row + 3 * fx) 0) (rq_prem.getD ((12 * row + 3 * fx) + 1) 0) (rq_prem.getD ((12 * row + 3 * fx) + 2) 0) c0 rt_free)) (va_runS (As := [.ref tP, .int (nI (12 * row + 3 * fx)), .int (nI c0), .long (lN (rt_pk rt_free))]) (rest := []) ⟨hx, hb, hml, hown, hts⟩ (c_Le_fit l tP 288 (12 * row + 3 * fx) c0 rq_prem rt_free (by decide) (by omega) (rq_prem_lt _) (rq_prem_lt _) (rq_prem_lt _) (hc) (rt_free_ok)) (va_cwS 4 hts (rg_S (rg3 m_208 m_209 m_9) k_Le_fit) rfl rfl rfl (by decide +kernel) ⟨by show 2 + 1 ≤ 8; omega, by show 8 + (7 + 11) + 64 * 2 ≤ 64 * (8); omega⟩) ⟨fun a U g mk q => ⟨q.1, q.2.moved (Vm.Alike.refl U.vm)⟩, fun U hU hW => ⟨rfl, rv_T hZ.1.2 hS hU hW (fun _ h => h.elim)⟩⟩ rfl rfl hl.1 rfl (lv_room (Nat.le_of_ble_eq_true rfl)) d_De_applyRules_51 ⟨Nat.zero_le _, Nat.zero_le _⟩) hS (fun _ h => h.elim) (fun H locs hk hS => ?_)
            have hP := rv_kept hP hk
            rcases hq : rt_fit (rq_prem.getD (12 * row + 3 * fx) 0) (rq_prem.getD (12 * row + 3 * fx + 1) 0) (rq_prem.getD (12 * row + 3 * fx + 2) 0) c0 rt_free with _ | ds
            · refine rv_eql (y := (-1)) (rfl) ?_
              have hFq : (rd_F he now c0) st (row, fx) = (st, false) := by unfold rd_F; simp only; rw [hq]
              refine lv_lstore (lv' := [(7, .long (-1)), (6, .int (nI (12 * row + 3 * fx))), (5, .int (nI fx)), (4, .int (nI (rq_cnts.getD row 0))), (3, .int (nI row)), (0, .ref d0), (1, .int (nI c0)), (2, .int x)]) hx hb d_De_applyRules_54 hl (by decide) rfl (fun ls hl => ?_)
              refine lv_lload hx hb d_De_applyRules_56 (lv_at hl 0 rfl) ?_
              refine lv_ldc2 (v := (-1)) hx hb hown (hts _ (List.mem_cons_of_mem _ m_219)) d_De_applyRules_58 ?_
              refine W.lcmp hx hb d_De_applyRules_61 ?_
              refine rv_eq (y := nI 0) (rt_cmp0 _) ?_
              refine rv_if_eq (tgt := 79) hx hb d_De_applyRules_62 (by decide) (by omega) (fun c_62 => ?_) (fun c_62 => absurd c_62 (by omega))
              refine rv_inc (k := 2) (lv' := [(5, .int (nI (fx + 1))), (7, .long (-1)), (6, .int (nI (12 * row + 3 * fx))), (4, .int (nI (rq_cnts.getD row 0))), (3, .int (nI row)), (0, .ref d0), (1, .int (nI c0)), (2, .int x)]) hx hb d_De_applyRules_79 hl rfl (by decide) rfl (fun ls hl => ?_)
              refine lv_goto (tgt := 29) hx hb d_De_applyRules_82 (by decide) ?_
              have hR2 := rj_fold_go hR (by rw [hFq])
              rw [hFq] at hR2
              exact ih2 (fx + 1) st _ _ _ (by omega) (hok) (hR2) hP hD hS (lv_sub hl [0, 3, 4, 5, 6, 7] rfl)
            · have hd2 := rt_fit_ok rt_free_ok hc hq
              refine rv_eql (y := lN (rt_pk ds)) (rfl) ?_
              have hFq : (rd_F he now c0) st (row, fx) = rj_join (rx_trav he.1 he.2.1 he.2.2.1 he.2.2.2) (rd_meet now row) rd_ch row (some fx) (rq_cnts.getD row 0) 0 ds st := by unfold rd_F; simp only; rw [hq]
              refine lv_lstore (lv' := [(7, .long (lN (rt_pk ds))), (6, .int (nI (12 * row + 3 * fx))), (5, .int (nI fx)), (4, .int (nI (rq_cnts.getD row 0))), (3, .int (nI row)), (0, .ref d0), (1, .int (nI c0)), (2, .int x)]) hx hb d_De_applyRules_54 hl (by decide) rfl (fun ls hl => ?_)
              refine lv_lload hx hb d_De_applyRules_56 (lv_at hl 0 rfl) ?_
              refine lv_ldc2 (v := (-1)) hx hb hown (hts _ (List.mem_cons_of_mem _ m_219)) d_De_applyRules_58 ?_
              refine W.lcmp hx hb d_De_applyRules_61 ?_
              refine lv_if_eq (tgt := 79) hx hb d_De_applyRules_62 (by decide) (fun c_62 => absurd c_62 (rt_cmp_ne hd2)) (fun c_62 => ?_)
              refine lv_aload_n hx hb d_De_applyRules_65 rfl (lv_at hl 5 rfl) ?_
              refine lv_iload_n hx hb d_De_applyRules_66 rfl (lv_at hl 4 rfl) ?_
              refine lv_iconst (v := nI 0) hx hb d_De_applyRules_67 (by decide) ?_
              refine lv_iload hx hb d_De_applyRules_68 (lv_at hl 2 rfl) ?_
              refine lv_lload hx hb d_De_applyRules_70 (lv_at hl 0 rfl) ?_
              have hPc := hP.sub (ws' := [(d0, .inr (2, [.ref aT, .ref qc, .ref aU, .ref qk, .ref qr, .int (nI now), .int (nI st.2.2.2.2.1), .int (rb_z st.2.2.2.2.2)])), (qc, .inl (dA, 4, .inl st.1)), (aT, .inr (1, [.ref t1, .ref t2, .ref t3, .int he.2.2.2])), (t1, .inl (dA, 1024, .inl he.1)), (t2, .inl (dA, 32, .inl he.2.1)), (t3, .inl (dA, 32, .inl he.2.2.1)), (aU, .inr (1, [.ref u1, .ref u2, .ref u3, .int st.2.1.2.2.2])), (u1, .inl (dA, 1024, .inl st.2.1.1)), (u2, .inl (dA, 32, .inl st.2.1.2.1)), (u3, .inl (dA, 32, .inl st.2.1.2.2.1)), (qk, .inl (dA, 400, .inl st.2.2.1)), (qr, .inl (dA, 400, .inl st.2.2.2.1))]) [0, 1, 2, 3, 4, 5, 6, 7, 8, 9, 10, 11] rfl
              have hDc := hD.sub (ws' := [(d0, .inr (2, [.ref aT, .ref qc, .ref aU, .ref qk, .ref qr, .int (nI now), .int (nI st.2.2.2.2.1), .int (rb_z st.2.2.2.2.2)])), (qc, .inl (dA, 4, .inl st.1)), (aT, .inr (1, [.ref t1, .ref t2, .ref t3, .int he.2.2.2])), (t1, .inl (dA, 1024, .inl he.1)), (t2, .inl (dA, 32, .inl he.2.1)), (t3, .inl (dA, 32, .inl he.2.2.1)), (aU, .inr (1, [.ref u1, .ref u2, .ref u3, .int st.2.1.2.2.2])), (u1, .inl (dA, 1024, .inl st.2.1.1)), (u2, .inl (dA, 32, .inl st.2.1.2.1)), (u3, .inl (dA, 32, .inl st.2.1.2.2.1)), (qk, .inl (dA, 400, .inl st.2.2.1)), (qr, .inl (dA, 400, .inl st.2.2.2.1))]) [0, 1, 2, 3, 4, 5, 6, 7, 8, 9, 10, 11] (by decide) rfl
              have hFc := va_free (wc := [(d0, .inr (2, [.ref aT, .ref qc, .ref aU, .ref qk, .ref qr, .int (nI now), .int (nI st.2.2.2.2.1), .int (rb_z st.2.2.2.2.2)])), (qc, .inl (dA, 4, .inl st.1)), (aT, .inr (1, [.ref t1, .ref t2, .ref t3, .int he.2.2.2])), (t1, .inl (dA, 1024, .inl he.1)), (t2, .inl (dA, 32, .inl he.2.1)), (t3, .inl (dA, 32, .inl he.2.2.1)), (aU, .inr (1, [.ref u1, .ref u2, .ref u3, .int st.2.1.2.2.2])), (u1, .inl (dA, 1024, .inl st.2.1.1)), (u2, .inl (dA, 32, .inl st.2.1.2.1)), (u3, .inl (dA, 32, .inl st.2.1.2.2.1)), (qk, .inl (dA, 400, .inl st.2.2.1)), (qr, .inl (dA, 400, .inl st.2.2.2.1))]) hD hS hA [0, 1, 2, 3, 4, 5, 6, 7, 8, 9, 10, 11] rfl
              refine va_calli (va_runSN (As := [.ref d0, .int (nI row), .int (nI 0), .int (nI fx), .long (lN (rt_pk ds))]) (rest := []) ⟨hx, hb, hml, hown, hts⟩ (c_Ma_joinD l (rq_cnts.getD row 0) dC dI dA tP tG tC d0 qc aT t1 t2 t3 aU u1 u2 u3 qk qr he now row 0 (some fx) ds st H.size (by omega) (fun u hu => by cases hu; omega) hd2 hok.1 (rj_cov_init hc hq) (by omega)) ⟨va_cnB 5 hts (rg_G k_Ma_join) rfl rfl rfl (hN _ rn_5) (hts _ (List.mem_cons_of_mem _ m_3)) (by decide +kernel) ⟨by show 3 + rq_cnts.getD row 0 + 1 ≤ 8; omega, by show 8 + (21 + 11) + 64 * (3 + rq_cnts.getD row 0) ≤ 64 * (8); omega⟩, hts _ (List.mem_cons_of_mem _ m_221), trivial⟩ ⟨fun a U g mk q => ⟨q.1, q.2.1, q.2.2.1, va_K.moved (u := U) (U := U.calling g mk a) (Vm.Alike.refl U.vm) q.2.2.2.1, q.2.2.2.2.1, rn_same (u := U) (U := U.calling g mk a) rfl q.2.2.2.2.2.1, rz_same q.2.2.2.2.2.2⟩, fun U hU hW => ⟨rfl, by rw [hU], by rw [hU]; exact hPc, va_K.moved hW.alike hK, hDc.weaken (fun _ _ _ _ => trivial), rn_warm hW hN, rz_at hZ hS hU hW hFc⟩⟩ rfl rfl hl.1 rfl (lv_room (Nat.le_of_ble_eq_true rfl)) d_De_applyRules_72 ⟨Nat.zero_le _, Nat.zero_le _⟩) hS (fun q _ h => hFc q h) hFc (fun r9 u t H1 locs ht hvm hw hB hz1 hk1 hS => ?_)
              subst hw
              obtain ⟨hP1, hD1⟩ := hB
              rw [ht] at hP1
              obtain ⟨hP, hD⟩ := va_join (wr := []) (w1 := [(d0, .inr (2, [.ref aT, .ref qc, .ref aU, .ref qk, .ref qr, .int (nI now), .int (nI ((rj_join (rx_trav he.1 he.2.1 he.2.2.1 he.2.2.2) (rd_meet now row) rd_ch row (some fx) (rq_cnts.getD row 0) 0 ds st).1).2.2.2.2.1), .int (rb_z ((rj_join (rx_trav he.1 he.2.1 he.2.2.1 he.2.2.2) (rd_meet now row) rd_ch row (some fx) (rq_cnts.getD row 0) 0 ds st).1).2.2.2.2.2)])), (qc, .inl (dA, 4, .inl ((rj_join (rx_trav he.1 he.2.1 he.2.2.1 he.2.2.2) (rd_meet now row) rd_ch row (some fx) (rq_cnts.getD row 0) 0 ds st).1).1)), (aT, .inr (1, [.ref t1, .ref t2, .ref t3, .int he.2.2.2])), (t1, .inl (dA, 1024, .inl he.1)), (t2, .inl (dA, 32, .inl he.2.1)), (t3, .inl (dA, 32, .inl he.2.2.1)), (aU, .inr (1, [.ref u1, .ref u2, .ref u3, .int (((rj_join (rx_trav he.1 he.2.1 he.2.2.1 he.2.2.2) (rd_meet now row) rd_ch row (some fx) (rq_cnts.getD row 0) 0 ds st).1).2.1.2.2.2)])), (u1, .inl (dA, 1024, .inl (((rj_join (rx_trav he.1 he.2.1 he.2.2.1 he.2.2.2) (rd_meet now row) rd_ch row (some fx) (rq_cnts.getD row 0) 0 ds st).1).2.1.1))), (u2, .inl (dA, 32, .inl (((rj_join (rx_trav he.1 he.2.1 he.2.2.1 he.2.2.2) (rd_meet now row) rd_ch row (some fx) (rq_cnts.getD row 0) 0 ds st).1).2.1.2.1))), (u3, .inl (dA, 32, .inl (((rj_join (rx_trav he.1 he.2.1 he.2.2.1 he.2.2.2) (rd_meet now row) rd_ch row (some fx) (rq_cnts.getD row 0) 0 ds st).1).2.1.2.2.1))), (qk, .inl (dA, 400, .inl ((rj_join (rx_trav he.1 he.2.1 he.2.2.1 he.2.2.2) (rd_meet now row) rd_ch row (some fx) (rq_cnts.getD row 0) 0 ds st).1).2.2.1)), (qr, .inl (dA, 400, .inl ((rj_join (rx_trav he.1 he.2.1 he.2.2.1 he.2.2.2) (rd_meet now row) rd_ch row (some fx) (rq_cnts.getD row 0) 0 ds st).1).2.2.2.1))]) hP hD [0, 1, 2, 3, 4, 5, 6, 7, 8, 9, 10, 11] [] rfl rfl (by decide) (by decide) hk1 hFc hP1 hD1
              clear hk1 hFc hPc hDc hP1 hD1
              generalize H1 = H at hP hS ⊢
              have hP : va_P (dC, dI) classes [(d0, .inr (2, [.ref aT, .ref qc, .ref aU, .ref qk, .ref qr, .int (nI now), .int (nI ((rj_join (rx_trav he.1 he.2.1 he.2.2.1 he.2.2.2) (rd_meet now row) rd_ch row (some fx) (rq_cnts.getD row 0) 0 ds st).1).2.2.2.2.1), .int (rb_z ((rj_join (rx_trav he.1 he.2.1 he.2.2.1 he.2.2.2) (rd_meet now row) rd_ch row (some fx) (rq_cnts.getD row 0) 0 ds st).1).2.2.2.2.2)])), (qc, .inl (dA, 4, .inl ((rj_join (rx_trav he.1 he.2.1 he.2.2.1 he.2.2.2) (rd_meet now row) rd_ch row (some fx) (rq_cnts.getD row 0) 0 ds st).1).1)), (aT, .inr (1, [.ref t1, .ref t2, .ref t3, .int he.2.2.2])), (t1, .inl (dA, 1024, .inl he.1)), (t2, .inl (dA, 32, .inl he.2.1)), (t3, .inl (dA, 32, .inl he.2.2.1)), (aU, .inr (1, [.ref u1, .ref u2, .ref u3, .int (((rj_join (rx_trav he.1 he.2.1 he.2.2.1 he.2.2.2) (rd_meet now row) rd_ch row (some fx) (rq_cnts.getD row 0) 0 ds st).1).2.1.2.2.2)])), (u1, .inl (dA, 1024, .inl (((rj_join (rx_trav he.1 he.2.1 he.2.2.1 he.2.2.2) (rd_meet now row) rd_ch row (some fx) (rq_cnts.getD row 0) 0 ds st).1).2.1.1))), (u2, .inl (dA, 32, .inl (((rj_join (rx_trav he.1 he.2.1 he.2.2.1 he.2.2.2) (rd_meet now row) rd_ch row (some fx) (rq_cnts.getD row 0) 0 ds st).1).2.1.2.1))), (u3, .inl (dA, 32, .inl (((rj_join (rx_trav he.1 he.2.1 he.2.2.1 he.2.2.2) (rd_meet now row) rd_ch row (some fx) (rq_cnts.getD row 0) 0 ds st).1).2.1.2.2.1))), (qk, .inl (dA, 400, .inl ((rj_join (rx_trav he.1 he.2.1 he.2.2.1 he.2.2.2) (rd_meet now row) rd_ch row (some fx) (rq_cnts.getD row 0) 0 ds st).1).2.2.1)), (qr, .inl (dA, 400, .inl ((rj_join (rx_trav he.1 he.2.1 he.2.2.1 he.2.2.2) (rd_meet now row) rd_ch row (some fx) (rq_cnts.getD row 0) 0 ds st).1).2.2.2.1))] H := hP.sub [0, 1, 2, 3, 4, 5, 6, 7, 8, 9, 10, 11] rfl
              have hD : va_D A [(d0, .inr (2, [.ref aT, .ref qc, .ref aU, .ref qk, .ref qr, .int (nI now), .int (nI ((rj_join (rx_trav he.1 he.2.1 he.2.2.1 he.2.2.2) (rd_meet now row) rd_ch row (some fx) (rq_cnts.getD row 0) 0 ds st).1).2.2.2.2.1), .int (rb_z ((rj_join (rx_trav he.1 he.2.1 he.2.2.1 he.2.2.2) (rd_meet now row) rd_ch row (some fx) (rq_cnts.getD row 0) 0 ds st).1).2.2.2.2.2)])), (qc, .inl (dA, 4, .inl ((rj_join (rx_trav he.1 he.2.1 he.2.2.1 he.2.2.2) (rd_meet now row) rd_ch row (some fx) (rq_cnts.getD row 0) 0 ds st).1).1)), (aT, .inr (1, [.ref t1, .ref t2, .ref t3, .int he.2.2.2])), (t1, .inl (dA, 1024, .inl he.1)), (t2, .inl (dA, 32, .inl he.2.1)), (t3, .inl (dA, 32, .inl he.2.2.1)), (aU, .inr (1, [.ref u1, .ref u2, .ref u3, .int (((rj_join (rx_trav he.1 he.2.1 he.2.2.1 he.2.2.2) (rd_meet now row) rd_ch row (some fx) (rq_cnts.getD row 0) 0 ds st).1).2.1.2.2.2)])), (u1, .inl (dA, 1024, .inl (((rj_join (rx_trav he.1 he.2.1 he.2.2.1 he.2.2.2) (rd_meet now row) rd_ch row (some fx) (rq_cnts.getD row 0) 0 ds st).1).2.1.1))), (u2, .inl (dA, 32, .inl (((rj_join (rx_trav he.1 he.2.1 he.2.2.1 he.2.2.2) (rd_meet now row) rd_ch row (some fx) (rq_cnts.getD row 0) 0 ds st).1).2.1.2.1))), (u3, .inl (dA, 32, .inl (((rj_join (rx_trav he.1 he.2.1 he.2.2.1 he.2.2.2) (rd_meet now row) rd_ch row (some fx) (rq_cnts.getD row 0) 0 ds st).1).2.1.2.2.1))), (qk, .inl (dA, 400, .inl ((rj_join (rx_trav he.1 he.2.1 he.2.2.1 he.2.2.2) (rd_meet now row) rd_ch row (some fx) (rq_cnts.getD row 0) 0 ds st).1).2.2.1)), (qr, .inl (dA, 400, .inl ((rj_join (rx_trav he.1 he.2.1 he.2.2.1 he.2.2.2) (rd_meet now row) rd_ch row (some fx) (rq_cnts.getD row 0) 0 ds st).1).2.2.2.1))] := hD.sub [0, 1, 2, 3, 4, 5, 6, 7, 8, 9, 10, 11] (by decide) rfl
              have hok2 : rd_ok (rj_join (rx_trav he.1 he.2.1 he.2.2.1 he.2.2.2) (rd_meet now row) rd_ch row (some fx) (rq_cnts.getD row 0) 0 ds st).1 := rd_ok_join _ _ _ _ hd2 hok
              generalize hJ : rj_join (rx_trav he.1 he.2.1 he.2.2.1 he.2.2.2) (rd_meet now row) rd_ch row (some fx) (rq_cnts.getD row 0) 0 ds st = J at hP hD hFq hok2 ⊢
              rcases hj2 : J.2 with _ | _
              · refine rv_eq (y := nI 0) (rfl) ?_
                have hR2 := rj_fold_go hR (by rw [hFq]; exact hj2)
                rw [hFq] at hR2
                refine rv_if_eq (tgt := 79) hx hb d_De_applyRules_75 (by decide) (by omega) (fun c_75 => ?_) (fun c_75 => absurd c_75 (by omega))
                refine rv_inc (k := 2) (lv' := [(5, .int (nI (fx + 1))), (7, .long (lN (rt_pk ds))), (6, .int (nI (12 * row + 3 * fx))), (4, .int (nI (rq_cnts.getD row 0))), (3, .int (nI row)), (0, .ref d0), (1, .int (nI c0)), (2, .int x)]) hx hb d_De_applyRules_79 hl rfl (by decide) rfl (fun ls hl => ?_)
                refine lv_goto (tgt := 29) hx hb d_De_applyRules_82 (by decide) ?_
                exact ih2 (fx + 1) J.1 _ _ _ (by omega) (hok2) (hR2) hP hD hS (lv_sub hl [0, 3, 4, 5, 6, 7] rfl)
              · refine rv_eq (y := nI 1) (rfl) ?_
                have hR2 := rj_fold_stop hR (by rw [hFq]; exact hj2)
                rw [hFq] at hR2
                refine rv_if_eq (tgt := 79) hx hb d_De_applyRules_75 (by decide) (by omega) (fun c_75 => absurd c_75 (by omega)) (fun c_75 => ?_)
                subst hQ
                exact W.vret hx hb hr (fun t ht hW => ⟨⟨(), rfl, trivial, by rw [ht]; rw [← hR2]; exact hP, by rw [← hR2]; exact hD⟩, hS.F ht⟩) hS.2.2 d_De_applyRules_78
        exact lp2 (rq_cnts.getD row 0) 0 st _ _ _ (by omega) (hok) (hR) hP hD hS (lv_sub hl [0, 1, 2, 3, 4, 5] rfl)
  exact lp 21 0 st _ _ _ (by omega) (hok) (hRES.symm) hP hD hS (lv_sub hl [0, 1, 2, 3] rfl)

def rd_last (st : sD) : Int32 := if 0 < st.2.2.2.2.1 then st.2.2.2.1 (st.2.2.2.2.1 - 1) else nI 0
def rd_find (k r : Nat → Int32) (c : Int32) : Nat → Nat → Int32
  | 0, _ => -2
  | n + 1, i => if k i = c then r i else rd_find k r c n (i + 1)

set_option maxHeartbeats 4000000 in
set_option maxRecDepth 100000 in
theorem c_De_lastRound (l : Launch) (dC : Nat → ClassId) (dI : Nat → Nat → Nat) (dA : ClassId) (tP tG tC d0 qc aT t1 t2 t3 aU u1 u2 u3 qk qr : Nat) (he : sT) (now : Nat) (st : sD) (hcnt : st.2.2.2.2.1 ≤ 400) : Met l y_De_lastRound (w_ y_De_lastRound b_De_lastRound 1 (some .int)) (rm_ 0) (va_Pc [.ref d0] (fun U => va_K (dC, dI) classes [(dA, .int)] U ∧ va_P (dC, dI) classes [(d0, .inr (2, [.ref aT, .ref qc, .ref aU, .ref qk, .ref qr, .int (nI now), .int (nI st.2.2.2.2.1), .int (rb_z st.2.2.2.2.2)])), (qk, .inl (dA, 400, .inl st.2.2.1)), (qr, .inl (dA, 400, .inl st.2.2.2.1))] U.heap)) (va_Qi (fun (z9 : Int32) (_ : Unit) => z9 = rd_last st) (fun _ _ => True) (fun _ => False)) 0 0 (fun _ => False) := by
  refine Met.ofW (cc := b_De_lastRound) (maxL := 1) (ret := (some .int)) (by decide) rfl ?_
  intro p e s m args below meth c s₁ B hml hv
  obtain ⟨rfl, hK, hP⟩ := hv
  have hx := B.exec
  have hb := B.bytes
  have hr := B.returns
  have hts := atoms_spec (ws := (w_ y_De_lastRound b_De_lastRound 1 (some .int))) B.pre
  have hown : s.vm.findClass R_De = some m.cls := findClass_of_methodNamed B.named
  have hlocks := B.notSynchronized
  have hS : va_S (fun _ => False) s.heap s.heap [] := va_S.rf
  have hl := lv_entry ([.ref d0]) (n := 1) (Nat.le_of_ble_eq_true rfl)
  rw [lg_entry_eq]
  generalize (lg_sl ([.ref d0]) ++ List.replicate (1 - (lg_sl ([.ref d0])).length) Slot.unset).toArray = ls at hl ⊢
  have hl : lv_has ls 1 [(0, .ref d0)] := hl
  refine lv_aload_n hx hb d_De_lastRound_0 rfl (lv_at hl 0 rfl) ?_
  refine va_get (D := (dC, dI)) (ci := 2) (v := .int (nI st.2.2.2.2.1)) (C := R_De) (T := F_De) (N := 8) hx hb hts (rg_c i_De) hown hK hP 0 rfl rfl 6 (by decide) (hts _ (List.mem_cons_of_mem _ m_56)) (fun _ h9 => h9) rfl d_De_lastRound_1 ?_
  refine rv_if_le (tgt := 31) hx hb d_De_lastRound_4 (by decide) (by omega) (fun c_4 => ?_) (fun c_4 => ?_)
  · refine lv_iconst (v := nI 0) hx hb d_De_lastRound_31 (by decide) ?_
    exact W.iret (v := nI 0) hx hb hr (fun t ht hW => ⟨⟨nI 0, (), rfl, by unfold rd_last; rw [if_neg (by omega)], trivial⟩, hS.F ht⟩) hS.2.2 d_De_lastRound_32
  · refine lv_aload_n hx hb d_De_lastRound_7 rfl (lv_at hl 0 rfl) ?_
    refine va_get (D := (dC, dI)) (ci := 2) (v := .int (nI st.2.2.2.2.1)) (C := R_De) (T := F_De) (N := 8) hx hb hts (rg_c i_De) hown hK hP 0 rfl rfl 6 (by decide) (hts _ (List.mem_cons_of_mem _ m_56)) (fun _ h9 => h9) rfl d_De_lastRound_8 ?_
    refine lv_sipush (v := nI 400) hx hb d_De_lastRound_11 (by decide) ?_
    refine rv_icmp_gt (tgt := 31) hx hb d_De_lastRound_14 (by decide) (by omega) (by omega) (fun c_14 => absurd c_14 (by omega)) (fun c_14 => ?_)
    refine lv_aload_n hx hb d_De_lastRound_17 rfl (lv_at hl 0 rfl) ?_
    refine va_get (D := (dC, dI)) (ci := 2) (v := .ref qr) (C := R_De) (T := F_De) (N := 8) hx hb hts (rg_c i_De) hown hK hP 0 rfl rfl 4 (by decide) (hts _ (List.mem_cons_of_mem _ m_54)) (fun _ h9 => h9) rfl d_De_lastRound_18 ?_
    refine lv_aload_n hx hb d_De_lastRound_21 rfl (lv_at hl 0 rfl) ?_
    refine va_get (D := (dC, dI)) (ci := 2) (v := .int (nI st.2.2.2.2.1)) (C := R_De) (T := F_De) (N := 8) hx hb hts (rg_c i_De) hown hK hP 0 rfl rfl 6 (by decide) (hts _ (List.mem_cons_of_mem _ m_56)) (fun _ h9 => h9) rfl d_De_lastRound_22 ?_
    refine lv_iconst (v := nI 1) hx hb d_De_lastRound_25 (by decide) ?_
    refine rv_isub hx hb d_De_lastRound_26 (by omega) ?_
    refine rv_ald (k := (st.2.2.2.2.1 - 1)) hx hb hK hP 2 0 rfl rfl (by omega) (by decide) d_De_lastRound_27 ?_
    refine lv_goto (tgt := 32) hx hb d_De_lastRound_28 (by decide) ?_
    exact W.iret (v := st.2.2.2.1 (st.2.2.2.2.1 - 1)) hx hb hr (fun t ht hW => ⟨⟨st.2.2.2.1 (st.2.2.2.2.1 - 1), (), rfl, by unfold rd_last; rw [if_pos (by omega)], trivial⟩, hS.F ht⟩) hS.2.2 d_De_lastRound_32

set_option maxHeartbeats 4000000 in
set_option maxRecDepth 100000 in
theorem c_De_roundOf (l : Launch) (dC : Nat → ClassId) (dI : Nat → Nat → Nat) (dA : ClassId) (tP tG tC d0 qc aT t1 t2 t3 aU u1 u2 u3 qk qr : Nat) (he : sT) (now : Nat) (cc0 : Int32) (st : sD) (hcnt : st.2.2.2.2.1 ≤ 400) : Met l y_De_roundOf (w_ y_De_roundOf b_De_roundOf 3 (some .int)) (rm_ 0) (va_Pc [.ref d0, .int cc0] (fun U => va_K (dC, dI) classes [(dA, .int)] U ∧ va_P (dC, dI) classes [(d0, .inr (2, [.ref aT, .ref qc, .ref aU, .ref qk, .ref qr, .int (nI now), .int (nI st.2.2.2.2.1), .int (rb_z st.2.2.2.2.2)])), (qk, .inl (dA, 400, .inl st.2.2.1)), (qr, .inl (dA, 400, .inl st.2.2.2.1))] U.heap)) (va_Qi (fun (z9 : Int32) (_ : Unit) => z9 = rd_find st.2.2.1 st.2.2.2.1 cc0 st.2.2.2.2.1 0) (fun _ _ => True) (fun _ => False)) 0 0 (fun _ => False) := by
  refine Met.ofW (cc := b_De_roundOf) (maxL := 3) (ret := (some .int)) (by decide) rfl ?_
  intro p e s m args below meth c s₁ B hml hv
  obtain ⟨rfl, hK, hP⟩ := hv
  have hx := B.exec
  have hb := B.bytes
  have hr := B.returns
  have hts := atoms_spec (ws := (w_ y_De_roundOf b_De_roundOf 3 (some .int))) B.pre
  have hown : s.vm.findClass R_De = some m.cls := findClass_of_methodNamed B.named
  have hlocks := B.notSynchronized
  have hS : va_S (fun _ => False) s.heap s.heap [] := va_S.rf
  have hl := lv_entry ([.ref d0, .int cc0]) (n := 3) (Nat.le_of_ble_eq_true rfl)
  rw [lg_entry_eq]
  generalize (lg_sl ([.ref d0, .int cc0]) ++ List.replicate (3 - (lg_sl ([.ref d0, .int cc0])).length) Slot.unset).toArray = ls at hl ⊢
  have hl : lv_has ls 3 [(0, .ref d0), (1, .int cc0)] := hl
  refine lv_iconst (v := nI 0) hx hb d_De_roundOf_0 (by decide) ?_
  refine lv_istore_n (lv' := [(2, .int (nI 0)), (0, .ref d0), (1, .int cc0)]) hx hb d_De_roundOf_1 rfl hl (by decide) rfl (fun ls hl => ?_)
  refine rv_Q (fun Q hQ => ?_)
  have lp : ∀ (n : Nat) (j : Nat) (H : Heap) (locs : List Loc) (ls : Array Slot), j + n = st.2.2.2.2.1 → rd_find st.2.2.1 st.2.2.2.1 cc0 n j = rd_find st.2.2.1 st.2.2.2.1 cc0 st.2.2.2.2.1 0 → va_P (dC, dI) classes [(d0, .inr (2, [.ref aT, .ref qc, .ref aU, .ref qk, .ref qr, .int (nI now), .int (nI st.2.2.2.2.1), .int (rb_z st.2.2.2.2.2)])), (qk, .inl (dA, 400, .inl st.2.2.1)), (qr, .inl (dA, 400, .inl st.2.2.2.1))] H → va_S (fun _ => False) s.heap H locs → lv_has ls 3 [(2, .int (nI j)), (0, .ref d0), (1, .int cc0)] → W p l e (headSpec (w_ y_De_roundOf b_De_roundOf 3 (some .int)) (rm_ 0)).room s m ([.ref d0, .int cc0] : List Value).toArray below meth c H locs 0 0 Q (F0 m 2 ls []) := by
    intro n
    induction n with
    | zero =>
      intro j H locs ls hn hR hP hS hl
      refine lv_iload_n hx hb d_De_roundOf_2 rfl (lv_at hl 0 rfl) ?_
      refine lv_aload_n hx hb d_De_roundOf_3 rfl (lv_at hl 1 rfl) ?_
      refine va_get (D := (dC, dI)) (ci := 2) (v := .int (nI st.2.2.2.2.1)) (C := R_De) (T := F_De) (N := 8) hx hb hts (rg_c i_De) hown hK hP 0 rfl rfl 6 (by decide) (hts _ (List.mem_cons_of_mem _ m_56)) (fun _ h9 => h9) rfl d_De_roundOf_4 ?_
      refine rv_icmp_ge (tgt := 33) hx hb d_De_roundOf_7 (by decide) (by omega) (by omega) (fun c_7 => ?_) (fun c_7 => absurd c_7 (by omega))
      refine lv_bipush (v := (-2)) hx hb d_De_roundOf_33 (by decide) ?_
      subst hQ
      exact W.iret (v := (-2)) hx hb hr (fun t ht hW => ⟨⟨(-2), (), rfl, hR, trivial⟩, hS.F ht⟩) hS.2.2 d_De_roundOf_35
    | succ n ih =>
      intro j H locs ls hn hR hP hS hl
      refine lv_iload_n hx hb d_De_roundOf_2 rfl (lv_at hl 0 rfl) ?_
      refine lv_aload_n hx hb d_De_roundOf_3 rfl (lv_at hl 1 rfl) ?_
      refine va_get (D := (dC, dI)) (ci := 2) (v := .int (nI st.2.2.2.2.1)) (C := R_De) (T := F_De) (N := 8) hx hb hts (rg_c i_De) hown hK hP 0 rfl rfl 6 (by decide) (hts _ (List.mem_cons_of_mem _ m_56)) (fun _ h9 => h9) rfl d_De_roundOf_4 ?_
      refine rv_icmp_ge (tgt := 33) hx hb d_De_roundOf_7 (by decide) (by omega) (by omega) (fun c_7 => absurd c_7 (by omega)) (fun c_7 => ?_)
      refine lv_aload_n hx hb d_De_roundOf_10 rfl (lv_at hl 1 rfl) ?_
      refine va_get (D := (dC, dI)) (ci := 2) (v := .ref qk) (C := R_De) (T := F_De) (N := 8) hx hb hts (rg_c i_De) hown hK hP 0 rfl rfl 3 (by decide) (hts _ (List.mem_cons_of_mem _ m_53)) (fun _ h9 => h9) rfl d_De_roundOf_11 ?_
      refine lv_iload_n hx hb d_De_roundOf_14 rfl (lv_at hl 0 rfl) ?_
      refine rv_ald (k := j) hx hb hK hP 1 0 rfl rfl (by omega) (by decide) d_De_roundOf_15 ?_
      refine lv_iload_n hx hb d_De_roundOf_16 rfl (lv_at hl 2 rfl) ?_
      refine lv_icmp_ne (tgt := 27) hx hb d_De_roundOf_17 (by decide) (fun c_17 => ?_) (fun c_17 => ?_)
      · have hR2 : rd_find st.2.2.1 st.2.2.2.1 cc0 n (j + 1) = rd_find st.2.2.1 st.2.2.2.1 cc0 st.2.2.2.2.1 0 := by rw [← hR]; show _ = if _ then _ else _; rw [if_neg c_17]
        refine rv_inc (k := 0) (lv' := [(2, .int (nI (j + 1))), (0, .ref d0), (1, .int cc0)]) hx hb d_De_roundOf_27 hl rfl (by decide) rfl (fun ls hl => ?_)
        refine lv_goto (tgt := 2) hx hb d_De_roundOf_30 (by decide) ?_
        exact ih (j + 1) _ _ _ (by omega) (hR2) hP hS (lv_sub hl [0, 1, 2] rfl)
      · refine lv_aload_n hx hb d_De_roundOf_20 rfl (lv_at hl 1 rfl) ?_
        refine va_get (D := (dC, dI)) (ci := 2) (v := .ref qr) (C := R_De) (T := F_De) (N := 8) hx hb hts (rg_c i_De) hown hK hP 0 rfl rfl 4 (by decide) (hts _ (List.mem_cons_of_mem _ m_54)) (fun _ h9 => h9) rfl d_De_roundOf_21 ?_
        refine lv_iload_n hx hb d_De_roundOf_24 rfl (lv_at hl 0 rfl) ?_
        refine rv_ald (k := j) hx hb hK hP 2 0 rfl rfl (by omega) (by decide) d_De_roundOf_25 ?_
        subst hQ
        exact W.iret (v := st.2.2.2.1 j) hx hb hr (fun t ht hW => ⟨⟨st.2.2.2.1 j, (), rfl, by rw [← hR]; show _ = if _ then _ else _; rw [if_pos (by assumption)], trivial⟩, hS.F ht⟩) hS.2.2 d_De_roundOf_26
  exact lp st.2.2.2.2.1 0 _ _ _ (by omega) (rfl) hP hS (lv_sub hl [0, 1, 2] rfl)
end
