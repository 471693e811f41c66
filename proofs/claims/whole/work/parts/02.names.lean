def R_Rl : String := "RlRounds"
def R_Tb : String := "RlRounds$Table"
def R_Le : String := "RlRounds$Letters"
def R_Tr : String := "RlRounds$Triples"
def R_Ma : String := "RlRounds$Matcher"
def R_De : String := "RlRounds$Deriver"
def R_Se : String := "RlRounds$Seeker"
def R_Ig : String := "java/lang/Integer"
def R_Mt : String := "java/lang/Math"
def R_Ar : String := "java/util/Arrays"
def R_Mo : String := "RlRoundsModel"
def R_Lw : String := "RlRoundsLaw"
abbrev b_Rl_init : ByteArray := prog_1_method_1_code
def y_Rl_init : MethodName := ⟨R_Rl, "<init>", "()V"⟩
abbrev b_Tr_init : ByteArray := prog_7_method_1_code
def y_Tr_init : MethodName := ⟨R_Tr, "<init>", "()V"⟩
abbrev b_De_init : ByteArray := prog_2_method_1_code
def y_De_init : MethodName := ⟨R_De, "<init>", "(LRlRounds$Triples;)V"⟩
abbrev b_Ma_init : ByteArray := prog_4_method_1_code
def y_Ma_init : MethodName := ⟨R_Ma, "<init>", "(LRlRounds$Triples;)V"⟩
abbrev b_Se_init : ByteArray := prog_5_method_1_code
def y_Se_init : MethodName := ⟨R_Se, "<init>", "(LRlRounds$Triples;)V"⟩
abbrev b_Rl_say : ByteArray := prog_1_method_2_code
def y_Rl_say : MethodName := ⟨R_Rl, "say", "(III)I"⟩
abbrev b_Rl_areTerms : ByteArray := prog_1_method_18_code
def y_Rl_areTerms : MethodName := ⟨R_Rl, "areTerms", "(III)Z"⟩
abbrev b_Rl_isTerm : ByteArray := prog_1_method_17_code
def y_Rl_isTerm : MethodName := ⟨R_Rl, "isTerm", "(I)Z"⟩
abbrev b_Rl_codeOf : ByteArray := prog_1_method_19_code
def y_Rl_codeOf : MethodName := ⟨R_Rl, "codeOf", "(III)I"⟩
abbrev b_Rl_placeOfSaid : ByteArray := prog_1_method_16_code
def y_Rl_placeOfSaid : MethodName := ⟨R_Rl, "placeOfSaid", "(I)I"⟩
abbrev b_Rl_unsay : ByteArray := prog_1_method_3_code
def y_Rl_unsay : MethodName := ⟨R_Rl, "unsay", "(III)I"⟩
abbrev b_Rl_rule : ByteArray := prog_1_method_4_code
def y_Rl_rule : MethodName := ⟨R_Rl, "rule", "(IZ)I"⟩
abbrev b_Rl_contains : ByteArray := prog_1_method_20_code
def y_Rl_contains : MethodName := ⟨R_Rl, "contains", "(II)Z"⟩
abbrev b_Rl_run : ByteArray := prog_1_method_5_code
def y_Rl_run : MethodName := ⟨R_Rl, "run", "()I"⟩
abbrev b_Rl_isTooLarge : ByteArray := prog_1_method_15_code
def y_Rl_isTooLarge : MethodName := ⟨R_Rl, "isTooLarge", "()Z"⟩
abbrev b_De_derive : ByteArray := prog_2_method_2_code
def y_De_derive : MethodName := ⟨R_De, "derive", "([III)V"⟩
abbrev b_Tr_clear : ByteArray := prog_7_method_2_code
def y_Tr_clear : MethodName := ⟨R_Tr, "clear", "()V"⟩
abbrev b_Ar_fill : ByteArray := prog_12_method_103_code
def y_Ar_fill : MethodName := ⟨R_Ar, "fill", "([II)V"⟩
abbrev b_De_add : ByteArray := prog_2_method_6_code
def y_De_add : MethodName := ⟨R_De, "add", "(I)V"⟩
abbrev b_Tr_has : ByteArray := prog_7_method_4_code
def y_Tr_has : MethodName := ⟨R_Tr, "has", "(I)Z"⟩
abbrev b_Tr_put : ByteArray := prog_7_method_3_code
def y_Tr_put : MethodName := ⟨R_Tr, "put", "(I)V"⟩
abbrev b_De_rulesInReach : ByteArray := prog_2_method_3_code
def y_De_rulesInReach : MethodName := ⟨R_De, "rulesInReach", "()I"⟩
abbrev b_Tb_premiseAt : ByteArray := prog_6_method_3_code
def y_Tb_premiseAt : MethodName := ⟨R_Tb, "premiseAt", "(II)I"⟩
abbrev b_Tr_subjectsFor : ByteArray := prog_7_method_5_code
def y_Tr_subjectsFor : MethodName := ⟨R_Tr, "subjectsFor", "(II)I"⟩
abbrev b_De_applyRules : ByteArray := prog_2_method_4_code
def y_De_applyRules : MethodName := ⟨R_De, "applyRules", "(II)V"⟩
abbrev b_Tb_premiseCount : ByteArray := prog_6_method_2_code
def y_Tb_premiseCount : MethodName := ⟨R_Tb, "premiseCount", "(I)I"⟩
abbrev b_Le_fit : ByteArray := prog_3_method_4_code
def y_Le_fit : MethodName := ⟨R_Le, "fit", "([IIIJ)J"⟩
abbrev b_Le_bind : ByteArray := prog_3_method_3_code
def y_Le_bind : MethodName := ⟨R_Le, "bind", "(IIJ)J"⟩
abbrev b_Le_termOf : ByteArray := prog_3_method_2_code
def y_Le_termOf : MethodName := ⟨R_Le, "termOf", "(IJ)I"⟩
abbrev b_Ma_join : ByteArray := prog_4_method_3_code
def y_Ma_join : MethodName := ⟨R_Ma, "join", "(LRlRounds$Matcher;IIIJ)Z"⟩
abbrev b_De_meet : ByteArray := prog_2_method_5_code
def y_De_meet : MethodName := ⟨R_De, "meet", "(IJ)Z"⟩
abbrev b_Tb_givenCode : ByteArray := prog_6_method_5_code
def y_Tb_givenCode : MethodName := ⟨R_Tb, "givenCode", "(IJ)I"⟩
abbrev b_Tb_givenAt : ByteArray := prog_6_method_4_code
def y_Tb_givenAt : MethodName := ⟨R_Tb, "givenAt", "(I)I"⟩
abbrev b_Se_meet : ByteArray := prog_5_method_6_code
def y_Se_meet : MethodName := ⟨R_Se, "meet", "(IJ)Z"⟩
abbrev b_Ig_bitCount : ByteArray := prog_10_method_49_code
def y_Ig_bitCount : MethodName := ⟨R_Ig, "bitCount", "(I)I"⟩
abbrev b_Rl_leastOf : ByteArray := prog_1_method_21_code
def y_Rl_leastOf : MethodName := ⟨R_Rl, "leastOf", "(I)I"⟩
abbrev b_Rl_withoutLeast : ByteArray := prog_1_method_22_code
def y_Rl_withoutLeast : MethodName := ⟨R_Rl, "withoutLeast", "(I)I"⟩
abbrev b_Tr_predicatesFor : ByteArray := prog_7_method_6_code
def y_Tr_predicatesFor : MethodName := ⟨R_Tr, "predicatesFor", "(II)I"⟩
abbrev b_Tr_objectsFor : ByteArray := prog_7_method_7_code
def y_Tr_objectsFor : MethodName := ⟨R_Tr, "objectsFor", "(III)I"⟩
abbrev b_De_lastRound : ByteArray := prog_2_method_7_code
def y_De_lastRound : MethodName := ⟨R_De, "lastRound", "()I"⟩
abbrev b_Rl_size : ByteArray := prog_1_method_6_code
def y_Rl_size : MethodName := ⟨R_Rl, "size", "()I"⟩
abbrev b_Rl_triple : ByteArray := prog_1_method_7_code
def y_Rl_triple : MethodName := ⟨R_Rl, "triple", "(I)I"⟩
abbrev b_Tr_codeAt : ByteArray := prog_7_method_8_code
def y_Tr_codeAt : MethodName := ⟨R_Tr, "codeAt", "(I)I"⟩
abbrev b_Tr_elementAt : ByteArray := prog_7_method_9_code
def y_Tr_elementAt : MethodName := ⟨R_Tr, "elementAt", "(II)I"⟩
abbrev b_Rl_round : ByteArray := prog_1_method_8_code
def y_Rl_round : MethodName := ⟨R_Rl, "round", "(III)I"⟩
abbrev b_De_roundOf : ByteArray := prog_2_method_8_code
def y_De_roundOf : MethodName := ⟨R_De, "roundOf", "(I)I"⟩
abbrev b_Rl_ways : ByteArray := prog_1_method_9_code
def y_Rl_ways : MethodName := ⟨R_Rl, "ways", "(III)I"⟩
abbrev b_Se_countWays : ByteArray := prog_5_method_2_code
def y_Se_countWays : MethodName := ⟨R_Se, "countWays", "(II)I"⟩
abbrev b_Se_seekWay : ByteArray := prog_5_method_3_code
def y_Se_seekWay : MethodName := ⟨R_Se, "seekWay", "(III)Z"⟩
abbrev b_Rl_way : ByteArray := prog_1_method_10_code
def y_Rl_way : MethodName := ⟨R_Rl, "way", "(IIIII)I"⟩
abbrev b_Se_foundPremise : ByteArray := prog_5_method_7_code
def y_Se_foundPremise : MethodName := ⟨R_Se, "foundPremise", "(I)I"⟩
abbrev b_Rl_clashes : ByteArray := prog_1_method_11_code
def y_Rl_clashes : MethodName := ⟨R_Rl, "clashes", "()I"⟩
abbrev b_Se_countClashes : ByteArray := prog_5_method_4_code
def y_Se_countClashes : MethodName := ⟨R_Se, "countClashes", "()I"⟩
abbrev b_Se_seekClash : ByteArray := prog_5_method_5_code
def y_Se_seekClash : MethodName := ⟨R_Se, "seekClash", "(I)Z"⟩
abbrev b_Rl_clash : ByteArray := prog_1_method_12_code
def y_Rl_clash : MethodName := ⟨R_Rl, "clash", "(II)I"⟩
abbrev b_Rl_group : ByteArray := prog_1_method_13_code
def y_Rl_group : MethodName := ⟨R_Rl, "group", "(I)I"⟩
abbrev b_Mt_min : ByteArray := prog_11_method_69_code
def y_Mt_min : MethodName := ⟨R_Mt, "min", "(II)I"⟩
abbrev b_Rl_said : ByteArray := prog_1_method_14_code
def y_Rl_said : MethodName := ⟨R_Rl, "said", "()I"⟩
abbrev b_Mo_init : ByteArray := prog_9_method_1_code
def y_Mo_init : MethodName := ⟨R_Mo, "<init>", "()V"⟩
abbrev b_Mo_say : ByteArray := prog_9_method_18_code
def y_Mo_say : MethodName := ⟨R_Mo, "say", "(III)I"⟩
abbrev b_Mo_isTriple : ByteArray := prog_9_method_3_code
def y_Mo_isTriple : MethodName := ⟨R_Mo, "isTriple", "(III)Z"⟩
abbrev b_Mo_isTerm : ByteArray := prog_9_method_2_code
def y_Mo_isTerm : MethodName := ⟨R_Mo, "isTerm", "(I)Z"⟩
abbrev b_Mo_codeOf : ByteArray := prog_9_method_4_code
def y_Mo_codeOf : MethodName := ⟨R_Mo, "codeOf", "(III)I"⟩
abbrev b_Mo_unsay : ByteArray := prog_9_method_19_code
def y_Mo_unsay : MethodName := ⟨R_Mo, "unsay", "(III)I"⟩
abbrev b_Mo_rule : ByteArray := prog_9_method_20_code
def y_Mo_rule : MethodName := ⟨R_Mo, "rule", "(IZ)I"⟩
abbrev b_Mo_run : ByteArray := prog_9_method_21_code
def y_Mo_run : MethodName := ⟨R_Mo, "run", "()I"⟩
abbrev b_Mo_make : ByteArray := prog_9_method_17_code
def y_Mo_make : MethodName := ⟨R_Mo, "make", "()V"⟩
abbrev b_Mo_collect : ByteArray := prog_9_method_16_code
def y_Mo_collect : MethodName := ⟨R_Mo, "collect", "()V"⟩
abbrev b_Mo_begin : ByteArray := prog_9_method_9_code
def y_Mo_begin : MethodName := ⟨R_Mo, "begin", "(I)V"⟩
abbrev b_Mo_next : ByteArray := prog_9_method_13_code
def y_Mo_next : MethodName := ⟨R_Mo, "next", "()Z"⟩
abbrev b_Mo_premises : ByteArray := prog_9_method_8_code
def y_Mo_premises : MethodName := ⟨R_Mo, "premises", "(I)I"⟩
abbrev b_Mo_pattern : ByteArray := prog_9_method_5_code
def y_Mo_pattern : MethodName := ⟨R_Mo, "pattern", "(I)I"⟩
abbrev b_Mo_early : ByteArray := prog_9_method_6_code
def y_Mo_early : MethodName := ⟨R_Mo, "early", "(I)I"⟩
abbrev b_Mo_later : ByteArray := prog_9_method_7_code
def y_Mo_later : MethodName := ⟨R_Mo, "later", "(I)I"⟩
abbrev b_Mo_release : ByteArray := prog_9_method_10_code
def y_Mo_release : MethodName := ⟨R_Mo, "release", "()V"⟩
abbrev b_Mo_fits : ByteArray := prog_9_method_12_code
def y_Mo_fits : MethodName := ⟨R_Mo, "fits", "(I)Z"⟩
abbrev b_Mo_fitsItem : ByteArray := prog_9_method_11_code
def y_Mo_fitsItem : MethodName := ⟨R_Mo, "fitsItem", "(III)Z"⟩
abbrev b_Mo_given : ByteArray := prog_9_method_15_code
def y_Mo_given : MethodName := ⟨R_Mo, "given", "()I"⟩
abbrev b_Mo_termOf : ByteArray := prog_9_method_14_code
def y_Mo_termOf : MethodName := ⟨R_Mo, "termOf", "(I)I"⟩
abbrev b_Mo_size : ByteArray := prog_9_method_22_code
def y_Mo_size : MethodName := ⟨R_Mo, "size", "()I"⟩
abbrev b_Mo_triple : ByteArray := prog_9_method_23_code
def y_Mo_triple : MethodName := ⟨R_Mo, "triple", "(I)I"⟩
abbrev b_Mo_round : ByteArray := prog_9_method_24_code
def y_Mo_round : MethodName := ⟨R_Mo, "round", "(III)I"⟩
abbrev b_Mo_ways : ByteArray := prog_9_method_25_code
def y_Mo_ways : MethodName := ⟨R_Mo, "ways", "(III)I"⟩
abbrev b_Mo_way : ByteArray := prog_9_method_27_code
def y_Mo_way : MethodName := ⟨R_Mo, "way", "(IIIII)I"⟩
abbrev b_Mo_premise : ByteArray := prog_9_method_26_code
def y_Mo_premise : MethodName := ⟨R_Mo, "premise", "(I)I"⟩
abbrev b_Mo_clashes : ByteArray := prog_9_method_28_code
def y_Mo_clashes : MethodName := ⟨R_Mo, "clashes", "()I"⟩
abbrev b_Mo_clash : ByteArray := prog_9_method_29_code
def y_Mo_clash : MethodName := ⟨R_Mo, "clash", "(II)I"⟩
abbrev b_Mo_group : ByteArray := prog_9_method_30_code
def y_Mo_group : MethodName := ⟨R_Mo, "group", "(I)I"⟩
abbrev b_Mo_said : ByteArray := prog_9_method_31_code
def y_Mo_said : MethodName := ⟨R_Mo, "said", "()I"⟩
def y_Ma_meet : MethodName := ⟨R_Ma, "meet", "(IJ)Z"⟩
def F_Rl : u_T := fun k => match k with
  | 0 => ("RlRounds", "saidCodes", "[I", true)
  | 1 => ("RlRounds", "saidCount", "I", false)
  | 2 => ("RlRounds", "rulesOn", "I", false)
  | 3 => ("RlRounds", "derived", "Z", false)
  | 4 => ("RlRounds", "held", "LRlRounds$Triples;", true)
  | 5 => ("RlRounds", "deriver", "LRlRounds$Deriver;", true)
  | _ => ("RlRounds", "seeker", "LRlRounds$Seeker;", true)
def t_Rl : Nat → FieldType := fun k => match k with
  | 0 => .array .int
  | 1 => .int
  | 2 => .int
  | 3 => .boolean
  | 4 => .object "RlRounds$Triples"
  | 5 => .object "RlRounds$Deriver"
  | _ => .object "RlRounds$Seeker"
theorem n_Rl : ∀ a, a < 7 → ∀ b, b < 7 → a ≠ b → (F_Rl a).2.1 ≠ (F_Rl b).2.1 := by decide +kernel
theorem t_Rl_ok : ∀ k, k < 7 → parseFieldDescriptor (F_Rl k).2.2.1 = some (t_Rl k) := by decide +kernel
theorem i_Rl : ∀ w ∈ u_ws R_Rl F_Rl 7, w ∈ rg_tbl := by decide +kernel
def F_Tr : u_T := fun k => match k with
  | 0 => ("RlRounds$Triples", "objects", "[I", true)
  | 1 => ("RlRounds$Triples", "subjects", "[I", true)
  | 2 => ("RlRounds$Triples", "predicates", "[I", true)
  | _ => ("RlRounds$Triples", "allSubjects", "I", false)
def t_Tr : Nat → FieldType := fun k => match k with
  | 0 => .array .int
  | 1 => .array .int
  | 2 => .array .int
  | _ => .int
theorem n_Tr : ∀ a, a < 4 → ∀ b, b < 4 → a ≠ b → (F_Tr a).2.1 ≠ (F_Tr b).2.1 := by decide +kernel
theorem t_Tr_ok : ∀ k, k < 4 → parseFieldDescriptor (F_Tr k).2.2.1 = some (t_Tr k) := by decide +kernel
theorem i_Tr : ∀ w ∈ u_ws R_Tr F_Tr 4, w ∈ rg_tbl := by decide +kernel
def F_De : u_T := fun k => match k with
  | 0 => ("RlRounds$Matcher", "held", "LRlRounds$Triples;", true)
  | 1 => ("RlRounds$Matcher", "chosen", "[I", true)
  | 2 => ("RlRounds$Deriver", "come", "LRlRounds$Triples;", true)
  | 3 => ("RlRounds$Deriver", "codes", "[I", true)
  | 4 => ("RlRounds$Deriver", "rounds", "[I", true)
  | 5 => ("RlRounds$Deriver", "nowRound", "I", false)
  | 6 => ("RlRounds$Deriver", "count", "I", false)
  | _ => ("RlRounds$Deriver", "large", "Z", false)
def t_De : Nat → FieldType := fun k => match k with
  | 0 => .object "RlRounds$Triples"
  | 1 => .array .int
  | 2 => .object "RlRounds$Triples"
  | 3 => .array .int
  | 4 => .array .int
  | 5 => .int
  | 6 => .int
  | _ => .boolean
theorem n_De : ∀ a, a < 8 → ∀ b, b < 8 → a ≠ b → (F_De a).2.1 ≠ (F_De b).2.1 := by decide +kernel
theorem t_De_ok : ∀ k, k < 8 → parseFieldDescriptor (F_De k).2.2.1 = some (t_De k) := by decide +kernel
theorem i_De : ∀ w ∈ u_ws R_De F_De 8, w ∈ rg_tbl := by decide +kernel
def F_Se : u_T := fun k => match k with
  | 0 => ("RlRounds$Matcher", "held", "LRlRounds$Triples;", true)
  | 1 => ("RlRounds$Matcher", "chosen", "[I", true)
  | 2 => ("RlRounds$Seeker", "wanted", "I", false)
  | 3 => ("RlRounds$Seeker", "met", "I", false)
  | _ => ("RlRounds$Seeker", "foundRow", "I", false)
def t_Se : Nat → FieldType := fun k => match k with
  | 0 => .object "RlRounds$Triples"
  | 1 => .array .int
  | 2 => .int
  | 3 => .int
  | _ => .int
theorem n_Se : ∀ a, a < 5 → ∀ b, b < 5 → a ≠ b → (F_Se a).2.1 ≠ (F_Se b).2.1 := by decide +kernel
theorem t_Se_ok : ∀ k, k < 5 → parseFieldDescriptor (F_Se k).2.2.1 = some (t_Se k) := by decide +kernel
theorem i_Se : ∀ w ∈ u_ws R_Se F_Se 5, w ∈ rg_tbl := by decide +kernel
def F_Mo : u_T := fun k => match k with
  | 0 => ("RlRoundsModel", "said", "[Z", true)
  | 1 => ("RlRoundsModel", "saidCount", "I", false)
  | 2 => ("RlRoundsModel", "off", "[Z", true)
  | 3 => ("RlRoundsModel", "known", "Z", false)
  | 4 => ("RlRoundsModel", "large", "Z", false)
  | 5 => ("RlRoundsModel", "greatest", "I", false)
  | 6 => ("RlRoundsModel", "rounds", "[I", true)
  | 7 => ("RlRoundsModel", "comes", "[Z", true)
  | 8 => ("RlRoundsModel", "held", "[I", true)
  | 9 => ("RlRoundsModel", "many", "I", false)
  | 10 => ("RlRoundsModel", "at", "[I", true)
  | 11 => ("RlRoundsModel", "letters", "[I", true)
  | 12 => ("RlRoundsModel", "bound", "[I", true)
  | 13 => ("RlRoundsModel", "level", "I", false)
  | _ => ("RlRoundsModel", "rule", "I", false)
def t_Mo : Nat → FieldType := fun k => match k with
  | 0 => .array .boolean
  | 1 => .int
  | 2 => .array .boolean
  | 3 => .boolean
  | 4 => .boolean
  | 5 => .int
  | 6 => .array .int
  | 7 => .array .boolean
  | 8 => .array .int
  | 9 => .int
  | 10 => .array .int
  | 11 => .array .int
  | 12 => .array .int
  | 13 => .int
  | _ => .int
theorem n_Mo : ∀ a, a < 15 → ∀ b, b < 15 → a ≠ b → (F_Mo a).2.1 ≠ (F_Mo b).2.1 := by decide +kernel
theorem t_Mo_ok : ∀ k, k < 15 → parseFieldDescriptor (F_Mo k).2.2.1 = some (t_Mo k) := by decide +kernel
theorem i_Mo : ∀ w ∈ u_ws R_Mo F_Mo 15, w ∈ rg_tbl := by decide +kernel
abbrev classes : List vw_C := [(R_Rl, F_Rl, 7), (R_Tr, F_Tr, 4), (R_De, F_De, 8), (R_Se, F_Se, 5), (R_Mo, F_Mo, 15)]
theorem m_0 : (.initialized R_Lw : Cond) ∈ rg_tbl := rg_in (List.mem_append_right _ (List.mem_of_getElem? (i := 0) (by decide +kernel))) (by decide +kernel)
theorem m_1 : (.initialized R_Rl : Cond) ∈ rg_tbl := rg_in (List.mem_append_right _ (List.mem_of_getElem? (i := 1) (by decide +kernel))) (by decide +kernel)
theorem m_2 : (.initialized R_Tr : Cond) ∈ rg_tbl := rg_in (List.mem_append_right _ (List.mem_of_getElem? (i := 2) (by decide +kernel))) (by decide +kernel)
theorem m_3 : (.initialized R_Ma : Cond) ∈ rg_tbl := rg_in (List.mem_append_right _ (List.mem_of_getElem? (i := 3) (by decide +kernel))) (by decide +kernel)
theorem m_4 : (.initialized R_De : Cond) ∈ rg_tbl := rg_in (List.mem_append_right _ (List.mem_of_getElem? (i := 4) (by decide +kernel))) (by decide +kernel)
theorem m_5 : (.initialized R_Se : Cond) ∈ rg_tbl := rg_in (List.mem_append_right _ (List.mem_of_getElem? (i := 5) (by decide +kernel))) (by decide +kernel)
theorem m_6 : (.initialized R_Mo : Cond) ∈ rg_tbl := rg_in (List.mem_append_right _ (List.mem_of_getElem? (i := 6) (by decide +kernel))) (by decide +kernel)
theorem m_7 : (.initialized R_Ar : Cond) ∈ rg_tbl := rg_in (List.mem_append_right _ (List.mem_of_getElem? (i := 7) (by decide +kernel))) (by decide +kernel)
theorem m_8 : (.initialized R_Tb : Cond) ∈ rg_tbl := rg_in (List.mem_append_right _ (List.mem_of_getElem? (i := 8) (by decide +kernel))) (by decide +kernel)
theorem m_9 : (.initialized R_Le : Cond) ∈ rg_tbl := rg_in (List.mem_append_right _ (List.mem_of_getElem? (i := 9) (by decide +kernel))) (by decide +kernel)
theorem m_10 : (.initialized R_Ig : Cond) ∈ rg_tbl := rg_in (List.mem_append_right _ (List.mem_of_getElem? (i := 10) (by decide +kernel))) (by decide +kernel)
theorem m_11 : (.initialized R_Mt : Cond) ∈ rg_tbl := rg_in (List.mem_append_right _ (List.mem_of_getElem? (i := 11) (by decide +kernel))) (by decide +kernel)
theorem m_12 : (.classLink R_Lw 7 "RlRounds" : Cond) ∈ rg_tbl := rg_in (List.mem_append_right _ (List.mem_of_getElem? (i := 12) (by decide +kernel))) (by decide +kernel)
theorem m_13 : (.instantiable R_Rl 7 : Cond) ∈ rg_tbl := rg_in (List.mem_append_right _ (List.mem_of_getElem? (i := 13) (by decide +kernel))) (by decide +kernel)
theorem m_14 : (.methodLink R_Lw 9 y_Rl_init : Cond) ∈ rg_tbl := rg_in (List.mem_append_right _ (List.mem_of_getElem? (i := 14) (by decide +kernel))) (by decide +kernel)
theorem m_15 : (.instanceMethod y_Rl_init : Cond) ∈ rg_tbl := rg_in (List.mem_append_right _ (List.mem_of_getElem? (i := 15) (by decide +kernel))) (by decide +kernel)
theorem m_16 : (.code y_Rl_init b_Rl_init 1 none : Cond) ∈ rg_tbl := rg_in (List.mem_append_right _ (List.mem_of_getElem? (i := 16) (by decide +kernel))) (by decide +kernel)
theorem m_17 : (.methodLink R_Rl 3 objectInit : Cond) ∈ rg_tbl := rg_in (List.mem_append_right _ (List.mem_of_getElem? (i := 17) (by decide +kernel))) (by decide +kernel)
theorem m_18 : (.instanceMethod objectInit : Cond) ∈ rg_tbl := rg_in (List.mem_append_right _ (List.mem_of_getElem? (i := 18) (by decide +kernel))) (by decide +kernel)
theorem m_19 : (.code objectInit ⟨#[0xb1]⟩ 1 none : Cond) ∈ rg_tbl := rg_in (List.mem_append_right _ (List.mem_of_getElem? (i := 19) (by decide +kernel))) (by decide +kernel)
theorem m_20 : (.constant R_Rl 17 2097151 : Cond) ∈ rg_tbl := rg_in (List.mem_append_right _ (List.mem_of_getElem? (i := 20) (by decide +kernel))) (by decide +kernel)
theorem m_21 : (.classLink R_Rl 25 "RlRounds$Triples" : Cond) ∈ rg_tbl := rg_in (List.mem_append_right _ (List.mem_of_getElem? (i := 21) (by decide +kernel))) (by decide +kernel)
theorem m_22 : (.instantiable R_Tr 4 : Cond) ∈ rg_tbl := rg_in (List.mem_append_right _ (List.mem_of_getElem? (i := 22) (by decide +kernel))) (by decide +kernel)
theorem m_23 : (.methodLink R_Rl 27 y_Tr_init : Cond) ∈ rg_tbl := rg_in (List.mem_append_right _ (List.mem_of_getElem? (i := 23) (by decide +kernel))) (by decide +kernel)
theorem m_24 : (.instanceMethod y_Tr_init : Cond) ∈ rg_tbl := rg_in (List.mem_append_right _ (List.mem_of_getElem? (i := 24) (by decide +kernel))) (by decide +kernel)
theorem m_25 : (.code y_Tr_init b_Tr_init 1 none : Cond) ∈ rg_tbl := rg_in (List.mem_append_right _ (List.mem_of_getElem? (i := 25) (by decide +kernel))) (by decide +kernel)
theorem m_26 : (.methodLink R_Tr 3 objectInit : Cond) ∈ rg_tbl := rg_in (List.mem_append_right _ (List.mem_of_getElem? (i := 26) (by decide +kernel))) (by decide +kernel)
theorem m_27 : (.fieldLink R_Tr 9 "RlRounds$Triples" "objects" "[I" : Cond) ∈ rg_tbl := rg_in (List.mem_append_right _ (List.mem_of_getElem? (i := 27) (by decide +kernel))) (by decide +kernel)
theorem m_28 : (.fieldLink R_Tr 15 "RlRounds$Triples" "subjects" "[I" : Cond) ∈ rg_tbl := rg_in (List.mem_append_right _ (List.mem_of_getElem? (i := 28) (by decide +kernel))) (by decide +kernel)
theorem m_29 : (.fieldLink R_Tr 18 "RlRounds$Triples" "predicates" "[I" : Cond) ∈ rg_tbl := rg_in (List.mem_append_right _ (List.mem_of_getElem? (i := 29) (by decide +kernel))) (by decide +kernel)
theorem m_30 : (.fieldLink R_Tr 21 "RlRounds$Triples" "allSubjects" "I" : Cond) ∈ rg_tbl := rg_in (List.mem_append_right _ (List.mem_of_getElem? (i := 30) (by decide +kernel))) (by decide +kernel)
theorem m_40 : (.arrayClass .int : Cond) ∈ rg_tbl := rg_in (List.mem_append_right _ (List.mem_of_getElem? (i := 40) (by decide +kernel))) (by decide +kernel)
theorem m_41 : (.classLink R_Rl 32 "RlRounds$Deriver" : Cond) ∈ rg_tbl := rg_in (List.mem_append_right _ (List.mem_of_getElem? (i := 41) (by decide +kernel))) (by decide +kernel)
theorem m_42 : (.instantiable R_De 8 : Cond) ∈ rg_tbl := rg_in (List.mem_append_right _ (List.mem_of_getElem? (i := 42) (by decide +kernel))) (by decide +kernel)
theorem m_43 : (.methodLink R_Rl 34 y_De_init : Cond) ∈ rg_tbl := rg_in (List.mem_append_right _ (List.mem_of_getElem? (i := 43) (by decide +kernel))) (by decide +kernel)
theorem m_44 : (.instanceMethod y_De_init : Cond) ∈ rg_tbl := rg_in (List.mem_append_right _ (List.mem_of_getElem? (i := 44) (by decide +kernel))) (by decide +kernel)
theorem m_45 : (.code y_De_init b_De_init 2 none : Cond) ∈ rg_tbl := rg_in (List.mem_append_right _ (List.mem_of_getElem? (i := 45) (by decide +kernel))) (by decide +kernel)
theorem m_46 : (.methodLink R_De 3 y_Ma_init : Cond) ∈ rg_tbl := rg_in (List.mem_append_right _ (List.mem_of_getElem? (i := 46) (by decide +kernel))) (by decide +kernel)
theorem m_47 : (.instanceMethod y_Ma_init : Cond) ∈ rg_tbl := rg_in (List.mem_append_right _ (List.mem_of_getElem? (i := 47) (by decide +kernel))) (by decide +kernel)
theorem m_48 : (.code y_Ma_init b_Ma_init 2 none : Cond) ∈ rg_tbl := rg_in (List.mem_append_right _ (List.mem_of_getElem? (i := 48) (by decide +kernel))) (by decide +kernel)
theorem m_49 : (.methodLink R_Ma 3 objectInit : Cond) ∈ rg_tbl := rg_in (List.mem_append_right _ (List.mem_of_getElem? (i := 49) (by decide +kernel))) (by decide +kernel)
theorem m_50 : (.classLink R_De 9 "RlRounds$Triples" : Cond) ∈ rg_tbl := rg_in (List.mem_append_right _ (List.mem_of_getElem? (i := 50) (by decide +kernel))) (by decide +kernel)
theorem m_51 : (.methodLink R_De 11 y_Tr_init : Cond) ∈ rg_tbl := rg_in (List.mem_append_right _ (List.mem_of_getElem? (i := 51) (by decide +kernel))) (by decide +kernel)
theorem m_52 : (.fieldLink R_De 14 "RlRounds$Deriver" "come" "LRlRounds$Triples;" : Cond) ∈ rg_tbl := rg_in (List.mem_append_right _ (List.mem_of_getElem? (i := 52) (by decide +kernel))) (by decide +kernel)
theorem m_53 : (.fieldLink R_De 20 "RlRounds$Deriver" "codes" "[I" : Cond) ∈ rg_tbl := rg_in (List.mem_append_right _ (List.mem_of_getElem? (i := 53) (by decide +kernel))) (by decide +kernel)
theorem m_54 : (.fieldLink R_De 24 "RlRounds$Deriver" "rounds" "[I" : Cond) ∈ rg_tbl := rg_in (List.mem_append_right _ (List.mem_of_getElem? (i := 54) (by decide +kernel))) (by decide +kernel)
theorem m_55 : (.fieldLink R_De 27 "RlRounds$Deriver" "nowRound" "I" : Cond) ∈ rg_tbl := rg_in (List.mem_append_right _ (List.mem_of_getElem? (i := 55) (by decide +kernel))) (by decide +kernel)
theorem m_56 : (.fieldLink R_De 31 "RlRounds$Deriver" "count" "I" : Cond) ∈ rg_tbl := rg_in (List.mem_append_right _ (List.mem_of_getElem? (i := 56) (by decide +kernel))) (by decide +kernel)
theorem m_58 : (.fieldLink R_De 34 "RlRounds$Deriver" "large" "Z" : Cond) ∈ rg_tbl := rg_in (List.mem_append_right _ (List.mem_of_getElem? (i := 58) (by decide +kernel))) (by decide +kernel)
theorem m_60 : (.fieldLink R_Ma 9 "RlRounds$Matcher" "held" "LRlRounds$Triples;" : Cond) ∈ rg_tbl := rg_in (List.mem_append_right _ (List.mem_of_getElem? (i := 60) (by decide +kernel))) (by decide +kernel)
theorem m_61 : (.fieldLink R_De 38 "RlRounds$Deriver" "held" "LRlRounds$Triples;" : Cond) ∈ rg_tbl := rg_in (List.mem_append_right _ (List.mem_of_getElem? (i := 61) (by decide +kernel))) (by decide +kernel)
theorem m_62 : (.sameField R_De "RlRounds$Matcher" "held" "LRlRounds$Triples;" : Cond) ∈ rg_tbl := rg_in (List.mem_append_right _ (List.mem_of_getElem? (i := 62) (by decide +kernel))) (by decide +kernel)
theorem m_63 : (.fieldLink R_Ma 15 "RlRounds$Matcher" "chosen" "[I" : Cond) ∈ rg_tbl := rg_in (List.mem_append_right _ (List.mem_of_getElem? (i := 63) (by decide +kernel))) (by decide +kernel)
theorem m_64 : (.fieldLink R_Se 58 "RlRounds$Seeker" "chosen" "[I" : Cond) ∈ rg_tbl := rg_in (List.mem_append_right _ (List.mem_of_getElem? (i := 64) (by decide +kernel))) (by decide +kernel)
theorem m_65 : (.sameField R_Se "RlRounds$Matcher" "chosen" "[I" : Cond) ∈ rg_tbl := rg_in (List.mem_append_right _ (List.mem_of_getElem? (i := 65) (by decide +kernel))) (by decide +kernel)
theorem m_83 : (.classLink R_Rl 41 "RlRounds$Seeker" : Cond) ∈ rg_tbl := rg_in (List.mem_append_right _ (List.mem_of_getElem? (i := 83) (by decide +kernel))) (by decide +kernel)
theorem m_84 : (.instantiable R_Se 5 : Cond) ∈ rg_tbl := rg_in (List.mem_append_right _ (List.mem_of_getElem? (i := 84) (by decide +kernel))) (by decide +kernel)
theorem m_85 : (.methodLink R_Rl 43 y_Se_init : Cond) ∈ rg_tbl := rg_in (List.mem_append_right _ (List.mem_of_getElem? (i := 85) (by decide +kernel))) (by decide +kernel)
theorem m_86 : (.instanceMethod y_Se_init : Cond) ∈ rg_tbl := rg_in (List.mem_append_right _ (List.mem_of_getElem? (i := 86) (by decide +kernel))) (by decide +kernel)
theorem m_87 : (.code y_Se_init b_Se_init 2 none : Cond) ∈ rg_tbl := rg_in (List.mem_append_right _ (List.mem_of_getElem? (i := 87) (by decide +kernel))) (by decide +kernel)
theorem m_88 : (.methodLink R_Se 3 y_Ma_init : Cond) ∈ rg_tbl := rg_in (List.mem_append_right _ (List.mem_of_getElem? (i := 88) (by decide +kernel))) (by decide +kernel)
theorem m_89 : (.fieldLink R_Se 9 "RlRounds$Seeker" "wanted" "I" : Cond) ∈ rg_tbl := rg_in (List.mem_append_right _ (List.mem_of_getElem? (i := 89) (by decide +kernel))) (by decide +kernel)
theorem m_90 : (.fieldLink R_Se 15 "RlRounds$Seeker" "met" "I" : Cond) ∈ rg_tbl := rg_in (List.mem_append_right _ (List.mem_of_getElem? (i := 90) (by decide +kernel))) (by decide +kernel)
theorem m_91 : (.fieldLink R_Se 18 "RlRounds$Seeker" "foundRow" "I" : Cond) ∈ rg_tbl := rg_in (List.mem_append_right _ (List.mem_of_getElem? (i := 91) (by decide +kernel))) (by decide +kernel)
theorem m_102 : (.fieldLink R_Rl 9 "RlRounds" "saidCodes" "[I" : Cond) ∈ rg_tbl := rg_in (List.mem_append_right _ (List.mem_of_getElem? (i := 102) (by decide +kernel))) (by decide +kernel)
theorem m_103 : (.fieldLink R_Rl 13 "RlRounds" "saidCount" "I" : Cond) ∈ rg_tbl := rg_in (List.mem_append_right _ (List.mem_of_getElem? (i := 103) (by decide +kernel))) (by decide +kernel)
theorem m_104 : (.fieldLink R_Rl 18 "RlRounds" "rulesOn" "I" : Cond) ∈ rg_tbl := rg_in (List.mem_append_right _ (List.mem_of_getElem? (i := 104) (by decide +kernel))) (by decide +kernel)
theorem m_105 : (.fieldLink R_Rl 21 "RlRounds" "derived" "Z" : Cond) ∈ rg_tbl := rg_in (List.mem_append_right _ (List.mem_of_getElem? (i := 105) (by decide +kernel))) (by decide +kernel)
theorem m_106 : (.fieldLink R_Rl 28 "RlRounds" "held" "LRlRounds$Triples;" : Cond) ∈ rg_tbl := rg_in (List.mem_append_right _ (List.mem_of_getElem? (i := 106) (by decide +kernel))) (by decide +kernel)
theorem m_107 : (.fieldLink R_Rl 37 "RlRounds" "deriver" "LRlRounds$Deriver;" : Cond) ∈ rg_tbl := rg_in (List.mem_append_right _ (List.mem_of_getElem? (i := 107) (by decide +kernel))) (by decide +kernel)
theorem m_108 : (.fieldLink R_Rl 44 "RlRounds" "seeker" "LRlRounds$Seeker;" : Cond) ∈ rg_tbl := rg_in (List.mem_append_right _ (List.mem_of_getElem? (i := 108) (by decide +kernel))) (by decide +kernel)
theorem m_124 : (.methodLink R_Lw 13 y_Rl_say : Cond) ∈ rg_tbl := rg_in (List.mem_append_right _ (List.mem_of_getElem? (i := 124) (by decide +kernel))) (by decide +kernel)
theorem m_125 : (.instanceMethod y_Rl_say : Cond) ∈ rg_tbl := rg_in (List.mem_append_right _ (List.mem_of_getElem? (i := 125) (by decide +kernel))) (by decide +kernel)
theorem m_126 : (.selects R_Rl y_Rl_say y_Rl_say : Cond) ∈ rg_tbl := rg_in (List.mem_append_right _ (List.mem_of_getElem? (i := 126) (by decide +kernel))) (by decide +kernel)
theorem m_127 : (.code y_Rl_say b_Rl_say 5 (some .int) : Cond) ∈ rg_tbl := rg_in (List.mem_append_right _ (List.mem_of_getElem? (i := 127) (by decide +kernel))) (by decide +kernel)
theorem m_128 : (.methodLink R_Rl 48 y_Rl_areTerms : Cond) ∈ rg_tbl := rg_in (List.mem_append_right _ (List.mem_of_getElem? (i := 128) (by decide +kernel))) (by decide +kernel)
theorem m_129 : (.static y_Rl_areTerms : Cond) ∈ rg_tbl := rg_in (List.mem_append_right _ (List.mem_of_getElem? (i := 129) (by decide +kernel))) (by decide +kernel)
theorem m_130 : (.code y_Rl_areTerms b_Rl_areTerms 3 (some .boolean) : Cond) ∈ rg_tbl := rg_in (List.mem_append_right _ (List.mem_of_getElem? (i := 130) (by decide +kernel))) (by decide +kernel)
theorem m_131 : (.methodLink R_Rl 101 y_Rl_isTerm : Cond) ∈ rg_tbl := rg_in (List.mem_append_right _ (List.mem_of_getElem? (i := 131) (by decide +kernel))) (by decide +kernel)
theorem m_132 : (.static y_Rl_isTerm : Cond) ∈ rg_tbl := rg_in (List.mem_append_right _ (List.mem_of_getElem? (i := 132) (by decide +kernel))) (by decide +kernel)
theorem m_133 : (.code y_Rl_isTerm b_Rl_isTerm 1 (some .boolean) : Cond) ∈ rg_tbl := rg_in (List.mem_append_right _ (List.mem_of_getElem? (i := 133) (by decide +kernel))) (by decide +kernel)
theorem m_134 : (.methodLink R_Rl 52 y_Rl_codeOf : Cond) ∈ rg_tbl := rg_in (List.mem_append_right _ (List.mem_of_getElem? (i := 134) (by decide +kernel))) (by decide +kernel)
theorem m_135 : (.static y_Rl_codeOf : Cond) ∈ rg_tbl := rg_in (List.mem_append_right _ (List.mem_of_getElem? (i := 135) (by decide +kernel))) (by decide +kernel)
theorem m_136 : (.code y_Rl_codeOf b_Rl_codeOf 3 (some .int) : Cond) ∈ rg_tbl := rg_in (List.mem_append_right _ (List.mem_of_getElem? (i := 136) (by decide +kernel))) (by decide +kernel)
theorem m_137 : (.methodLink R_Rl 56 y_Rl_placeOfSaid : Cond) ∈ rg_tbl := rg_in (List.mem_append_right _ (List.mem_of_getElem? (i := 137) (by decide +kernel))) (by decide +kernel)
theorem m_139 : (.instanceMethod y_Rl_placeOfSaid : Cond) ∈ rg_tbl := rg_in (List.mem_append_right _ (List.mem_of_getElem? (i := 139) (by decide +kernel))) (by decide +kernel)
theorem m_140 : (.code y_Rl_placeOfSaid b_Rl_placeOfSaid 3 (some .int) : Cond) ∈ rg_tbl := rg_in (List.mem_append_right _ (List.mem_of_getElem? (i := 140) (by decide +kernel))) (by decide +kernel)
theorem m_141 : (.methodLink R_Lw 18 y_Rl_unsay : Cond) ∈ rg_tbl := rg_in (List.mem_append_right _ (List.mem_of_getElem? (i := 141) (by decide +kernel))) (by decide +kernel)
theorem m_142 : (.instanceMethod y_Rl_unsay : Cond) ∈ rg_tbl := rg_in (List.mem_append_right _ (List.mem_of_getElem? (i := 142) (by decide +kernel))) (by decide +kernel)
theorem m_143 : (.selects R_Rl y_Rl_unsay y_Rl_unsay : Cond) ∈ rg_tbl := rg_in (List.mem_append_right _ (List.mem_of_getElem? (i := 143) (by decide +kernel))) (by decide +kernel)
theorem m_144 : (.code y_Rl_unsay b_Rl_unsay 5 (some .int) : Cond) ∈ rg_tbl := rg_in (List.mem_append_right _ (List.mem_of_getElem? (i := 144) (by decide +kernel))) (by decide +kernel)
theorem m_145 : (.methodLink R_Lw 22 y_Rl_rule : Cond) ∈ rg_tbl := rg_in (List.mem_append_right _ (List.mem_of_getElem? (i := 145) (by decide +kernel))) (by decide +kernel)
theorem m_146 : (.instanceMethod y_Rl_rule : Cond) ∈ rg_tbl := rg_in (List.mem_append_right _ (List.mem_of_getElem? (i := 146) (by decide +kernel))) (by decide +kernel)
theorem m_147 : (.selects R_Rl y_Rl_rule y_Rl_rule : Cond) ∈ rg_tbl := rg_in (List.mem_append_right _ (List.mem_of_getElem? (i := 147) (by decide +kernel))) (by decide +kernel)
theorem m_148 : (.code y_Rl_rule b_Rl_rule 3 (some .int) : Cond) ∈ rg_tbl := rg_in (List.mem_append_right _ (List.mem_of_getElem? (i := 148) (by decide +kernel))) (by decide +kernel)
theorem m_149 : (.methodLink R_Rl 60 y_Rl_contains : Cond) ∈ rg_tbl := rg_in (List.mem_append_right _ (List.mem_of_getElem? (i := 149) (by decide +kernel))) (by decide +kernel)
theorem m_150 : (.static y_Rl_contains : Cond) ∈ rg_tbl := rg_in (List.mem_append_right _ (List.mem_of_getElem? (i := 150) (by decide +kernel))) (by decide +kernel)
theorem m_151 : (.code y_Rl_contains b_Rl_contains 2 (some .boolean) : Cond) ∈ rg_tbl := rg_in (List.mem_append_right _ (List.mem_of_getElem? (i := 151) (by decide +kernel))) (by decide +kernel)
theorem m_152 : (.methodLink R_Lw 27 y_Rl_run : Cond) ∈ rg_tbl := rg_in (List.mem_append_right _ (List.mem_of_getElem? (i := 152) (by decide +kernel))) (by decide +kernel)
theorem m_153 : (.instanceMethod y_Rl_run : Cond) ∈ rg_tbl := rg_in (List.mem_append_right _ (List.mem_of_getElem? (i := 153) (by decide +kernel))) (by decide +kernel)
theorem m_154 : (.selects R_Rl y_Rl_run y_Rl_run : Cond) ∈ rg_tbl := rg_in (List.mem_append_right _ (List.mem_of_getElem? (i := 154) (by decide +kernel))) (by decide +kernel)
theorem m_155 : (.code y_Rl_run b_Rl_run 1 (some .int) : Cond) ∈ rg_tbl := rg_in (List.mem_append_right _ (List.mem_of_getElem? (i := 155) (by decide +kernel))) (by decide +kernel)
theorem m_156 : (.methodLink R_Rl 64 y_Rl_isTooLarge : Cond) ∈ rg_tbl := rg_in (List.mem_append_right _ (List.mem_of_getElem? (i := 156) (by decide +kernel))) (by decide +kernel)
theorem m_158 : (.instanceMethod y_Rl_isTooLarge : Cond) ∈ rg_tbl := rg_in (List.mem_append_right _ (List.mem_of_getElem? (i := 158) (by decide +kernel))) (by decide +kernel)
theorem m_159 : (.code y_Rl_isTooLarge b_Rl_isTooLarge 1 (some .boolean) : Cond) ∈ rg_tbl := rg_in (List.mem_append_right _ (List.mem_of_getElem? (i := 159) (by decide +kernel))) (by decide +kernel)
theorem m_160 : (.methodLink R_Rl 117 y_De_derive : Cond) ∈ rg_tbl := rg_in (List.mem_append_right _ (List.mem_of_getElem? (i := 160) (by decide +kernel))) (by decide +kernel)
theorem m_161 : (.instanceMethod y_De_derive : Cond) ∈ rg_tbl := rg_in (List.mem_append_right _ (List.mem_of_getElem? (i := 161) (by decide +kernel))) (by decide +kernel)
theorem m_162 : (.selects R_De y_De_derive y_De_derive : Cond) ∈ rg_tbl := rg_in (List.mem_append_right _ (List.mem_of_getElem? (i := 162) (by decide +kernel))) (by decide +kernel)
theorem m_163 : (.code y_De_derive b_De_derive 9 none : Cond) ∈ rg_tbl := rg_in (List.mem_append_right _ (List.mem_of_getElem? (i := 163) (by decide +kernel))) (by decide +kernel)
theorem m_164 : (.methodLink R_De 41 y_Tr_clear : Cond) ∈ rg_tbl := rg_in (List.mem_append_right _ (List.mem_of_getElem? (i := 164) (by decide +kernel))) (by decide +kernel)
theorem m_165 : (.instanceMethod y_Tr_clear : Cond) ∈ rg_tbl := rg_in (List.mem_append_right _ (List.mem_of_getElem? (i := 165) (by decide +kernel))) (by decide +kernel)
theorem m_166 : (.selects R_Tr y_Tr_clear y_Tr_clear : Cond) ∈ rg_tbl := rg_in (List.mem_append_right _ (List.mem_of_getElem? (i := 166) (by decide +kernel))) (by decide +kernel)
theorem m_167 : (.code y_Tr_clear b_Tr_clear 1 none : Cond) ∈ rg_tbl := rg_in (List.mem_append_right _ (List.mem_of_getElem? (i := 167) (by decide +kernel))) (by decide +kernel)
theorem m_168 : (.methodLink R_Tr 25 y_Ar_fill : Cond) ∈ rg_tbl := rg_in (List.mem_append_right _ (List.mem_of_getElem? (i := 168) (by decide +kernel))) (by decide +kernel)
theorem m_169 : (.static y_Ar_fill : Cond) ∈ rg_tbl := rg_in (List.mem_append_right _ (List.mem_of_getElem? (i := 169) (by decide +kernel))) (by decide +kernel)
theorem m_170 : (.code y_Ar_fill b_Ar_fill 4 none : Cond) ∈ rg_tbl := rg_in (List.mem_append_right _ (List.mem_of_getElem? (i := 170) (by decide +kernel))) (by decide +kernel)
theorem m_171 : (.methodLink R_De 44 y_De_add : Cond) ∈ rg_tbl := rg_in (List.mem_append_right _ (List.mem_of_getElem? (i := 171) (by decide +kernel))) (by decide +kernel)
theorem m_173 : (.instanceMethod y_De_add : Cond) ∈ rg_tbl := rg_in (List.mem_append_right _ (List.mem_of_getElem? (i := 173) (by decide +kernel))) (by decide +kernel)
theorem m_174 : (.code y_De_add b_De_add 2 none : Cond) ∈ rg_tbl := rg_in (List.mem_append_right _ (List.mem_of_getElem? (i := 174) (by decide +kernel))) (by decide +kernel)
theorem m_175 : (.methodLink R_De 95 y_Tr_has : Cond) ∈ rg_tbl := rg_in (List.mem_append_right _ (List.mem_of_getElem? (i := 175) (by decide +kernel))) (by decide +kernel)
theorem m_176 : (.instanceMethod y_Tr_has : Cond) ∈ rg_tbl := rg_in (List.mem_append_right _ (List.mem_of_getElem? (i := 176) (by decide +kernel))) (by decide +kernel)
theorem m_177 : (.selects R_Tr y_Tr_has y_Tr_has : Cond) ∈ rg_tbl := rg_in (List.mem_append_right _ (List.mem_of_getElem? (i := 177) (by decide +kernel))) (by decide +kernel)
theorem m_178 : (.code y_Tr_has b_Tr_has 2 (some .boolean) : Cond) ∈ rg_tbl := rg_in (List.mem_append_right _ (List.mem_of_getElem? (i := 178) (by decide +kernel))) (by decide +kernel)
theorem m_179 : (.constant R_Tr 31 32768 : Cond) ∈ rg_tbl := rg_in (List.mem_append_right _ (List.mem_of_getElem? (i := 179) (by decide +kernel))) (by decide +kernel)
theorem m_180 : (.methodLink R_De 48 y_Tr_put : Cond) ∈ rg_tbl := rg_in (List.mem_append_right _ (List.mem_of_getElem? (i := 180) (by decide +kernel))) (by decide +kernel)
theorem m_181 : (.instanceMethod y_Tr_put : Cond) ∈ rg_tbl := rg_in (List.mem_append_right _ (List.mem_of_getElem? (i := 181) (by decide +kernel))) (by decide +kernel)
theorem m_182 : (.selects R_Tr y_Tr_put y_Tr_put : Cond) ∈ rg_tbl := rg_in (List.mem_append_right _ (List.mem_of_getElem? (i := 182) (by decide +kernel))) (by decide +kernel)
theorem m_183 : (.code y_Tr_put b_Tr_put 4 none : Cond) ∈ rg_tbl := rg_in (List.mem_append_right _ (List.mem_of_getElem? (i := 183) (by decide +kernel))) (by decide +kernel)
theorem m_184 : (.methodLink R_De 51 y_De_rulesInReach : Cond) ∈ rg_tbl := rg_in (List.mem_append_right _ (List.mem_of_getElem? (i := 184) (by decide +kernel))) (by decide +kernel)
theorem m_186 : (.instanceMethod y_De_rulesInReach : Cond) ∈ rg_tbl := rg_in (List.mem_append_right _ (List.mem_of_getElem? (i := 186) (by decide +kernel))) (by decide +kernel)
theorem m_187 : (.code y_De_rulesInReach b_De_rulesInReach 4 (some .int) : Cond) ∈ rg_tbl := rg_in (List.mem_append_right _ (List.mem_of_getElem? (i := 187) (by decide +kernel))) (by decide +kernel)
theorem m_188 : (.fieldLink R_De 59 "RlRounds$Table" "PREMISES" "[I" : Cond) ∈ rg_tbl := rg_in (List.mem_append_right _ (List.mem_of_getElem? (i := 188) (by decide +kernel))) (by decide +kernel)
theorem m_190 : (.methodLink R_De 64 y_Tb_premiseAt : Cond) ∈ rg_tbl := rg_in (List.mem_append_right _ (List.mem_of_getElem? (i := 190) (by decide +kernel))) (by decide +kernel)
theorem m_191 : (.static y_Tb_premiseAt : Cond) ∈ rg_tbl := rg_in (List.mem_append_right _ (List.mem_of_getElem? (i := 191) (by decide +kernel))) (by decide +kernel)
theorem m_192 : (.code y_Tb_premiseAt b_Tb_premiseAt 2 (some .int) : Cond) ∈ rg_tbl := rg_in (List.mem_append_right _ (List.mem_of_getElem? (i := 192) (by decide +kernel))) (by decide +kernel)
theorem m_193 : (.methodLink R_De 68 y_Tr_subjectsFor : Cond) ∈ rg_tbl := rg_in (List.mem_append_right _ (List.mem_of_getElem? (i := 193) (by decide +kernel))) (by decide +kernel)
theorem m_194 : (.instanceMethod y_Tr_subjectsFor : Cond) ∈ rg_tbl := rg_in (List.mem_append_right _ (List.mem_of_getElem? (i := 194) (by decide +kernel))) (by decide +kernel)
theorem m_195 : (.selects R_Tr y_Tr_subjectsFor y_Tr_subjectsFor : Cond) ∈ rg_tbl := rg_in (List.mem_append_right _ (List.mem_of_getElem? (i := 195) (by decide +kernel))) (by decide +kernel)
theorem m_196 : (.code y_Tr_subjectsFor b_Tr_subjectsFor 3 (some .int) : Cond) ∈ rg_tbl := rg_in (List.mem_append_right _ (List.mem_of_getElem? (i := 196) (by decide +kernel))) (by decide +kernel)
theorem m_198 : (.methodLink R_De 55 y_De_applyRules : Cond) ∈ rg_tbl := rg_in (List.mem_append_right _ (List.mem_of_getElem? (i := 198) (by decide +kernel))) (by decide +kernel)
theorem m_200 : (.instanceMethod y_De_applyRules : Cond) ∈ rg_tbl := rg_in (List.mem_append_right _ (List.mem_of_getElem? (i := 200) (by decide +kernel))) (by decide +kernel)
theorem m_201 : (.code y_De_applyRules b_De_applyRules 9 none : Cond) ∈ rg_tbl := rg_in (List.mem_append_right _ (List.mem_of_getElem? (i := 201) (by decide +kernel))) (by decide +kernel)
theorem m_203 : (.methodLink R_De 75 y_Tb_premiseCount : Cond) ∈ rg_tbl := rg_in (List.mem_append_right _ (List.mem_of_getElem? (i := 203) (by decide +kernel))) (by decide +kernel)
theorem m_204 : (.static y_Tb_premiseCount : Cond) ∈ rg_tbl := rg_in (List.mem_append_right _ (List.mem_of_getElem? (i := 204) (by decide +kernel))) (by decide +kernel)
theorem m_205 : (.code y_Tb_premiseCount b_Tb_premiseCount 1 (some .int) : Cond) ∈ rg_tbl := rg_in (List.mem_append_right _ (List.mem_of_getElem? (i := 205) (by decide +kernel))) (by decide +kernel)
theorem m_206 : (.fieldLink R_Tb 11 "RlRounds$Table" "COUNTS" "[I" : Cond) ∈ rg_tbl := rg_in (List.mem_append_right _ (List.mem_of_getElem? (i := 206) (by decide +kernel))) (by decide +kernel)
theorem m_208 : (.methodLink R_De 81 y_Le_fit : Cond) ∈ rg_tbl := rg_in (List.mem_append_right _ (List.mem_of_getElem? (i := 208) (by decide +kernel))) (by decide +kernel)
theorem m_209 : (.static y_Le_fit : Cond) ∈ rg_tbl := rg_in (List.mem_append_right _ (List.mem_of_getElem? (i := 209) (by decide +kernel))) (by decide +kernel)
theorem m_210 : (.code y_Le_fit b_Le_fit 7 (some .long) : Cond) ∈ rg_tbl := rg_in (List.mem_append_right _ (List.mem_of_getElem? (i := 210) (by decide +kernel))) (by decide +kernel)
theorem m_211 : (.constantLong R_Le 17 (-1) : Cond) ∈ rg_tbl := rg_in (List.mem_append_right _ (List.mem_of_getElem? (i := 211) (by decide +kernel))) (by decide +kernel)
theorem m_212 : (.methodLink R_Le 19 y_Le_bind : Cond) ∈ rg_tbl := rg_in (List.mem_append_right _ (List.mem_of_getElem? (i := 212) (by decide +kernel))) (by decide +kernel)
theorem m_213 : (.static y_Le_bind : Cond) ∈ rg_tbl := rg_in (List.mem_append_right _ (List.mem_of_getElem? (i := 213) (by decide +kernel))) (by decide +kernel)
theorem m_214 : (.code y_Le_bind b_Le_bind 5 (some .long) : Cond) ∈ rg_tbl := rg_in (List.mem_append_right _ (List.mem_of_getElem? (i := 214) (by decide +kernel))) (by decide +kernel)
theorem m_215 : (.methodLink R_Le 13 y_Le_termOf : Cond) ∈ rg_tbl := rg_in (List.mem_append_right _ (List.mem_of_getElem? (i := 215) (by decide +kernel))) (by decide +kernel)
theorem m_216 : (.static y_Le_termOf : Cond) ∈ rg_tbl := rg_in (List.mem_append_right _ (List.mem_of_getElem? (i := 216) (by decide +kernel))) (by decide +kernel)
theorem m_217 : (.code y_Le_termOf b_Le_termOf 3 (some .int) : Cond) ∈ rg_tbl := rg_in (List.mem_append_right _ (List.mem_of_getElem? (i := 217) (by decide +kernel))) (by decide +kernel)
theorem m_218 : (.constantLong R_Le 11 63 : Cond) ∈ rg_tbl := rg_in (List.mem_append_right _ (List.mem_of_getElem? (i := 218) (by decide +kernel))) (by decide +kernel)
theorem m_219 : (.constantLong R_De 85 (-1) : Cond) ∈ rg_tbl := rg_in (List.mem_append_right _ (List.mem_of_getElem? (i := 219) (by decide +kernel))) (by decide +kernel)
theorem m_221 : (.static y_Ma_join : Cond) ∈ rg_tbl := rg_in (List.mem_append_right _ (List.mem_of_getElem? (i := 221) (by decide +kernel))) (by decide +kernel)
theorem m_222 : (.code y_Ma_join b_Ma_join 21 (some .boolean) : Cond) ∈ rg_tbl := rg_in (List.mem_append_right _ (List.mem_of_getElem? (i := 222) (by decide +kernel))) (by decide +kernel)
theorem m_223 : (.methodLink R_Ma 19 y_Tb_premiseCount : Cond) ∈ rg_tbl := rg_in (List.mem_append_right _ (List.mem_of_getElem? (i := 223) (by decide +kernel))) (by decide +kernel)
theorem m_224 : (.methodLink R_Ma 25 y_Ma_meet : Cond) ∈ rg_tbl := rg_in (List.mem_append_right _ (List.mem_of_getElem? (i := 224) (by decide +kernel))) (by decide +kernel)
theorem m_226 : (.sameMethod R_Ma "RlRounds$Matcher" "meet" "(IJ)Z" : Cond) ∈ rg_tbl := rg_in (List.mem_append_right _ (List.mem_of_getElem? (i := 226) (by decide +kernel))) (by decide +kernel)
theorem m_227 : (.selects R_De y_Ma_meet y_De_meet : Cond) ∈ rg_tbl := rg_in (List.mem_append_right _ (List.mem_of_getElem? (i := 227) (by decide +kernel))) (by decide +kernel)
theorem m_228 : (.instanceMethod y_De_meet : Cond) ∈ rg_tbl := rg_in (List.mem_append_right _ (List.mem_of_getElem? (i := 228) (by decide +kernel))) (by decide +kernel)
theorem m_229 : (.code y_De_meet b_De_meet 4 (some .boolean) : Cond) ∈ rg_tbl := rg_in (List.mem_append_right _ (List.mem_of_getElem? (i := 229) (by decide +kernel))) (by decide +kernel)
theorem m_230 : (.methodLink R_De 91 y_Tb_givenCode : Cond) ∈ rg_tbl := rg_in (List.mem_append_right _ (List.mem_of_getElem? (i := 230) (by decide +kernel))) (by decide +kernel)
theorem m_231 : (.static y_Tb_givenCode : Cond) ∈ rg_tbl := rg_in (List.mem_append_right _ (List.mem_of_getElem? (i := 231) (by decide +kernel))) (by decide +kernel)
theorem m_232 : (.code y_Tb_givenCode b_Tb_givenCode 4 (some .int) : Cond) ∈ rg_tbl := rg_in (List.mem_append_right _ (List.mem_of_getElem? (i := 232) (by decide +kernel))) (by decide +kernel)
theorem m_233 : (.methodLink R_Tb 15 y_Tb_givenAt : Cond) ∈ rg_tbl := rg_in (List.mem_append_right _ (List.mem_of_getElem? (i := 233) (by decide +kernel))) (by decide +kernel)
theorem m_234 : (.static y_Tb_givenAt : Cond) ∈ rg_tbl := rg_in (List.mem_append_right _ (List.mem_of_getElem? (i := 234) (by decide +kernel))) (by decide +kernel)
theorem m_235 : (.code y_Tb_givenAt b_Tb_givenAt 1 (some .int) : Cond) ∈ rg_tbl := rg_in (List.mem_append_right _ (List.mem_of_getElem? (i := 235) (by decide +kernel))) (by decide +kernel)
theorem m_236 : (.fieldLink R_Tb 19 "RlRounds$Table" "GIVEN" "[I" : Cond) ∈ rg_tbl := rg_in (List.mem_append_right _ (List.mem_of_getElem? (i := 236) (by decide +kernel))) (by decide +kernel)
theorem m_238 : (.methodLink R_Tb 22 y_Le_termOf : Cond) ∈ rg_tbl := rg_in (List.mem_append_right _ (List.mem_of_getElem? (i := 238) (by decide +kernel))) (by decide +kernel)
theorem m_240 : (.selects R_Se y_Ma_meet y_Se_meet : Cond) ∈ rg_tbl := rg_in (List.mem_append_right _ (List.mem_of_getElem? (i := 240) (by decide +kernel))) (by decide +kernel)
theorem m_241 : (.instanceMethod y_Se_meet : Cond) ∈ rg_tbl := rg_in (List.mem_append_right _ (List.mem_of_getElem? (i := 241) (by decide +kernel))) (by decide +kernel)
theorem m_242 : (.code y_Se_meet b_Se_meet 5 (some .boolean) : Cond) ∈ rg_tbl := rg_in (List.mem_append_right _ (List.mem_of_getElem? (i := 242) (by decide +kernel))) (by decide +kernel)
theorem m_243 : (.methodLink R_Ma 29 y_Ma_join : Cond) ∈ rg_tbl := rg_in (List.mem_append_right _ (List.mem_of_getElem? (i := 243) (by decide +kernel))) (by decide +kernel)
theorem m_244 : (.methodLink R_Ma 33 y_Tb_premiseAt : Cond) ∈ rg_tbl := rg_in (List.mem_append_right _ (List.mem_of_getElem? (i := 244) (by decide +kernel))) (by decide +kernel)
theorem m_245 : (.fieldLink R_Ma 37 "RlRounds$Table" "PREMISES" "[I" : Cond) ∈ rg_tbl := rg_in (List.mem_append_right _ (List.mem_of_getElem? (i := 245) (by decide +kernel))) (by decide +kernel)
theorem m_246 : (.methodLink R_Ma 40 y_Le_termOf : Cond) ∈ rg_tbl := rg_in (List.mem_append_right _ (List.mem_of_getElem? (i := 246) (by decide +kernel))) (by decide +kernel)
theorem m_247 : (.methodLink R_Ma 46 y_Tr_subjectsFor : Cond) ∈ rg_tbl := rg_in (List.mem_append_right _ (List.mem_of_getElem? (i := 247) (by decide +kernel))) (by decide +kernel)
theorem m_248 : (.methodLink R_Ma 51 y_Ig_bitCount : Cond) ∈ rg_tbl := rg_in (List.mem_append_right _ (List.mem_of_getElem? (i := 248) (by decide +kernel))) (by decide +kernel)
theorem m_249 : (.static y_Ig_bitCount : Cond) ∈ rg_tbl := rg_in (List.mem_append_right _ (List.mem_of_getElem? (i := 249) (by decide +kernel))) (by decide +kernel)
theorem m_250 : (.code y_Ig_bitCount b_Ig_bitCount 1 (some .int) : Cond) ∈ rg_tbl := rg_in (List.mem_append_right _ (List.mem_of_getElem? (i := 250) (by decide +kernel))) (by decide +kernel)
theorem m_251 : (.constant R_Ig 265 1431655765 : Cond) ∈ rg_tbl := rg_in (List.mem_append_right _ (List.mem_of_getElem? (i := 251) (by decide +kernel))) (by decide +kernel)
theorem m_252 : (.constant R_Ig 266 858993459 : Cond) ∈ rg_tbl := rg_in (List.mem_append_right _ (List.mem_of_getElem? (i := 252) (by decide +kernel))) (by decide +kernel)
theorem m_253 : (.constant R_Ig 267 252645135 : Cond) ∈ rg_tbl := rg_in (List.mem_append_right _ (List.mem_of_getElem? (i := 253) (by decide +kernel))) (by decide +kernel)
theorem m_255 : (.static y_Rl_leastOf : Cond) ∈ rg_tbl := rg_in (List.mem_append_right _ (List.mem_of_getElem? (i := 255) (by decide +kernel))) (by decide +kernel)
theorem m_256 : (.code y_Rl_leastOf b_Rl_leastOf 1 (some .int) : Cond) ∈ rg_tbl := rg_in (List.mem_append_right _ (List.mem_of_getElem? (i := 256) (by decide +kernel))) (by decide +kernel)
theorem m_257 : (.methodLink R_Rl 124 y_Ig_bitCount : Cond) ∈ rg_tbl := rg_in (List.mem_append_right _ (List.mem_of_getElem? (i := 257) (by decide +kernel))) (by decide +kernel)
theorem m_259 : (.static y_Rl_withoutLeast : Cond) ∈ rg_tbl := rg_in (List.mem_append_right _ (List.mem_of_getElem? (i := 259) (by decide +kernel))) (by decide +kernel)
theorem m_260 : (.code y_Rl_withoutLeast b_Rl_withoutLeast 1 (some .int) : Cond) ∈ rg_tbl := rg_in (List.mem_append_right _ (List.mem_of_getElem? (i := 260) (by decide +kernel))) (by decide +kernel)
theorem m_261 : (.methodLink R_Ma 62 y_Tr_predicatesFor : Cond) ∈ rg_tbl := rg_in (List.mem_append_right _ (List.mem_of_getElem? (i := 261) (by decide +kernel))) (by decide +kernel)
theorem m_262 : (.instanceMethod y_Tr_predicatesFor : Cond) ∈ rg_tbl := rg_in (List.mem_append_right _ (List.mem_of_getElem? (i := 262) (by decide +kernel))) (by decide +kernel)
theorem m_263 : (.selects R_Tr y_Tr_predicatesFor y_Tr_predicatesFor : Cond) ∈ rg_tbl := rg_in (List.mem_append_right _ (List.mem_of_getElem? (i := 263) (by decide +kernel))) (by decide +kernel)
theorem m_264 : (.code y_Tr_predicatesFor b_Tr_predicatesFor 3 (some .int) : Cond) ∈ rg_tbl := rg_in (List.mem_append_right _ (List.mem_of_getElem? (i := 264) (by decide +kernel))) (by decide +kernel)
theorem m_265 : (.methodLink R_Ma 65 y_Tr_objectsFor : Cond) ∈ rg_tbl := rg_in (List.mem_append_right _ (List.mem_of_getElem? (i := 265) (by decide +kernel))) (by decide +kernel)
theorem m_266 : (.instanceMethod y_Tr_objectsFor : Cond) ∈ rg_tbl := rg_in (List.mem_append_right _ (List.mem_of_getElem? (i := 266) (by decide +kernel))) (by decide +kernel)
theorem m_267 : (.selects R_Tr y_Tr_objectsFor y_Tr_objectsFor : Cond) ∈ rg_tbl := rg_in (List.mem_append_right _ (List.mem_of_getElem? (i := 267) (by decide +kernel))) (by decide +kernel)
theorem m_268 : (.code y_Tr_objectsFor b_Tr_objectsFor 5 (some .int) : Cond) ∈ rg_tbl := rg_in (List.mem_append_right _ (List.mem_of_getElem? (i := 268) (by decide +kernel))) (by decide +kernel)
theorem m_270 : (.methodLink R_Ma 72 y_Le_fit : Cond) ∈ rg_tbl := rg_in (List.mem_append_right _ (List.mem_of_getElem? (i := 270) (by decide +kernel))) (by decide +kernel)
theorem m_271 : (.constantLong R_Ma 76 (-1) : Cond) ∈ rg_tbl := rg_in (List.mem_append_right _ (List.mem_of_getElem? (i := 271) (by decide +kernel))) (by decide +kernel)
theorem m_272 : (.methodLink R_Rl 68 y_De_lastRound : Cond) ∈ rg_tbl := rg_in (List.mem_append_right _ (List.mem_of_getElem? (i := 272) (by decide +kernel))) (by decide +kernel)
theorem m_273 : (.instanceMethod y_De_lastRound : Cond) ∈ rg_tbl := rg_in (List.mem_append_right _ (List.mem_of_getElem? (i := 273) (by decide +kernel))) (by decide +kernel)
theorem m_274 : (.selects R_De y_De_lastRound y_De_lastRound : Cond) ∈ rg_tbl := rg_in (List.mem_append_right _ (List.mem_of_getElem? (i := 274) (by decide +kernel))) (by decide +kernel)
theorem m_275 : (.code y_De_lastRound b_De_lastRound 1 (some .int) : Cond) ∈ rg_tbl := rg_in (List.mem_append_right _ (List.mem_of_getElem? (i := 275) (by decide +kernel))) (by decide +kernel)
theorem m_276 : (.methodLink R_Lw 32 y_Rl_size : Cond) ∈ rg_tbl := rg_in (List.mem_append_right _ (List.mem_of_getElem? (i := 276) (by decide +kernel))) (by decide +kernel)
theorem m_277 : (.instanceMethod y_Rl_size : Cond) ∈ rg_tbl := rg_in (List.mem_append_right _ (List.mem_of_getElem? (i := 277) (by decide +kernel))) (by decide +kernel)
theorem m_278 : (.selects R_Rl y_Rl_size y_Rl_size : Cond) ∈ rg_tbl := rg_in (List.mem_append_right _ (List.mem_of_getElem? (i := 278) (by decide +kernel))) (by decide +kernel)
theorem m_279 : (.code y_Rl_size b_Rl_size 1 (some .int) : Cond) ∈ rg_tbl := rg_in (List.mem_append_right _ (List.mem_of_getElem? (i := 279) (by decide +kernel))) (by decide +kernel)
theorem m_280 : (.methodLink R_Lw 36 y_Rl_triple : Cond) ∈ rg_tbl := rg_in (List.mem_append_right _ (List.mem_of_getElem? (i := 280) (by decide +kernel))) (by decide +kernel)
theorem m_281 : (.instanceMethod y_Rl_triple : Cond) ∈ rg_tbl := rg_in (List.mem_append_right _ (List.mem_of_getElem? (i := 281) (by decide +kernel))) (by decide +kernel)
theorem m_282 : (.selects R_Rl y_Rl_triple y_Rl_triple : Cond) ∈ rg_tbl := rg_in (List.mem_append_right _ (List.mem_of_getElem? (i := 282) (by decide +kernel))) (by decide +kernel)
theorem m_283 : (.code y_Rl_triple b_Rl_triple 2 (some .int) : Cond) ∈ rg_tbl := rg_in (List.mem_append_right _ (List.mem_of_getElem? (i := 283) (by decide +kernel))) (by decide +kernel)
theorem m_284 : (.methodLink R_Rl 75 y_Tr_codeAt : Cond) ∈ rg_tbl := rg_in (List.mem_append_right _ (List.mem_of_getElem? (i := 284) (by decide +kernel))) (by decide +kernel)
theorem m_285 : (.instanceMethod y_Tr_codeAt : Cond) ∈ rg_tbl := rg_in (List.mem_append_right _ (List.mem_of_getElem? (i := 285) (by decide +kernel))) (by decide +kernel)
theorem m_286 : (.selects R_Tr y_Tr_codeAt y_Tr_codeAt : Cond) ∈ rg_tbl := rg_in (List.mem_append_right _ (List.mem_of_getElem? (i := 286) (by decide +kernel))) (by decide +kernel)
theorem m_287 : (.code y_Tr_codeAt b_Tr_codeAt 5 (some .int) : Cond) ∈ rg_tbl := rg_in (List.mem_append_right _ (List.mem_of_getElem? (i := 287) (by decide +kernel))) (by decide +kernel)
theorem m_288 : (.methodLink R_Tr 36 y_Ig_bitCount : Cond) ∈ rg_tbl := rg_in (List.mem_append_right _ (List.mem_of_getElem? (i := 288) (by decide +kernel))) (by decide +kernel)
theorem m_289 : (.methodLink R_Tr 42 y_Tr_elementAt : Cond) ∈ rg_tbl := rg_in (List.mem_append_right _ (List.mem_of_getElem? (i := 289) (by decide +kernel))) (by decide +kernel)
theorem m_290 : (.static y_Tr_elementAt : Cond) ∈ rg_tbl := rg_in (List.mem_append_right _ (List.mem_of_getElem? (i := 290) (by decide +kernel))) (by decide +kernel)
theorem m_291 : (.code y_Tr_elementAt b_Tr_elementAt 4 (some .int) : Cond) ∈ rg_tbl := rg_in (List.mem_append_right _ (List.mem_of_getElem? (i := 291) (by decide +kernel))) (by decide +kernel)
theorem m_294 : (.methodLink R_Lw 41 y_Rl_round : Cond) ∈ rg_tbl := rg_in (List.mem_append_right _ (List.mem_of_getElem? (i := 294) (by decide +kernel))) (by decide +kernel)
theorem m_295 : (.instanceMethod y_Rl_round : Cond) ∈ rg_tbl := rg_in (List.mem_append_right _ (List.mem_of_getElem? (i := 295) (by decide +kernel))) (by decide +kernel)
theorem m_296 : (.selects R_Rl y_Rl_round y_Rl_round : Cond) ∈ rg_tbl := rg_in (List.mem_append_right _ (List.mem_of_getElem? (i := 296) (by decide +kernel))) (by decide +kernel)
theorem m_297 : (.code y_Rl_round b_Rl_round 4 (some .int) : Cond) ∈ rg_tbl := rg_in (List.mem_append_right _ (List.mem_of_getElem? (i := 297) (by decide +kernel))) (by decide +kernel)
theorem m_298 : (.methodLink R_Rl 78 y_De_roundOf : Cond) ∈ rg_tbl := rg_in (List.mem_append_right _ (List.mem_of_getElem? (i := 298) (by decide +kernel))) (by decide +kernel)
theorem m_299 : (.instanceMethod y_De_roundOf : Cond) ∈ rg_tbl := rg_in (List.mem_append_right _ (List.mem_of_getElem? (i := 299) (by decide +kernel))) (by decide +kernel)
theorem m_300 : (.selects R_De y_De_roundOf y_De_roundOf : Cond) ∈ rg_tbl := rg_in (List.mem_append_right _ (List.mem_of_getElem? (i := 300) (by decide +kernel))) (by decide +kernel)
theorem m_301 : (.code y_De_roundOf b_De_roundOf 3 (some .int) : Cond) ∈ rg_tbl := rg_in (List.mem_append_right _ (List.mem_of_getElem? (i := 301) (by decide +kernel))) (by decide +kernel)
theorem m_302 : (.methodLink R_Lw 45 y_Rl_ways : Cond) ∈ rg_tbl := rg_in (List.mem_append_right _ (List.mem_of_getElem? (i := 302) (by decide +kernel))) (by decide +kernel)
theorem m_303 : (.instanceMethod y_Rl_ways : Cond) ∈ rg_tbl := rg_in (List.mem_append_right _ (List.mem_of_getElem? (i := 303) (by decide +kernel))) (by decide +kernel)
theorem m_304 : (.selects R_Rl y_Rl_ways y_Rl_ways : Cond) ∈ rg_tbl := rg_in (List.mem_append_right _ (List.mem_of_getElem? (i := 304) (by decide +kernel))) (by decide +kernel)
theorem m_305 : (.code y_Rl_ways b_Rl_ways 4 (some .int) : Cond) ∈ rg_tbl := rg_in (List.mem_append_right _ (List.mem_of_getElem? (i := 305) (by decide +kernel))) (by decide +kernel)
theorem m_306 : (.methodLink R_Rl 81 y_Se_countWays : Cond) ∈ rg_tbl := rg_in (List.mem_append_right _ (List.mem_of_getElem? (i := 306) (by decide +kernel))) (by decide +kernel)
theorem m_307 : (.instanceMethod y_Se_countWays : Cond) ∈ rg_tbl := rg_in (List.mem_append_right _ (List.mem_of_getElem? (i := 307) (by decide +kernel))) (by decide +kernel)
theorem m_308 : (.selects R_Se y_Se_countWays y_Se_countWays : Cond) ∈ rg_tbl := rg_in (List.mem_append_right _ (List.mem_of_getElem? (i := 308) (by decide +kernel))) (by decide +kernel)
theorem m_309 : (.code y_Se_countWays b_Se_countWays 3 (some .int) : Cond) ∈ rg_tbl := rg_in (List.mem_append_right _ (List.mem_of_getElem? (i := 309) (by decide +kernel))) (by decide +kernel)
theorem m_310 : (.methodLink R_Se 21 y_Se_seekWay : Cond) ∈ rg_tbl := rg_in (List.mem_append_right _ (List.mem_of_getElem? (i := 310) (by decide +kernel))) (by decide +kernel)
theorem m_311 : (.instanceMethod y_Se_seekWay : Cond) ∈ rg_tbl := rg_in (List.mem_append_right _ (List.mem_of_getElem? (i := 311) (by decide +kernel))) (by decide +kernel)
theorem m_312 : (.selects R_Se y_Se_seekWay y_Se_seekWay : Cond) ∈ rg_tbl := rg_in (List.mem_append_right _ (List.mem_of_getElem? (i := 312) (by decide +kernel))) (by decide +kernel)
theorem m_313 : (.code y_Se_seekWay b_Se_seekWay 7 (some .boolean) : Cond) ∈ rg_tbl := rg_in (List.mem_append_right _ (List.mem_of_getElem? (i := 313) (by decide +kernel))) (by decide +kernel)
theorem m_315 : (.fieldLink R_Se 29 "RlRounds$Table" "GIVEN" "[I" : Cond) ∈ rg_tbl := rg_in (List.mem_append_right _ (List.mem_of_getElem? (i := 315) (by decide +kernel))) (by decide +kernel)
theorem m_316 : (.methodLink R_Se 35 y_Tb_givenAt : Cond) ∈ rg_tbl := rg_in (List.mem_append_right _ (List.mem_of_getElem? (i := 316) (by decide +kernel))) (by decide +kernel)
theorem m_317 : (.methodLink R_Se 41 y_Le_fit : Cond) ∈ rg_tbl := rg_in (List.mem_append_right _ (List.mem_of_getElem? (i := 317) (by decide +kernel))) (by decide +kernel)
theorem m_318 : (.constantLong R_Se 45 (-1) : Cond) ∈ rg_tbl := rg_in (List.mem_append_right _ (List.mem_of_getElem? (i := 318) (by decide +kernel))) (by decide +kernel)
theorem m_320 : (.methodLink R_Lw 49 y_Rl_way : Cond) ∈ rg_tbl := rg_in (List.mem_append_right _ (List.mem_of_getElem? (i := 320) (by decide +kernel))) (by decide +kernel)
theorem m_321 : (.instanceMethod y_Rl_way : Cond) ∈ rg_tbl := rg_in (List.mem_append_right _ (List.mem_of_getElem? (i := 321) (by decide +kernel))) (by decide +kernel)
theorem m_322 : (.selects R_Rl y_Rl_way y_Rl_way : Cond) ∈ rg_tbl := rg_in (List.mem_append_right _ (List.mem_of_getElem? (i := 322) (by decide +kernel))) (by decide +kernel)
theorem m_323 : (.code y_Rl_way b_Rl_way 6 (some .int) : Cond) ∈ rg_tbl := rg_in (List.mem_append_right _ (List.mem_of_getElem? (i := 323) (by decide +kernel))) (by decide +kernel)
theorem m_324 : (.methodLink R_Rl 85 y_Se_seekWay : Cond) ∈ rg_tbl := rg_in (List.mem_append_right _ (List.mem_of_getElem? (i := 324) (by decide +kernel))) (by decide +kernel)
theorem m_325 : (.methodLink R_Rl 91 y_Se_foundPremise : Cond) ∈ rg_tbl := rg_in (List.mem_append_right _ (List.mem_of_getElem? (i := 325) (by decide +kernel))) (by decide +kernel)
theorem m_326 : (.instanceMethod y_Se_foundPremise : Cond) ∈ rg_tbl := rg_in (List.mem_append_right _ (List.mem_of_getElem? (i := 326) (by decide +kernel))) (by decide +kernel)
theorem m_327 : (.selects R_Se y_Se_foundPremise y_Se_foundPremise : Cond) ∈ rg_tbl := rg_in (List.mem_append_right _ (List.mem_of_getElem? (i := 327) (by decide +kernel))) (by decide +kernel)
theorem m_328 : (.code y_Se_foundPremise b_Se_foundPremise 2 (some .int) : Cond) ∈ rg_tbl := rg_in (List.mem_append_right _ (List.mem_of_getElem? (i := 328) (by decide +kernel))) (by decide +kernel)
theorem m_329 : (.methodLink R_Se 55 y_Tb_premiseCount : Cond) ∈ rg_tbl := rg_in (List.mem_append_right _ (List.mem_of_getElem? (i := 329) (by decide +kernel))) (by decide +kernel)
theorem m_330 : (.methodLink R_Lw 54 y_Rl_clashes : Cond) ∈ rg_tbl := rg_in (List.mem_append_right _ (List.mem_of_getElem? (i := 330) (by decide +kernel))) (by decide +kernel)
theorem m_331 : (.instanceMethod y_Rl_clashes : Cond) ∈ rg_tbl := rg_in (List.mem_append_right _ (List.mem_of_getElem? (i := 331) (by decide +kernel))) (by decide +kernel)
theorem m_332 : (.selects R_Rl y_Rl_clashes y_Rl_clashes : Cond) ∈ rg_tbl := rg_in (List.mem_append_right _ (List.mem_of_getElem? (i := 332) (by decide +kernel))) (by decide +kernel)
theorem m_333 : (.code y_Rl_clashes b_Rl_clashes 1 (some .int) : Cond) ∈ rg_tbl := rg_in (List.mem_append_right _ (List.mem_of_getElem? (i := 333) (by decide +kernel))) (by decide +kernel)
theorem m_334 : (.methodLink R_Rl 94 y_Se_countClashes : Cond) ∈ rg_tbl := rg_in (List.mem_append_right _ (List.mem_of_getElem? (i := 334) (by decide +kernel))) (by decide +kernel)
theorem m_335 : (.instanceMethod y_Se_countClashes : Cond) ∈ rg_tbl := rg_in (List.mem_append_right _ (List.mem_of_getElem? (i := 335) (by decide +kernel))) (by decide +kernel)
theorem m_336 : (.selects R_Se y_Se_countClashes y_Se_countClashes : Cond) ∈ rg_tbl := rg_in (List.mem_append_right _ (List.mem_of_getElem? (i := 336) (by decide +kernel))) (by decide +kernel)
theorem m_337 : (.code y_Se_countClashes b_Se_countClashes 1 (some .int) : Cond) ∈ rg_tbl := rg_in (List.mem_append_right _ (List.mem_of_getElem? (i := 337) (by decide +kernel))) (by decide +kernel)
theorem m_338 : (.methodLink R_Se 51 y_Se_seekClash : Cond) ∈ rg_tbl := rg_in (List.mem_append_right _ (List.mem_of_getElem? (i := 338) (by decide +kernel))) (by decide +kernel)
theorem m_339 : (.instanceMethod y_Se_seekClash : Cond) ∈ rg_tbl := rg_in (List.mem_append_right _ (List.mem_of_getElem? (i := 339) (by decide +kernel))) (by decide +kernel)
theorem m_340 : (.selects R_Se y_Se_seekClash y_Se_seekClash : Cond) ∈ rg_tbl := rg_in (List.mem_append_right _ (List.mem_of_getElem? (i := 340) (by decide +kernel))) (by decide +kernel)
theorem m_341 : (.code y_Se_seekClash b_Se_seekClash 3 (some .boolean) : Cond) ∈ rg_tbl := rg_in (List.mem_append_right _ (List.mem_of_getElem? (i := 341) (by decide +kernel))) (by decide +kernel)
theorem m_342 : (.methodLink R_Lw 58 y_Rl_clash : Cond) ∈ rg_tbl := rg_in (List.mem_append_right _ (List.mem_of_getElem? (i := 342) (by decide +kernel))) (by decide +kernel)
theorem m_343 : (.instanceMethod y_Rl_clash : Cond) ∈ rg_tbl := rg_in (List.mem_append_right _ (List.mem_of_getElem? (i := 343) (by decide +kernel))) (by decide +kernel)
theorem m_344 : (.selects R_Rl y_Rl_clash y_Rl_clash : Cond) ∈ rg_tbl := rg_in (List.mem_append_right _ (List.mem_of_getElem? (i := 344) (by decide +kernel))) (by decide +kernel)
theorem m_345 : (.code y_Rl_clash b_Rl_clash 3 (some .int) : Cond) ∈ rg_tbl := rg_in (List.mem_append_right _ (List.mem_of_getElem? (i := 345) (by decide +kernel))) (by decide +kernel)
theorem m_346 : (.methodLink R_Rl 97 y_Se_seekClash : Cond) ∈ rg_tbl := rg_in (List.mem_append_right _ (List.mem_of_getElem? (i := 346) (by decide +kernel))) (by decide +kernel)
theorem m_347 : (.methodLink R_Lw 63 y_Rl_group : Cond) ∈ rg_tbl := rg_in (List.mem_append_right _ (List.mem_of_getElem? (i := 347) (by decide +kernel))) (by decide +kernel)
theorem m_348 : (.instanceMethod y_Rl_group : Cond) ∈ rg_tbl := rg_in (List.mem_append_right _ (List.mem_of_getElem? (i := 348) (by decide +kernel))) (by decide +kernel)
theorem m_349 : (.selects R_Rl y_Rl_group y_Rl_group : Cond) ∈ rg_tbl := rg_in (List.mem_append_right _ (List.mem_of_getElem? (i := 349) (by decide +kernel))) (by decide +kernel)
theorem m_350 : (.code y_Rl_group b_Rl_group 3 (some .int) : Cond) ∈ rg_tbl := rg_in (List.mem_append_right _ (List.mem_of_getElem? (i := 350) (by decide +kernel))) (by decide +kernel)
theorem m_351 : (.methodLink R_Rl 106 y_Tr_objectsFor : Cond) ∈ rg_tbl := rg_in (List.mem_append_right _ (List.mem_of_getElem? (i := 351) (by decide +kernel))) (by decide +kernel)
theorem m_352 : (.methodLink R_Rl 109 y_Rl_leastOf : Cond) ∈ rg_tbl := rg_in (List.mem_append_right _ (List.mem_of_getElem? (i := 352) (by decide +kernel))) (by decide +kernel)
theorem m_353 : (.methodLink R_Rl 112 y_Mt_min : Cond) ∈ rg_tbl := rg_in (List.mem_append_right _ (List.mem_of_getElem? (i := 353) (by decide +kernel))) (by decide +kernel)
theorem m_354 : (.static y_Mt_min : Cond) ∈ rg_tbl := rg_in (List.mem_append_right _ (List.mem_of_getElem? (i := 354) (by decide +kernel))) (by decide +kernel)
theorem m_355 : (.code y_Mt_min b_Mt_min 2 (some .int) : Cond) ∈ rg_tbl := rg_in (List.mem_append_right _ (List.mem_of_getElem? (i := 355) (by decide +kernel))) (by decide +kernel)
theorem m_356 : (.methodLink R_Lw 67 y_Rl_said : Cond) ∈ rg_tbl := rg_in (List.mem_append_right _ (List.mem_of_getElem? (i := 356) (by decide +kernel))) (by decide +kernel)
theorem m_357 : (.instanceMethod y_Rl_said : Cond) ∈ rg_tbl := rg_in (List.mem_append_right _ (List.mem_of_getElem? (i := 357) (by decide +kernel))) (by decide +kernel)
theorem m_358 : (.selects R_Rl y_Rl_said y_Rl_said : Cond) ∈ rg_tbl := rg_in (List.mem_append_right _ (List.mem_of_getElem? (i := 358) (by decide +kernel))) (by decide +kernel)
theorem m_359 : (.code y_Rl_said b_Rl_said 1 (some .int) : Cond) ∈ rg_tbl := rg_in (List.mem_append_right _ (List.mem_of_getElem? (i := 359) (by decide +kernel))) (by decide +kernel)
theorem m_360 : (.classLink R_Lw 10 "RlRoundsModel" : Cond) ∈ rg_tbl := rg_in (List.mem_append_right _ (List.mem_of_getElem? (i := 360) (by decide +kernel))) (by decide +kernel)
theorem m_361 : (.instantiable R_Mo 15 : Cond) ∈ rg_tbl := rg_in (List.mem_append_right _ (List.mem_of_getElem? (i := 361) (by decide +kernel))) (by decide +kernel)
theorem m_362 : (.methodLink R_Lw 12 y_Mo_init : Cond) ∈ rg_tbl := rg_in (List.mem_append_right _ (List.mem_of_getElem? (i := 362) (by decide +kernel))) (by decide +kernel)
theorem m_363 : (.instanceMethod y_Mo_init : Cond) ∈ rg_tbl := rg_in (List.mem_append_right _ (List.mem_of_getElem? (i := 363) (by decide +kernel))) (by decide +kernel)
theorem m_364 : (.code y_Mo_init b_Mo_init 1 none : Cond) ∈ rg_tbl := rg_in (List.mem_append_right _ (List.mem_of_getElem? (i := 364) (by decide +kernel))) (by decide +kernel)
theorem m_365 : (.methodLink R_Mo 1 objectInit : Cond) ∈ rg_tbl := rg_in (List.mem_append_right _ (List.mem_of_getElem? (i := 365) (by decide +kernel))) (by decide +kernel)
theorem m_366 : (.constant R_Mo 7 32768 : Cond) ∈ rg_tbl := rg_in (List.mem_append_right _ (List.mem_of_getElem? (i := 366) (by decide +kernel))) (by decide +kernel)
theorem m_367 : (.fieldLink R_Mo 8 "RlRoundsModel" "said" "[Z" : Cond) ∈ rg_tbl := rg_in (List.mem_append_right _ (List.mem_of_getElem? (i := 367) (by decide +kernel))) (by decide +kernel)
theorem m_368 : (.fieldLink R_Mo 148 "RlRoundsModel" "saidCount" "I" : Cond) ∈ rg_tbl := rg_in (List.mem_append_right _ (List.mem_of_getElem? (i := 368) (by decide +kernel))) (by decide +kernel)
theorem m_369 : (.fieldLink R_Mo 14 "RlRoundsModel" "off" "[Z" : Cond) ∈ rg_tbl := rg_in (List.mem_append_right _ (List.mem_of_getElem? (i := 369) (by decide +kernel))) (by decide +kernel)
theorem m_370 : (.fieldLink R_Mo 36 "RlRoundsModel" "known" "Z" : Cond) ∈ rg_tbl := rg_in (List.mem_append_right _ (List.mem_of_getElem? (i := 370) (by decide +kernel))) (by decide +kernel)
theorem m_371 : (.fieldLink R_Mo 124 "RlRoundsModel" "large" "Z" : Cond) ∈ rg_tbl := rg_in (List.mem_append_right _ (List.mem_of_getElem? (i := 371) (by decide +kernel))) (by decide +kernel)
theorem m_372 : (.fieldLink R_Mo 127 "RlRoundsModel" "greatest" "I" : Cond) ∈ rg_tbl := rg_in (List.mem_append_right _ (List.mem_of_getElem? (i := 372) (by decide +kernel))) (by decide +kernel)
theorem m_373 : (.fieldLink R_Mo 17 "RlRoundsModel" "rounds" "[I" : Cond) ∈ rg_tbl := rg_in (List.mem_append_right _ (List.mem_of_getElem? (i := 373) (by decide +kernel))) (by decide +kernel)
theorem m_374 : (.fieldLink R_Mo 21 "RlRoundsModel" "comes" "[Z" : Cond) ∈ rg_tbl := rg_in (List.mem_append_right _ (List.mem_of_getElem? (i := 374) (by decide +kernel))) (by decide +kernel)
theorem m_375 : (.fieldLink R_Mo 24 "RlRoundsModel" "held" "[I" : Cond) ∈ rg_tbl := rg_in (List.mem_append_right _ (List.mem_of_getElem? (i := 375) (by decide +kernel))) (by decide +kernel)
theorem m_376 : (.fieldLink R_Mo 111 "RlRoundsModel" "many" "I" : Cond) ∈ rg_tbl := rg_in (List.mem_append_right _ (List.mem_of_getElem? (i := 376) (by decide +kernel))) (by decide +kernel)
theorem m_377 : (.fieldLink R_Mo 27 "RlRoundsModel" "at" "[I" : Cond) ∈ rg_tbl := rg_in (List.mem_append_right _ (List.mem_of_getElem? (i := 377) (by decide +kernel))) (by decide +kernel)
theorem m_378 : (.fieldLink R_Mo 30 "RlRoundsModel" "letters" "[I" : Cond) ∈ rg_tbl := rg_in (List.mem_append_right _ (List.mem_of_getElem? (i := 378) (by decide +kernel))) (by decide +kernel)
theorem m_379 : (.fieldLink R_Mo 33 "RlRoundsModel" "bound" "[I" : Cond) ∈ rg_tbl := rg_in (List.mem_append_right _ (List.mem_of_getElem? (i := 379) (by decide +kernel))) (by decide +kernel)
theorem m_380 : (.fieldLink R_Mo 98 "RlRoundsModel" "level" "I" : Cond) ∈ rg_tbl := rg_in (List.mem_append_right _ (List.mem_of_getElem? (i := 380) (by decide +kernel))) (by decide +kernel)
theorem m_381 : (.fieldLink R_Mo 94 "RlRoundsModel" "rule" "I" : Cond) ∈ rg_tbl := rg_in (List.mem_append_right _ (List.mem_of_getElem? (i := 381) (by decide +kernel))) (by decide +kernel)
theorem m_413 : (.arrayClass .boolean : Cond) ∈ rg_tbl := rg_in (List.mem_append_right _ (List.mem_of_getElem? (i := 413) (by decide +kernel))) (by decide +kernel)
theorem m_414 : (.methodLink R_Lw 17 y_Mo_say : Cond) ∈ rg_tbl := rg_in (List.mem_append_right _ (List.mem_of_getElem? (i := 414) (by decide +kernel))) (by decide +kernel)
theorem m_415 : (.instanceMethod y_Mo_say : Cond) ∈ rg_tbl := rg_in (List.mem_append_right _ (List.mem_of_getElem? (i := 415) (by decide +kernel))) (by decide +kernel)
theorem m_416 : (.selects R_Mo y_Mo_say y_Mo_say : Cond) ∈ rg_tbl := rg_in (List.mem_append_right _ (List.mem_of_getElem? (i := 416) (by decide +kernel))) (by decide +kernel)
theorem m_417 : (.code y_Mo_say b_Mo_say 5 (some .int) : Cond) ∈ rg_tbl := rg_in (List.mem_append_right _ (List.mem_of_getElem? (i := 417) (by decide +kernel))) (by decide +kernel)
theorem m_418 : (.methodLink R_Mo 145 y_Mo_isTriple : Cond) ∈ rg_tbl := rg_in (List.mem_append_right _ (List.mem_of_getElem? (i := 418) (by decide +kernel))) (by decide +kernel)
theorem m_419 : (.static y_Mo_isTriple : Cond) ∈ rg_tbl := rg_in (List.mem_append_right _ (List.mem_of_getElem? (i := 419) (by decide +kernel))) (by decide +kernel)
theorem m_420 : (.code y_Mo_isTriple b_Mo_isTriple 3 (some .boolean) : Cond) ∈ rg_tbl := rg_in (List.mem_append_right _ (List.mem_of_getElem? (i := 420) (by decide +kernel))) (by decide +kernel)
theorem m_421 : (.methodLink R_Mo 40 y_Mo_isTerm : Cond) ∈ rg_tbl := rg_in (List.mem_append_right _ (List.mem_of_getElem? (i := 421) (by decide +kernel))) (by decide +kernel)
theorem m_422 : (.static y_Mo_isTerm : Cond) ∈ rg_tbl := rg_in (List.mem_append_right _ (List.mem_of_getElem? (i := 422) (by decide +kernel))) (by decide +kernel)
theorem m_423 : (.code y_Mo_isTerm b_Mo_isTerm 1 (some .boolean) : Cond) ∈ rg_tbl := rg_in (List.mem_append_right _ (List.mem_of_getElem? (i := 423) (by decide +kernel))) (by decide +kernel)
theorem m_424 : (.methodLink R_Mo 120 y_Mo_codeOf : Cond) ∈ rg_tbl := rg_in (List.mem_append_right _ (List.mem_of_getElem? (i := 424) (by decide +kernel))) (by decide +kernel)
theorem m_425 : (.static y_Mo_codeOf : Cond) ∈ rg_tbl := rg_in (List.mem_append_right _ (List.mem_of_getElem? (i := 425) (by decide +kernel))) (by decide +kernel)
theorem m_426 : (.code y_Mo_codeOf b_Mo_codeOf 3 (some .int) : Cond) ∈ rg_tbl := rg_in (List.mem_append_right _ (List.mem_of_getElem? (i := 426) (by decide +kernel))) (by decide +kernel)
theorem m_427 : (.methodLink R_Lw 21 y_Mo_unsay : Cond) ∈ rg_tbl := rg_in (List.mem_append_right _ (List.mem_of_getElem? (i := 427) (by decide +kernel))) (by decide +kernel)
theorem m_428 : (.instanceMethod y_Mo_unsay : Cond) ∈ rg_tbl := rg_in (List.mem_append_right _ (List.mem_of_getElem? (i := 428) (by decide +kernel))) (by decide +kernel)
theorem m_429 : (.selects R_Mo y_Mo_unsay y_Mo_unsay : Cond) ∈ rg_tbl := rg_in (List.mem_append_right _ (List.mem_of_getElem? (i := 429) (by decide +kernel))) (by decide +kernel)
theorem m_430 : (.code y_Mo_unsay b_Mo_unsay 5 (some .int) : Cond) ∈ rg_tbl := rg_in (List.mem_append_right _ (List.mem_of_getElem? (i := 430) (by decide +kernel))) (by decide +kernel)
theorem m_431 : (.methodLink R_Lw 26 y_Mo_rule : Cond) ∈ rg_tbl := rg_in (List.mem_append_right _ (List.mem_of_getElem? (i := 431) (by decide +kernel))) (by decide +kernel)
theorem m_432 : (.instanceMethod y_Mo_rule : Cond) ∈ rg_tbl := rg_in (List.mem_append_right _ (List.mem_of_getElem? (i := 432) (by decide +kernel))) (by decide +kernel)
theorem m_433 : (.selects R_Mo y_Mo_rule y_Mo_rule : Cond) ∈ rg_tbl := rg_in (List.mem_append_right _ (List.mem_of_getElem? (i := 433) (by decide +kernel))) (by decide +kernel)
theorem m_434 : (.code y_Mo_rule b_Mo_rule 3 (some .int) : Cond) ∈ rg_tbl := rg_in (List.mem_append_right _ (List.mem_of_getElem? (i := 434) (by decide +kernel))) (by decide +kernel)
theorem m_435 : (.methodLink R_Lw 31 y_Mo_run : Cond) ∈ rg_tbl := rg_in (List.mem_append_right _ (List.mem_of_getElem? (i := 435) (by decide +kernel))) (by decide +kernel)
theorem m_436 : (.instanceMethod y_Mo_run : Cond) ∈ rg_tbl := rg_in (List.mem_append_right _ (List.mem_of_getElem? (i := 436) (by decide +kernel))) (by decide +kernel)
theorem m_437 : (.selects R_Mo y_Mo_run y_Mo_run : Cond) ∈ rg_tbl := rg_in (List.mem_append_right _ (List.mem_of_getElem? (i := 437) (by decide +kernel))) (by decide +kernel)
theorem m_438 : (.code y_Mo_run b_Mo_run 1 (some .int) : Cond) ∈ rg_tbl := rg_in (List.mem_append_right _ (List.mem_of_getElem? (i := 438) (by decide +kernel))) (by decide +kernel)
theorem m_439 : (.methodLink R_Mo 151 y_Mo_make : Cond) ∈ rg_tbl := rg_in (List.mem_append_right _ (List.mem_of_getElem? (i := 439) (by decide +kernel))) (by decide +kernel)
theorem m_441 : (.instanceMethod y_Mo_make : Cond) ∈ rg_tbl := rg_in (List.mem_append_right _ (List.mem_of_getElem? (i := 441) (by decide +kernel))) (by decide +kernel)
theorem m_442 : (.code y_Mo_make b_Mo_make 5 none : Cond) ∈ rg_tbl := rg_in (List.mem_append_right _ (List.mem_of_getElem? (i := 442) (by decide +kernel))) (by decide +kernel)
theorem m_443 : (.methodLink R_Mo 130 y_Mo_collect : Cond) ∈ rg_tbl := rg_in (List.mem_append_right _ (List.mem_of_getElem? (i := 443) (by decide +kernel))) (by decide +kernel)
theorem m_445 : (.instanceMethod y_Mo_collect : Cond) ∈ rg_tbl := rg_in (List.mem_append_right _ (List.mem_of_getElem? (i := 445) (by decide +kernel))) (by decide +kernel)
theorem m_446 : (.code y_Mo_collect b_Mo_collect 2 none : Cond) ∈ rg_tbl := rg_in (List.mem_append_right _ (List.mem_of_getElem? (i := 446) (by decide +kernel))) (by decide +kernel)
theorem m_447 : (.methodLink R_Mo 133 y_Mo_begin : Cond) ∈ rg_tbl := rg_in (List.mem_append_right _ (List.mem_of_getElem? (i := 447) (by decide +kernel))) (by decide +kernel)
theorem m_449 : (.instanceMethod y_Mo_begin : Cond) ∈ rg_tbl := rg_in (List.mem_append_right _ (List.mem_of_getElem? (i := 449) (by decide +kernel))) (by decide +kernel)
theorem m_450 : (.code y_Mo_begin b_Mo_begin 3 none : Cond) ∈ rg_tbl := rg_in (List.mem_append_right _ (List.mem_of_getElem? (i := 450) (by decide +kernel))) (by decide +kernel)
theorem m_451 : (.methodLink R_Mo 137 y_Mo_next : Cond) ∈ rg_tbl := rg_in (List.mem_append_right _ (List.mem_of_getElem? (i := 451) (by decide +kernel))) (by decide +kernel)
theorem m_453 : (.instanceMethod y_Mo_next : Cond) ∈ rg_tbl := rg_in (List.mem_append_right _ (List.mem_of_getElem? (i := 453) (by decide +kernel))) (by decide +kernel)
theorem m_454 : (.code y_Mo_next b_Mo_next 2 (some .boolean) : Cond) ∈ rg_tbl := rg_in (List.mem_append_right _ (List.mem_of_getElem? (i := 454) (by decide +kernel))) (by decide +kernel)
theorem m_455 : (.methodLink R_Mo 105 y_Mo_premises : Cond) ∈ rg_tbl := rg_in (List.mem_append_right _ (List.mem_of_getElem? (i := 455) (by decide +kernel))) (by decide +kernel)
theorem m_456 : (.static y_Mo_premises : Cond) ∈ rg_tbl := rg_in (List.mem_append_right _ (List.mem_of_getElem? (i := 456) (by decide +kernel))) (by decide +kernel)
theorem m_457 : (.code y_Mo_premises b_Mo_premises 3 (some .int) : Cond) ∈ rg_tbl := rg_in (List.mem_append_right _ (List.mem_of_getElem? (i := 457) (by decide +kernel))) (by decide +kernel)
theorem m_458 : (.methodLink R_Mo 91 y_Mo_pattern : Cond) ∈ rg_tbl := rg_in (List.mem_append_right _ (List.mem_of_getElem? (i := 458) (by decide +kernel))) (by decide +kernel)
theorem m_459 : (.static y_Mo_pattern : Cond) ∈ rg_tbl := rg_in (List.mem_append_right _ (List.mem_of_getElem? (i := 459) (by decide +kernel))) (by decide +kernel)
theorem m_460 : (.code y_Mo_pattern b_Mo_pattern 1 (some .int) : Cond) ∈ rg_tbl := rg_in (List.mem_append_right _ (List.mem_of_getElem? (i := 460) (by decide +kernel))) (by decide +kernel)
theorem m_461 : (.methodLink R_Mo 44 y_Mo_early : Cond) ∈ rg_tbl := rg_in (List.mem_append_right _ (List.mem_of_getElem? (i := 461) (by decide +kernel))) (by decide +kernel)
theorem m_462 : (.static y_Mo_early : Cond) ∈ rg_tbl := rg_in (List.mem_append_right _ (List.mem_of_getElem? (i := 462) (by decide +kernel))) (by decide +kernel)
theorem m_463 : (.code y_Mo_early b_Mo_early 1 (some .int) : Cond) ∈ rg_tbl := rg_in (List.mem_append_right _ (List.mem_of_getElem? (i := 463) (by decide +kernel))) (by decide +kernel)
theorem m_464 : (.constant R_Mo 51 131489 : Cond) ∈ rg_tbl := rg_in (List.mem_append_right _ (List.mem_of_getElem? (i := 464) (by decide +kernel))) (by decide +kernel)
theorem m_465 : (.constant R_Mo 52 135584 : Cond) ∈ rg_tbl := rg_in (List.mem_append_right _ (List.mem_of_getElem? (i := 465) (by decide +kernel))) (by decide +kernel)
theorem m_466 : (.constant R_Mo 53 135586 : Cond) ∈ rg_tbl := rg_in (List.mem_append_right _ (List.mem_of_getElem? (i := 466) (by decide +kernel))) (by decide +kernel)
theorem m_467 : (.constant R_Mo 54 131490 : Cond) ∈ rg_tbl := rg_in (List.mem_append_right _ (List.mem_of_getElem? (i := 467) (by decide +kernel))) (by decide +kernel)
theorem m_468 : (.constant R_Mo 55 133410 : Cond) ∈ rg_tbl := rg_in (List.mem_append_right _ (List.mem_of_getElem? (i := 468) (by decide +kernel))) (by decide +kernel)
theorem m_469 : (.constant R_Mo 56 137506 : Cond) ∈ rg_tbl := rg_in (List.mem_append_right _ (List.mem_of_getElem? (i := 469) (by decide +kernel))) (by decide +kernel)
theorem m_470 : (.constant R_Mo 57 141600 : Cond) ∈ rg_tbl := rg_in (List.mem_append_right _ (List.mem_of_getElem? (i := 470) (by decide +kernel))) (by decide +kernel)
theorem m_471 : (.constant R_Mo 58 141601 : Cond) ∈ rg_tbl := rg_in (List.mem_append_right _ (List.mem_of_getElem? (i := 471) (by decide +kernel))) (by decide +kernel)
theorem m_472 : (.constant R_Mo 59 147687 : Cond) ∈ rg_tbl := rg_in (List.mem_append_right _ (List.mem_of_getElem? (i := 472) (by decide +kernel))) (by decide +kernel)
theorem m_473 : (.constant R_Mo 60 133409 : Cond) ∈ rg_tbl := rg_in (List.mem_append_right _ (List.mem_of_getElem? (i := 473) (by decide +kernel))) (by decide +kernel)
theorem m_474 : (.constant R_Mo 61 131111 : Cond) ∈ rg_tbl := rg_in (List.mem_append_right _ (List.mem_of_getElem? (i := 474) (by decide +kernel))) (by decide +kernel)
theorem m_475 : (.constant R_Mo 62 147751 : Cond) ∈ rg_tbl := rg_in (List.mem_append_right _ (List.mem_of_getElem? (i := 475) (by decide +kernel))) (by decide +kernel)
theorem m_476 : (.constant R_Mo 63 135207 : Cond) ∈ rg_tbl := rg_in (List.mem_append_right _ (List.mem_of_getElem? (i := 476) (by decide +kernel))) (by decide +kernel)
theorem m_477 : (.constant R_Mo 64 147472 : Cond) ∈ rg_tbl := rg_in (List.mem_append_right _ (List.mem_of_getElem? (i := 477) (by decide +kernel))) (by decide +kernel)
theorem m_478 : (.constant R_Mo 65 137504 : Cond) ∈ rg_tbl := rg_in (List.mem_append_right _ (List.mem_of_getElem? (i := 478) (by decide +kernel))) (by decide +kernel)
theorem m_479 : (.constant R_Mo 66 147471 : Cond) ∈ rg_tbl := rg_in (List.mem_append_right _ (List.mem_of_getElem? (i := 479) (by decide +kernel))) (by decide +kernel)
theorem m_480 : (.constant R_Mo 67 147813 : Cond) ∈ rg_tbl := rg_in (List.mem_append_right _ (List.mem_of_getElem? (i := 480) (by decide +kernel))) (by decide +kernel)
theorem m_481 : (.constant R_Mo 68 137568 : Cond) ∈ rg_tbl := rg_in (List.mem_append_right _ (List.mem_of_getElem? (i := 481) (by decide +kernel))) (by decide +kernel)
theorem m_482 : (.constant R_Mo 69 133473 : Cond) ∈ rg_tbl := rg_in (List.mem_append_right _ (List.mem_of_getElem? (i := 482) (by decide +kernel))) (by decide +kernel)
theorem m_483 : (.constant R_Mo 70 147621 : Cond) ∈ rg_tbl := rg_in (List.mem_append_right _ (List.mem_of_getElem? (i := 483) (by decide +kernel))) (by decide +kernel)
theorem m_484 : (.constant R_Mo 71 151718 : Cond) ∈ rg_tbl := rg_in (List.mem_append_right _ (List.mem_of_getElem? (i := 484) (by decide +kernel))) (by decide +kernel)
theorem m_485 : (.constant R_Mo 72 147622 : Cond) ∈ rg_tbl := rg_in (List.mem_append_right _ (List.mem_of_getElem? (i := 485) (by decide +kernel))) (by decide +kernel)
theorem m_486 : (.methodLink R_Mo 48 y_Mo_later : Cond) ∈ rg_tbl := rg_in (List.mem_append_right _ (List.mem_of_getElem? (i := 486) (by decide +kernel))) (by decide +kernel)
theorem m_487 : (.static y_Mo_later : Cond) ∈ rg_tbl := rg_in (List.mem_append_right _ (List.mem_of_getElem? (i := 487) (by decide +kernel))) (by decide +kernel)
theorem m_488 : (.code y_Mo_later b_Mo_later 1 (some .int) : Cond) ∈ rg_tbl := rg_in (List.mem_append_right _ (List.mem_of_getElem? (i := 488) (by decide +kernel))) (by decide +kernel)
theorem m_489 : (.constant R_Mo 73 159848 : Cond) ∈ rg_tbl := rg_in (List.mem_append_right _ (List.mem_of_getElem? (i := 489) (by decide +kernel))) (by decide +kernel)
theorem m_490 : (.constant R_Mo 74 131112 : Cond) ∈ rg_tbl := rg_in (List.mem_append_right _ (List.mem_of_getElem? (i := 490) (by decide +kernel))) (by decide +kernel)
theorem m_491 : (.constant R_Mo 75 163945 : Cond) ∈ rg_tbl := rg_in (List.mem_append_right _ (List.mem_of_getElem? (i := 491) (by decide +kernel))) (by decide +kernel)
theorem m_492 : (.constant R_Mo 76 159849 : Cond) ∈ rg_tbl := rg_in (List.mem_append_right _ (List.mem_of_getElem? (i := 492) (by decide +kernel))) (by decide +kernel)
theorem m_493 : (.constant R_Mo 77 147473 : Cond) ∈ rg_tbl := rg_in (List.mem_append_right _ (List.mem_of_getElem? (i := 493) (by decide +kernel))) (by decide +kernel)
theorem m_494 : (.constant R_Mo 78 147474 : Cond) ∈ rg_tbl := rg_in (List.mem_append_right _ (List.mem_of_getElem? (i := 494) (by decide +kernel))) (by decide +kernel)
theorem m_495 : (.constant R_Mo 79 160424 : Cond) ∈ rg_tbl := rg_in (List.mem_append_right _ (List.mem_of_getElem? (i := 495) (by decide +kernel))) (by decide +kernel)
theorem m_496 : (.constant R_Mo 80 160356 : Cond) ∈ rg_tbl := rg_in (List.mem_append_right _ (List.mem_of_getElem? (i := 496) (by decide +kernel))) (by decide +kernel)
theorem m_497 : (.constant R_Mo 81 135208 : Cond) ∈ rg_tbl := rg_in (List.mem_append_right _ (List.mem_of_getElem? (i := 497) (by decide +kernel))) (by decide +kernel)
theorem m_498 : (.constant R_Mo 82 160488 : Cond) ∈ rg_tbl := rg_in (List.mem_append_right _ (List.mem_of_getElem? (i := 498) (by decide +kernel))) (by decide +kernel)
theorem m_499 : (.constant R_Mo 83 160547 : Cond) ∈ rg_tbl := rg_in (List.mem_append_right _ (List.mem_of_getElem? (i := 499) (by decide +kernel))) (by decide +kernel)
theorem m_500 : (.constant R_Mo 84 133411 : Cond) ∈ rg_tbl := rg_in (List.mem_append_right _ (List.mem_of_getElem? (i := 500) (by decide +kernel))) (by decide +kernel)
theorem m_501 : (.constant R_Mo 85 148325 : Cond) ∈ rg_tbl := rg_in (List.mem_append_right _ (List.mem_of_getElem? (i := 501) (by decide +kernel))) (by decide +kernel)
theorem m_502 : (.constant R_Mo 86 148390 : Cond) ∈ rg_tbl := rg_in (List.mem_append_right _ (List.mem_of_getElem? (i := 502) (by decide +kernel))) (by decide +kernel)
theorem m_503 : (.constant R_Mo 87 137634 : Cond) ∈ rg_tbl := rg_in (List.mem_append_right _ (List.mem_of_getElem? (i := 503) (by decide +kernel))) (by decide +kernel)
theorem m_504 : (.constant R_Mo 88 131553 : Cond) ∈ rg_tbl := rg_in (List.mem_append_right _ (List.mem_of_getElem? (i := 504) (by decide +kernel))) (by decide +kernel)
theorem m_505 : (.constant R_Mo 89 160296 : Cond) ∈ rg_tbl := rg_in (List.mem_append_right _ (List.mem_of_getElem? (i := 505) (by decide +kernel))) (by decide +kernel)
theorem m_506 : (.constant R_Mo 90 148709 : Cond) ∈ rg_tbl := rg_in (List.mem_append_right _ (List.mem_of_getElem? (i := 506) (by decide +kernel))) (by decide +kernel)
theorem m_507 : (.methodLink R_Mo 108 y_Mo_release : Cond) ∈ rg_tbl := rg_in (List.mem_append_right _ (List.mem_of_getElem? (i := 507) (by decide +kernel))) (by decide +kernel)
theorem m_509 : (.instanceMethod y_Mo_release : Cond) ∈ rg_tbl := rg_in (List.mem_append_right _ (List.mem_of_getElem? (i := 509) (by decide +kernel))) (by decide +kernel)
theorem m_510 : (.code y_Mo_release b_Mo_release 2 none : Cond) ∈ rg_tbl := rg_in (List.mem_append_right _ (List.mem_of_getElem? (i := 510) (by decide +kernel))) (by decide +kernel)
theorem m_511 : (.methodLink R_Mo 114 y_Mo_fits : Cond) ∈ rg_tbl := rg_in (List.mem_append_right _ (List.mem_of_getElem? (i := 511) (by decide +kernel))) (by decide +kernel)
theorem m_513 : (.instanceMethod y_Mo_fits : Cond) ∈ rg_tbl := rg_in (List.mem_append_right _ (List.mem_of_getElem? (i := 513) (by decide +kernel))) (by decide +kernel)
theorem m_514 : (.code y_Mo_fits b_Mo_fits 3 (some .boolean) : Cond) ∈ rg_tbl := rg_in (List.mem_append_right _ (List.mem_of_getElem? (i := 514) (by decide +kernel))) (by decide +kernel)
theorem m_515 : (.methodLink R_Mo 101 y_Mo_fitsItem : Cond) ∈ rg_tbl := rg_in (List.mem_append_right _ (List.mem_of_getElem? (i := 515) (by decide +kernel))) (by decide +kernel)
theorem m_517 : (.instanceMethod y_Mo_fitsItem : Cond) ∈ rg_tbl := rg_in (List.mem_append_right _ (List.mem_of_getElem? (i := 517) (by decide +kernel))) (by decide +kernel)
theorem m_518 : (.code y_Mo_fitsItem b_Mo_fitsItem 4 (some .boolean) : Cond) ∈ rg_tbl := rg_in (List.mem_append_right _ (List.mem_of_getElem? (i := 518) (by decide +kernel))) (by decide +kernel)
theorem m_519 : (.methodLink R_Mo 141 y_Mo_given : Cond) ∈ rg_tbl := rg_in (List.mem_append_right _ (List.mem_of_getElem? (i := 519) (by decide +kernel))) (by decide +kernel)
theorem m_521 : (.instanceMethod y_Mo_given : Cond) ∈ rg_tbl := rg_in (List.mem_append_right _ (List.mem_of_getElem? (i := 521) (by decide +kernel))) (by decide +kernel)
theorem m_522 : (.code y_Mo_given b_Mo_given 2 (some .int) : Cond) ∈ rg_tbl := rg_in (List.mem_append_right _ (List.mem_of_getElem? (i := 522) (by decide +kernel))) (by decide +kernel)
theorem m_523 : (.methodLink R_Mo 117 y_Mo_termOf : Cond) ∈ rg_tbl := rg_in (List.mem_append_right _ (List.mem_of_getElem? (i := 523) (by decide +kernel))) (by decide +kernel)
theorem m_525 : (.instanceMethod y_Mo_termOf : Cond) ∈ rg_tbl := rg_in (List.mem_append_right _ (List.mem_of_getElem? (i := 525) (by decide +kernel))) (by decide +kernel)
theorem m_526 : (.code y_Mo_termOf b_Mo_termOf 2 (some .int) : Cond) ∈ rg_tbl := rg_in (List.mem_append_right _ (List.mem_of_getElem? (i := 526) (by decide +kernel))) (by decide +kernel)
theorem m_527 : (.methodLink R_Lw 35 y_Mo_size : Cond) ∈ rg_tbl := rg_in (List.mem_append_right _ (List.mem_of_getElem? (i := 527) (by decide +kernel))) (by decide +kernel)
theorem m_528 : (.instanceMethod y_Mo_size : Cond) ∈ rg_tbl := rg_in (List.mem_append_right _ (List.mem_of_getElem? (i := 528) (by decide +kernel))) (by decide +kernel)
theorem m_529 : (.selects R_Mo y_Mo_size y_Mo_size : Cond) ∈ rg_tbl := rg_in (List.mem_append_right _ (List.mem_of_getElem? (i := 529) (by decide +kernel))) (by decide +kernel)
theorem m_530 : (.code y_Mo_size b_Mo_size 1 (some .int) : Cond) ∈ rg_tbl := rg_in (List.mem_append_right _ (List.mem_of_getElem? (i := 530) (by decide +kernel))) (by decide +kernel)
theorem m_531 : (.methodLink R_Lw 40 y_Mo_triple : Cond) ∈ rg_tbl := rg_in (List.mem_append_right _ (List.mem_of_getElem? (i := 531) (by decide +kernel))) (by decide +kernel)
theorem m_532 : (.instanceMethod y_Mo_triple : Cond) ∈ rg_tbl := rg_in (List.mem_append_right _ (List.mem_of_getElem? (i := 532) (by decide +kernel))) (by decide +kernel)
theorem m_533 : (.selects R_Mo y_Mo_triple y_Mo_triple : Cond) ∈ rg_tbl := rg_in (List.mem_append_right _ (List.mem_of_getElem? (i := 533) (by decide +kernel))) (by decide +kernel)
theorem m_534 : (.code y_Mo_triple b_Mo_triple 2 (some .int) : Cond) ∈ rg_tbl := rg_in (List.mem_append_right _ (List.mem_of_getElem? (i := 534) (by decide +kernel))) (by decide +kernel)
theorem m_535 : (.methodLink R_Lw 44 y_Mo_round : Cond) ∈ rg_tbl := rg_in (List.mem_append_right _ (List.mem_of_getElem? (i := 535) (by decide +kernel))) (by decide +kernel)
theorem m_536 : (.instanceMethod y_Mo_round : Cond) ∈ rg_tbl := rg_in (List.mem_append_right _ (List.mem_of_getElem? (i := 536) (by decide +kernel))) (by decide +kernel)
theorem m_537 : (.selects R_Mo y_Mo_round y_Mo_round : Cond) ∈ rg_tbl := rg_in (List.mem_append_right _ (List.mem_of_getElem? (i := 537) (by decide +kernel))) (by decide +kernel)
theorem m_538 : (.code y_Mo_round b_Mo_round 5 (some .int) : Cond) ∈ rg_tbl := rg_in (List.mem_append_right _ (List.mem_of_getElem? (i := 538) (by decide +kernel))) (by decide +kernel)
theorem m_539 : (.methodLink R_Lw 48 y_Mo_ways : Cond) ∈ rg_tbl := rg_in (List.mem_append_right _ (List.mem_of_getElem? (i := 539) (by decide +kernel))) (by decide +kernel)
theorem m_540 : (.instanceMethod y_Mo_ways : Cond) ∈ rg_tbl := rg_in (List.mem_append_right _ (List.mem_of_getElem? (i := 540) (by decide +kernel))) (by decide +kernel)
theorem m_541 : (.selects R_Mo y_Mo_ways y_Mo_ways : Cond) ∈ rg_tbl := rg_in (List.mem_append_right _ (List.mem_of_getElem? (i := 541) (by decide +kernel))) (by decide +kernel)
theorem m_542 : (.code y_Mo_ways b_Mo_ways 7 (some .int) : Cond) ∈ rg_tbl := rg_in (List.mem_append_right _ (List.mem_of_getElem? (i := 542) (by decide +kernel))) (by decide +kernel)
theorem m_543 : (.methodLink R_Lw 53 y_Mo_way : Cond) ∈ rg_tbl := rg_in (List.mem_append_right _ (List.mem_of_getElem? (i := 543) (by decide +kernel))) (by decide +kernel)
theorem m_544 : (.instanceMethod y_Mo_way : Cond) ∈ rg_tbl := rg_in (List.mem_append_right _ (List.mem_of_getElem? (i := 544) (by decide +kernel))) (by decide +kernel)
theorem m_545 : (.selects R_Mo y_Mo_way y_Mo_way : Cond) ∈ rg_tbl := rg_in (List.mem_append_right _ (List.mem_of_getElem? (i := 545) (by decide +kernel))) (by decide +kernel)
theorem m_546 : (.code y_Mo_way b_Mo_way 9 (some .int) : Cond) ∈ rg_tbl := rg_in (List.mem_append_right _ (List.mem_of_getElem? (i := 546) (by decide +kernel))) (by decide +kernel)
theorem m_547 : (.methodLink R_Mo 154 y_Mo_premise : Cond) ∈ rg_tbl := rg_in (List.mem_append_right _ (List.mem_of_getElem? (i := 547) (by decide +kernel))) (by decide +kernel)
theorem m_549 : (.instanceMethod y_Mo_premise : Cond) ∈ rg_tbl := rg_in (List.mem_append_right _ (List.mem_of_getElem? (i := 549) (by decide +kernel))) (by decide +kernel)
theorem m_550 : (.code y_Mo_premise b_Mo_premise 2 (some .int) : Cond) ∈ rg_tbl := rg_in (List.mem_append_right _ (List.mem_of_getElem? (i := 550) (by decide +kernel))) (by decide +kernel)
theorem m_551 : (.methodLink R_Lw 57 y_Mo_clashes : Cond) ∈ rg_tbl := rg_in (List.mem_append_right _ (List.mem_of_getElem? (i := 551) (by decide +kernel))) (by decide +kernel)
theorem m_552 : (.instanceMethod y_Mo_clashes : Cond) ∈ rg_tbl := rg_in (List.mem_append_right _ (List.mem_of_getElem? (i := 552) (by decide +kernel))) (by decide +kernel)
theorem m_553 : (.selects R_Mo y_Mo_clashes y_Mo_clashes : Cond) ∈ rg_tbl := rg_in (List.mem_append_right _ (List.mem_of_getElem? (i := 553) (by decide +kernel))) (by decide +kernel)
theorem m_554 : (.code y_Mo_clashes b_Mo_clashes 3 (some .int) : Cond) ∈ rg_tbl := rg_in (List.mem_append_right _ (List.mem_of_getElem? (i := 554) (by decide +kernel))) (by decide +kernel)
theorem m_555 : (.methodLink R_Lw 62 y_Mo_clash : Cond) ∈ rg_tbl := rg_in (List.mem_append_right _ (List.mem_of_getElem? (i := 555) (by decide +kernel))) (by decide +kernel)
theorem m_556 : (.instanceMethod y_Mo_clash : Cond) ∈ rg_tbl := rg_in (List.mem_append_right _ (List.mem_of_getElem? (i := 556) (by decide +kernel))) (by decide +kernel)
theorem m_557 : (.selects R_Mo y_Mo_clash y_Mo_clash : Cond) ∈ rg_tbl := rg_in (List.mem_append_right _ (List.mem_of_getElem? (i := 557) (by decide +kernel))) (by decide +kernel)
theorem m_558 : (.code y_Mo_clash b_Mo_clash 5 (some .int) : Cond) ∈ rg_tbl := rg_in (List.mem_append_right _ (List.mem_of_getElem? (i := 558) (by decide +kernel))) (by decide +kernel)
theorem m_559 : (.methodLink R_Lw 66 y_Mo_group : Cond) ∈ rg_tbl := rg_in (List.mem_append_right _ (List.mem_of_getElem? (i := 559) (by decide +kernel))) (by decide +kernel)
theorem m_560 : (.instanceMethod y_Mo_group : Cond) ∈ rg_tbl := rg_in (List.mem_append_right _ (List.mem_of_getElem? (i := 560) (by decide +kernel))) (by decide +kernel)
theorem m_561 : (.selects R_Mo y_Mo_group y_Mo_group : Cond) ∈ rg_tbl := rg_in (List.mem_append_right _ (List.mem_of_getElem? (i := 561) (by decide +kernel))) (by decide +kernel)
theorem m_562 : (.code y_Mo_group b_Mo_group 4 (some .int) : Cond) ∈ rg_tbl := rg_in (List.mem_append_right _ (List.mem_of_getElem? (i := 562) (by decide +kernel))) (by decide +kernel)
theorem m_563 : (.methodLink R_Lw 70 y_Mo_said : Cond) ∈ rg_tbl := rg_in (List.mem_append_right _ (List.mem_of_getElem? (i := 563) (by decide +kernel))) (by decide +kernel)
theorem m_564 : (.instanceMethod y_Mo_said : Cond) ∈ rg_tbl := rg_in (List.mem_append_right _ (List.mem_of_getElem? (i := 564) (by decide +kernel))) (by decide +kernel)
theorem m_565 : (.selects R_Mo y_Mo_said y_Mo_said : Cond) ∈ rg_tbl := rg_in (List.mem_append_right _ (List.mem_of_getElem? (i := 565) (by decide +kernel))) (by decide +kernel)
theorem m_566 : (.code y_Mo_said b_Mo_said 1 (some .int) : Cond) ∈ rg_tbl := rg_in (List.mem_append_right _ (List.mem_of_getElem? (i := 566) (by decide +kernel))) (by decide +kernel)
theorem s_0 : (.selects R_Rl y_Rl_placeOfSaid y_Rl_placeOfSaid : Cond) ∈ rg_tbl := rg_in (List.mem_append_left _ (List.mem_of_getElem? (i := 0) (by decide +kernel))) (by decide +kernel)
theorem s_1 : (.selects R_Rl y_Rl_isTooLarge y_Rl_isTooLarge : Cond) ∈ rg_tbl := rg_in (List.mem_append_left _ (List.mem_of_getElem? (i := 1) (by decide +kernel))) (by decide +kernel)
theorem s_2 : (.selects R_De y_De_add y_De_add : Cond) ∈ rg_tbl := rg_in (List.mem_append_left _ (List.mem_of_getElem? (i := 2) (by decide +kernel))) (by decide +kernel)
theorem s_3 : (.selects R_De y_De_rulesInReach y_De_rulesInReach : Cond) ∈ rg_tbl := rg_in (List.mem_append_left _ (List.mem_of_getElem? (i := 3) (by decide +kernel))) (by decide +kernel)
theorem s_4 : (.selects R_De y_De_applyRules y_De_applyRules : Cond) ∈ rg_tbl := rg_in (List.mem_append_left _ (List.mem_of_getElem? (i := 4) (by decide +kernel))) (by decide +kernel)
theorem s_5 : (.selects R_Mo y_Mo_make y_Mo_make : Cond) ∈ rg_tbl := rg_in (List.mem_append_left _ (List.mem_of_getElem? (i := 5) (by decide +kernel))) (by decide +kernel)
theorem s_6 : (.selects R_Mo y_Mo_collect y_Mo_collect : Cond) ∈ rg_tbl := rg_in (List.mem_append_left _ (List.mem_of_getElem? (i := 6) (by decide +kernel))) (by decide +kernel)
theorem s_7 : (.selects R_Mo y_Mo_begin y_Mo_begin : Cond) ∈ rg_tbl := rg_in (List.mem_append_left _ (List.mem_of_getElem? (i := 7) (by decide +kernel))) (by decide +kernel)
theorem s_8 : (.selects R_Mo y_Mo_next y_Mo_next : Cond) ∈ rg_tbl := rg_in (List.mem_append_left _ (List.mem_of_getElem? (i := 8) (by decide +kernel))) (by decide +kernel)
theorem s_9 : (.selects R_Mo y_Mo_release y_Mo_release : Cond) ∈ rg_tbl := rg_in (List.mem_append_left _ (List.mem_of_getElem? (i := 9) (by decide +kernel))) (by decide +kernel)
theorem s_10 : (.selects R_Mo y_Mo_fits y_Mo_fits : Cond) ∈ rg_tbl := rg_in (List.mem_append_left _ (List.mem_of_getElem? (i := 10) (by decide +kernel))) (by decide +kernel)
theorem s_11 : (.selects R_Mo y_Mo_fitsItem y_Mo_fitsItem : Cond) ∈ rg_tbl := rg_in (List.mem_append_left _ (List.mem_of_getElem? (i := 11) (by decide +kernel))) (by decide +kernel)
theorem s_12 : (.selects R_Mo y_Mo_given y_Mo_given : Cond) ∈ rg_tbl := rg_in (List.mem_append_left _ (List.mem_of_getElem? (i := 12) (by decide +kernel))) (by decide +kernel)
theorem s_13 : (.selects R_Mo y_Mo_termOf y_Mo_termOf : Cond) ∈ rg_tbl := rg_in (List.mem_append_left _ (List.mem_of_getElem? (i := 13) (by decide +kernel))) (by decide +kernel)
theorem s_14 : (.selects R_Mo y_Mo_premise y_Mo_premise : Cond) ∈ rg_tbl := rg_in (List.mem_append_left _ (List.mem_of_getElem? (i := 14) (by decide +kernel))) (by decide +kernel)
def rn_all : List Cond := [.fieldLinkNest R_Rl 72 "RlRounds$Deriver" "count" "I" "RlRounds", .fieldLinkNest R_Rl 121 "RlRounds$Deriver" "large" "Z" "RlRounds", .fieldLinkNest R_Rl 88 "RlRounds$Seeker" "foundRow" "I" "RlRounds", .methodLinkNest R_Tr 32 y_Rl_isTerm "RlRounds", .methodLinkNest R_De 71 y_Rl_contains "RlRounds", .methodLinkNest R_De 87 y_Ma_join "RlRounds", .declares y_Ma_meet, .methodLinkNest R_Tb 28 y_Rl_codeOf "RlRounds", .methodLinkNest R_Ma 56 y_Rl_leastOf "RlRounds", .methodLinkNest R_Ma 59 y_Rl_withoutLeast "RlRounds", .methodLinkNest R_Ma 69 y_Rl_codeOf "RlRounds", .methodLinkNest R_Tr 46 y_Rl_withoutLeast "RlRounds", .methodLinkNest R_Tr 49 y_Rl_leastOf "RlRounds", .methodLinkNest R_Se 25 y_Rl_contains "RlRounds", .methodLinkNest R_Se 47 y_Ma_join "RlRounds"]
/-- what the tables say of members across the nest -/
def rn_ (U : State) : Prop := ∀ w ∈ rn_all, va_Nw w U
theorem rn_0 : (.fieldLinkNest R_Rl 72 "RlRounds$Deriver" "count" "I" "RlRounds" : Cond) ∈ rn_all := List.mem_of_getElem? (i := 0) rfl
theorem rn_1 : (.fieldLinkNest R_Rl 121 "RlRounds$Deriver" "large" "Z" "RlRounds" : Cond) ∈ rn_all := List.mem_of_getElem? (i := 1) rfl
theorem rn_2 : (.fieldLinkNest R_Rl 88 "RlRounds$Seeker" "foundRow" "I" "RlRounds" : Cond) ∈ rn_all := List.mem_of_getElem? (i := 2) rfl
theorem rn_3 : (.methodLinkNest R_Tr 32 y_Rl_isTerm "RlRounds" : Cond) ∈ rn_all := List.mem_of_getElem? (i := 3) rfl
theorem rn_4 : (.methodLinkNest R_De 71 y_Rl_contains "RlRounds" : Cond) ∈ rn_all := List.mem_of_getElem? (i := 4) rfl
theorem rn_5 : (.methodLinkNest R_De 87 y_Ma_join "RlRounds" : Cond) ∈ rn_all := List.mem_of_getElem? (i := 5) rfl
theorem rn_6 : (.declares y_Ma_meet : Cond) ∈ rn_all := List.mem_of_getElem? (i := 6) rfl
theorem rn_7 : (.methodLinkNest R_Tb 28 y_Rl_codeOf "RlRounds" : Cond) ∈ rn_all := List.mem_of_getElem? (i := 7) rfl
theorem rn_8 : (.methodLinkNest R_Ma 56 y_Rl_leastOf "RlRounds" : Cond) ∈ rn_all := List.mem_of_getElem? (i := 8) rfl
theorem rn_9 : (.methodLinkNest R_Ma 59 y_Rl_withoutLeast "RlRounds" : Cond) ∈ rn_all := List.mem_of_getElem? (i := 9) rfl
theorem rn_10 : (.methodLinkNest R_Ma 69 y_Rl_codeOf "RlRounds" : Cond) ∈ rn_all := List.mem_of_getElem? (i := 10) rfl
theorem rn_11 : (.methodLinkNest R_Tr 46 y_Rl_withoutLeast "RlRounds" : Cond) ∈ rn_all := List.mem_of_getElem? (i := 11) rfl
theorem rn_12 : (.methodLinkNest R_Tr 49 y_Rl_leastOf "RlRounds" : Cond) ∈ rn_all := List.mem_of_getElem? (i := 12) rfl
theorem rn_13 : (.methodLinkNest R_Se 25 y_Rl_contains "RlRounds" : Cond) ∈ rn_all := List.mem_of_getElem? (i := 13) rfl
theorem rn_14 : (.methodLinkNest R_Se 47 y_Ma_join "RlRounds" : Cond) ∈ rn_all := List.mem_of_getElem? (i := 14) rfl
theorem rn_tbl : ∀ w ∈ rn_all, w.onTables = true := by decide +kernel
theorem rn_same {u U : State} (h : u.vm = U.vm) (hN : rn_ u) : rn_ U := fun w hw => va_Nw.same (rn_tbl w hw) h (hN w hw)
theorem rn_warm {s U : State} (hW : s.WarmedH U.vm) (hN : rn_ s) : rn_ U := by
  unfold rn_ rn_all
  exact List.forall_mem_cons.mpr ⟨va_Nw.warmF hW (hN _ rn_0), List.forall_mem_cons.mpr ⟨va_Nw.warmF hW (hN _ rn_1), List.forall_mem_cons.mpr ⟨va_Nw.warmF hW (hN _ rn_2), List.forall_mem_cons.mpr ⟨va_Nw.warmM hW (hN _ rn_3), List.forall_mem_cons.mpr ⟨va_Nw.warmM hW (hN _ rn_4), List.forall_mem_cons.mpr ⟨va_Nw.warmM hW (hN _ rn_5), List.forall_mem_cons.mpr ⟨va_Nw.warmD hW (hN _ rn_6), List.forall_mem_cons.mpr ⟨va_Nw.warmM hW (hN _ rn_7), List.forall_mem_cons.mpr ⟨va_Nw.warmM hW (hN _ rn_8), List.forall_mem_cons.mpr ⟨va_Nw.warmM hW (hN _ rn_9), List.forall_mem_cons.mpr ⟨va_Nw.warmM hW (hN _ rn_10), List.forall_mem_cons.mpr ⟨va_Nw.warmM hW (hN _ rn_11), List.forall_mem_cons.mpr ⟨va_Nw.warmM hW (hN _ rn_12), List.forall_mem_cons.mpr ⟨va_Nw.warmM hW (hN _ rn_13), List.forall_mem_cons.mpr ⟨va_Nw.warmM hW (hN _ rn_14), List.forall_mem_nil _⟩⟩⟩⟩⟩⟩⟩⟩⟩⟩⟩⟩⟩⟩⟩
theorem rn_in : ∀ w ∈ rn_all, w ∈ lw_tbl := by decide +kernel
theorem k_Rl_init : (.code y_Rl_init b_Rl_init 1 none : Cond) ∈ rg_tbl := m_16
theorem k_Tr_init : (.code y_Tr_init b_Tr_init 1 none : Cond) ∈ rg_tbl := m_25
theorem k_De_init : (.code y_De_init b_De_init 2 none : Cond) ∈ rg_tbl := m_45
theorem k_Ma_init : (.code y_Ma_init b_Ma_init 2 none : Cond) ∈ rg_tbl := m_48
theorem k_Se_init : (.code y_Se_init b_Se_init 2 none : Cond) ∈ rg_tbl := m_87
theorem k_Rl_say : (.code y_Rl_say b_Rl_say 5 (some .int) : Cond) ∈ rg_tbl := m_127
theorem k_Rl_areTerms : (.code y_Rl_areTerms b_Rl_areTerms 3 (some .boolean) : Cond) ∈ rg_tbl := m_130
theorem k_Rl_isTerm : (.code y_Rl_isTerm b_Rl_isTerm 1 (some .boolean) : Cond) ∈ rg_tbl := m_133
theorem k_Rl_codeOf : (.code y_Rl_codeOf b_Rl_codeOf 3 (some .int) : Cond) ∈ rg_tbl := m_136
theorem k_Rl_placeOfSaid : (.code y_Rl_placeOfSaid b_Rl_placeOfSaid 3 (some .int) : Cond) ∈ rg_tbl := m_140
theorem k_Rl_unsay : (.code y_Rl_unsay b_Rl_unsay 5 (some .int) : Cond) ∈ rg_tbl := m_144
theorem k_Rl_rule : (.code y_Rl_rule b_Rl_rule 3 (some .int) : Cond) ∈ rg_tbl := m_148
theorem k_Rl_contains : (.code y_Rl_contains b_Rl_contains 2 (some .boolean) : Cond) ∈ rg_tbl := m_151
theorem k_Rl_run : (.code y_Rl_run b_Rl_run 1 (some .int) : Cond) ∈ rg_tbl := m_155
theorem k_Rl_isTooLarge : (.code y_Rl_isTooLarge b_Rl_isTooLarge 1 (some .boolean) : Cond) ∈ rg_tbl := m_159
theorem k_De_derive : (.code y_De_derive b_De_derive 9 none : Cond) ∈ rg_tbl := m_163
theorem k_Tr_clear : (.code y_Tr_clear b_Tr_clear 1 none : Cond) ∈ rg_tbl := m_167
theorem k_Ar_fill : (.code y_Ar_fill b_Ar_fill 4 none : Cond) ∈ rg_tbl := m_170
theorem k_De_add : (.code y_De_add b_De_add 2 none : Cond) ∈ rg_tbl := m_174
theorem k_Tr_has : (.code y_Tr_has b_Tr_has 2 (some .boolean) : Cond) ∈ rg_tbl := m_178
theorem k_Tr_put : (.code y_Tr_put b_Tr_put 4 none : Cond) ∈ rg_tbl := m_183
theorem k_De_rulesInReach : (.code y_De_rulesInReach b_De_rulesInReach 4 (some .int) : Cond) ∈ rg_tbl := m_187
theorem k_Tb_premiseAt : (.code y_Tb_premiseAt b_Tb_premiseAt 2 (some .int) : Cond) ∈ rg_tbl := m_192
theorem k_Tr_subjectsFor : (.code y_Tr_subjectsFor b_Tr_subjectsFor 3 (some .int) : Cond) ∈ rg_tbl := m_196
theorem k_De_applyRules : (.code y_De_applyRules b_De_applyRules 9 none : Cond) ∈ rg_tbl := m_201
theorem k_Tb_premiseCount : (.code y_Tb_premiseCount b_Tb_premiseCount 1 (some .int) : Cond) ∈ rg_tbl := m_205
theorem k_Le_fit : (.code y_Le_fit b_Le_fit 7 (some .long) : Cond) ∈ rg_tbl := m_210
theorem k_Le_bind : (.code y_Le_bind b_Le_bind 5 (some .long) : Cond) ∈ rg_tbl := m_214
theorem k_Le_termOf : (.code y_Le_termOf b_Le_termOf 3 (some .int) : Cond) ∈ rg_tbl := m_217
theorem k_Ma_join : (.code y_Ma_join b_Ma_join 21 (some .boolean) : Cond) ∈ rg_tbl := m_222
theorem k_De_meet : (.code y_De_meet b_De_meet 4 (some .boolean) : Cond) ∈ rg_tbl := m_229
theorem k_Tb_givenCode : (.code y_Tb_givenCode b_Tb_givenCode 4 (some .int) : Cond) ∈ rg_tbl := m_232
theorem k_Tb_givenAt : (.code y_Tb_givenAt b_Tb_givenAt 1 (some .int) : Cond) ∈ rg_tbl := m_235
theorem k_Se_meet : (.code y_Se_meet b_Se_meet 5 (some .boolean) : Cond) ∈ rg_tbl := m_242
theorem k_Ig_bitCount : (.code y_Ig_bitCount b_Ig_bitCount 1 (some .int) : Cond) ∈ rg_tbl := m_250
theorem k_Rl_leastOf : (.code y_Rl_leastOf b_Rl_leastOf 1 (some .int) : Cond) ∈ rg_tbl := m_256
theorem k_Rl_withoutLeast : (.code y_Rl_withoutLeast b_Rl_withoutLeast 1 (some .int) : Cond) ∈ rg_tbl := m_260
theorem k_Tr_predicatesFor : (.code y_Tr_predicatesFor b_Tr_predicatesFor 3 (some .int) : Cond) ∈ rg_tbl := m_264
theorem k_Tr_objectsFor : (.code y_Tr_objectsFor b_Tr_objectsFor 5 (some .int) : Cond) ∈ rg_tbl := m_268
theorem k_De_lastRound : (.code y_De_lastRound b_De_lastRound 1 (some .int) : Cond) ∈ rg_tbl := m_275
theorem k_Rl_size : (.code y_Rl_size b_Rl_size 1 (some .int) : Cond) ∈ rg_tbl := m_279
theorem k_Rl_triple : (.code y_Rl_triple b_Rl_triple 2 (some .int) : Cond) ∈ rg_tbl := m_283
theorem k_Tr_codeAt : (.code y_Tr_codeAt b_Tr_codeAt 5 (some .int) : Cond) ∈ rg_tbl := m_287
theorem k_Tr_elementAt : (.code y_Tr_elementAt b_Tr_elementAt 4 (some .int) : Cond) ∈ rg_tbl := m_291
theorem k_Rl_round : (.code y_Rl_round b_Rl_round 4 (some .int) : Cond) ∈ rg_tbl := m_297
theorem k_De_roundOf : (.code y_De_roundOf b_De_roundOf 3 (some .int) : Cond) ∈ rg_tbl := m_301
theorem k_Rl_ways : (.code y_Rl_ways b_Rl_ways 4 (some .int) : Cond) ∈ rg_tbl := m_305
theorem k_Se_countWays : (.code y_Se_countWays b_Se_countWays 3 (some .int) : Cond) ∈ rg_tbl := m_309
theorem k_Se_seekWay : (.code y_Se_seekWay b_Se_seekWay 7 (some .boolean) : Cond) ∈ rg_tbl := m_313
theorem k_Rl_way : (.code y_Rl_way b_Rl_way 6 (some .int) : Cond) ∈ rg_tbl := m_323
theorem k_Se_foundPremise : (.code y_Se_foundPremise b_Se_foundPremise 2 (some .int) : Cond) ∈ rg_tbl := m_328
theorem k_Rl_clashes : (.code y_Rl_clashes b_Rl_clashes 1 (some .int) : Cond) ∈ rg_tbl := m_333
theorem k_Se_countClashes : (.code y_Se_countClashes b_Se_countClashes 1 (some .int) : Cond) ∈ rg_tbl := m_337
theorem k_Se_seekClash : (.code y_Se_seekClash b_Se_seekClash 3 (some .boolean) : Cond) ∈ rg_tbl := m_341
theorem k_Rl_clash : (.code y_Rl_clash b_Rl_clash 3 (some .int) : Cond) ∈ rg_tbl := m_345
theorem k_Rl_group : (.code y_Rl_group b_Rl_group 3 (some .int) : Cond) ∈ rg_tbl := m_350
theorem k_Mt_min : (.code y_Mt_min b_Mt_min 2 (some .int) : Cond) ∈ rg_tbl := m_355
theorem k_Rl_said : (.code y_Rl_said b_Rl_said 1 (some .int) : Cond) ∈ rg_tbl := m_359
theorem k_Mo_init : (.code y_Mo_init b_Mo_init 1 none : Cond) ∈ rg_tbl := m_364
theorem k_Mo_say : (.code y_Mo_say b_Mo_say 5 (some .int) : Cond) ∈ rg_tbl := m_417
theorem k_Mo_isTriple : (.code y_Mo_isTriple b_Mo_isTriple 3 (some .boolean) : Cond) ∈ rg_tbl := m_420
theorem k_Mo_isTerm : (.code y_Mo_isTerm b_Mo_isTerm 1 (some .boolean) : Cond) ∈ rg_tbl := m_423
theorem k_Mo_codeOf : (.code y_Mo_codeOf b_Mo_codeOf 3 (some .int) : Cond) ∈ rg_tbl := m_426
theorem k_Mo_unsay : (.code y_Mo_unsay b_Mo_unsay 5 (some .int) : Cond) ∈ rg_tbl := m_430
theorem k_Mo_rule : (.code y_Mo_rule b_Mo_rule 3 (some .int) : Cond) ∈ rg_tbl := m_434
theorem k_Mo_run : (.code y_Mo_run b_Mo_run 1 (some .int) : Cond) ∈ rg_tbl := m_438
theorem k_Mo_make : (.code y_Mo_make b_Mo_make 5 none : Cond) ∈ rg_tbl := m_442
theorem k_Mo_collect : (.code y_Mo_collect b_Mo_collect 2 none : Cond) ∈ rg_tbl := m_446
theorem k_Mo_begin : (.code y_Mo_begin b_Mo_begin 3 none : Cond) ∈ rg_tbl := m_450
theorem k_Mo_next : (.code y_Mo_next b_Mo_next 2 (some .boolean) : Cond) ∈ rg_tbl := m_454
theorem k_Mo_premises : (.code y_Mo_premises b_Mo_premises 3 (some .int) : Cond) ∈ rg_tbl := m_457
theorem k_Mo_pattern : (.code y_Mo_pattern b_Mo_pattern 1 (some .int) : Cond) ∈ rg_tbl := m_460
theorem k_Mo_early : (.code y_Mo_early b_Mo_early 1 (some .int) : Cond) ∈ rg_tbl := m_463
theorem k_Mo_later : (.code y_Mo_later b_Mo_later 1 (some .int) : Cond) ∈ rg_tbl := m_488
theorem k_Mo_release : (.code y_Mo_release b_Mo_release 2 none : Cond) ∈ rg_tbl := m_510
theorem k_Mo_fits : (.code y_Mo_fits b_Mo_fits 3 (some .boolean) : Cond) ∈ rg_tbl := m_514
theorem k_Mo_fitsItem : (.code y_Mo_fitsItem b_Mo_fitsItem 4 (some .boolean) : Cond) ∈ rg_tbl := m_518
theorem k_Mo_given : (.code y_Mo_given b_Mo_given 2 (some .int) : Cond) ∈ rg_tbl := m_522
theorem k_Mo_termOf : (.code y_Mo_termOf b_Mo_termOf 2 (some .int) : Cond) ∈ rg_tbl := m_526
theorem k_Mo_size : (.code y_Mo_size b_Mo_size 1 (some .int) : Cond) ∈ rg_tbl := m_530
theorem k_Mo_triple : (.code y_Mo_triple b_Mo_triple 2 (some .int) : Cond) ∈ rg_tbl := m_534
theorem k_Mo_round : (.code y_Mo_round b_Mo_round 5 (some .int) : Cond) ∈ rg_tbl := m_538
theorem k_Mo_ways : (.code y_Mo_ways b_Mo_ways 7 (some .int) : Cond) ∈ rg_tbl := m_542
theorem k_Mo_way : (.code y_Mo_way b_Mo_way 9 (some .int) : Cond) ∈ rg_tbl := m_546
theorem k_Mo_premise : (.code y_Mo_premise b_Mo_premise 2 (some .int) : Cond) ∈ rg_tbl := m_550
theorem k_Mo_clashes : (.code y_Mo_clashes b_Mo_clashes 3 (some .int) : Cond) ∈ rg_tbl := m_554
theorem k_Mo_clash : (.code y_Mo_clash b_Mo_clash 5 (some .int) : Cond) ∈ rg_tbl := m_558
theorem k_Mo_group : (.code y_Mo_group b_Mo_group 4 (some .int) : Cond) ∈ rg_tbl := m_562
theorem k_Mo_said : (.code y_Mo_said b_Mo_said 1 (some .int) : Cond) ∈ rg_tbl := m_566
