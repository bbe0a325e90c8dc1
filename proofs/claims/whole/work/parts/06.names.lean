/-! Names: of things, fields, methods; the words of the tables; by a text program. -/
def RX0 : String := "LineageTables"
def RX1 : String := "LineageTablesModel"
def RL : String := "LineageTablesLaw"
def RJ7 : String := "java/util/Arrays"
def TX0 : u_T := fun k => match k with
  | 0 => ("LineageTables", "nodeCount", "I", false)
  | 1 => ("LineageTables", "times", "[I", true)
  | 2 => ("LineageTables", "samples", "[Z", true)
  | 3 => ("LineageTables", "parents", "[I", true)
  | 4 => ("LineageTables", "siteCount", "I", false)
  | 5 => ("LineageTables", "sitePlaces", "[I", true)
  | 6 => ("LineageTables", "ancestrals", "[I", true)
  | 7 => ("LineageTables", "mutations", "[I", true)
  | 8 => ("LineageTables", "newNumbers", "[I", true)
  | 9 => ("LineageTables", "carried", "[I", true)
  | 10 => ("LineageTables", "mattering", "[I", true)
  | 11 => ("LineageTables", "tally", "[I", true)
  | _ => ("LineageTables", "row", "[I", true)
def tyX0 : Nat → FieldType := fun k => match k with
  | 0 => .int
  | 1 => .array .int
  | 2 => .array .boolean
  | 3 => .array .int
  | 4 => .int
  | 5 => .array .int
  | 6 => .array .int
  | 7 => .array .int
  | 8 => .array .int
  | 9 => .array .int
  | 10 => .array .int
  | 11 => .array .int
  | _ => .array .int
theorem nmX0 : ∀ a, a < 13 → ∀ b, b < 13 → a ≠ b → (TX0 a).2.1 ≠ (TX0 b).2.1 := by decide +kernel
theorem tyX0_ok : ∀ k, k < 13 → parseFieldDescriptor (TX0 k).2.2.1 = some (tyX0 k) := by decide +kernel
def TX1 : u_T := fun k => match k with
  | 0 => ("LineageTablesModel", "fault", "I", false)
  | 1 => ("LineageTablesModel", "nodes", "I", false)
  | 2 => ("LineageTablesModel", "time", "[I", true)
  | 3 => ("LineageTablesModel", "sample", "[Z", true)
  | 4 => ("LineageTablesModel", "parent", "[I", true)
  | 5 => ("LineageTablesModel", "sites", "I", false)
  | 6 => ("LineageTablesModel", "placeOf", "[I", true)
  | 7 => ("LineageTablesModel", "ancestral", "[I", true)
  | 8 => ("LineageTablesModel", "mutation", "[I", true)
  | 9 => ("LineageTablesModel", "became", "[I", true)
  | 10 => ("LineageTablesModel", "nextParent", "[I", true)
  | 11 => ("LineageTablesModel", "nextMutation", "[I", true)
  | 12 => ("LineageTablesModel", "foundLeft", "I", false)
  | 13 => ("LineageTablesModel", "foundRight", "I", false)
  | 14 => ("LineageTablesModel", "foundParent", "I", false)
  | _ => ("LineageTablesModel", "foundChild", "I", false)
def tyX1 : Nat → FieldType := fun k => match k with
  | 0 => .int
  | 1 => .int
  | 2 => .array .int
  | 3 => .array .boolean
  | 4 => .array .int
  | 5 => .int
  | 6 => .array .int
  | 7 => .array .int
  | 8 => .array .int
  | 9 => .array .int
  | 10 => .array .int
  | 11 => .array .int
  | 12 => .int
  | 13 => .int
  | 14 => .int
  | _ => .int
theorem nmX1 : ∀ a, a < 16 → ∀ b, b < 16 → a ≠ b → (TX1 a).2.1 ≠ (TX1 b).2.1 := by decide +kernel
theorem tyX1_ok : ∀ k, k < 16 → parseFieldDescriptor (TX1 k).2.2.1 = some (tyX1 k) := by decide +kernel
abbrev vwCl : List vw_C := [(RX0, TX0, 13), (RX1, TX1, 16)]
/-- the good words of the tables: every method stands on them all -/
def jW0 : List Cond := lw_tbl.filter goodWord
theorem jW0_in {w : Cond} (h : w ∈ jW0) : w ∈ lw_tbl := (List.mem_filter.mp h).1
theorem jW0_good {c0 w : Cond} (h : w ∈ jW0) : w ∈ c0 :: jW0 ∧ ((w.onTables && w.keeps) = true ∨ ∃ ty, w = .arrayClass ty) := ⟨List.mem_cons_of_mem _ h, good_of_word (List.mem_filter.mp h).2⟩
theorem jGV {c0 : Cond} {own C : String} {index n : Nat} {y : MethodName} {cc : ByteArray} {ret : Option FieldType} (h1 : Cond.methodLink own index y ∈ jW0) (h2 : Cond.instanceMethod y ∈ jW0) (h3 : Cond.selects C y y ∈ jW0) (h4 : Cond.initialized C ∈ jW0) (h5 : Cond.code y cc n ret ∈ jW0) : GoodIn (c0 :: jW0) (wsV own index C y (Cond.code y cc n ret :: jW0)) := by
  intro w hw
  simp only [wsV, List.mem_append, List.mem_cons, List.not_mem_nil, or_false] at hw
  rcases hw with (rfl | rfl | rfl | rfl) | rfl | hw
  · exact jW0_good h1
  · exact jW0_good h2
  · exact jW0_good h3
  · exact jW0_good h4
  · exact jW0_good h5
  · exact jW0_good hw
theorem jGS {c0 : Cond} {own : String} {index n : Nat} {y : MethodName} {cc : ByteArray} {ret : Option FieldType} (h1 : Cond.methodLink own index y ∈ jW0) (h2 : Cond.static y ∈ jW0) (h4 : Cond.initialized y.cls ∈ jW0) (h5 : Cond.code y cc n ret ∈ jW0) : GoodIn (c0 :: jW0) (va_wsS own index y (Cond.code y cc n ret :: jW0)) := by
  intro w hw
  simp only [va_wsS, List.mem_append, List.mem_cons, List.not_mem_nil, or_false] at hw
  rcases hw with (rfl | rfl | rfl) | rfl | hw
  · exact jW0_good h1
  · exact jW0_good h2
  · exact jW0_good h4
  · exact jW0_good h5
  · exact jW0_good hw
theorem jGI {c0 : Cond} {n : Nat} {y : MethodName} {cc : ByteArray} {ret : Option FieldType} (h5 : Cond.code y cc n ret ∈ jW0) : GoodIn (c0 :: jW0) (Cond.code y cc n ret :: jW0) := by
  intro w hw
  rcases List.mem_cons.mp hw with rfl | hw
  · exact jW0_good h5
  · exact jW0_good hw
theorem jGW {c0 : Cond} {own : String} {index n : Nat} {y : MethodName} {cc : ByteArray} {ret : Option FieldType} {hh : List (Nat × Nat × Nat × Nat)} (h1 : Cond.methodLink own index y ∈ jW0) (h2 : Cond.static y ∈ jW0) (h4 : Cond.initialized y.cls ∈ jW0) (h5 : Cond.codeWith y cc n ret hh ∈ jW0) : GoodIn (c0 :: jW0) (va_wsS own index y (Cond.codeWith y cc n ret hh :: jW0)) := by
  intro w hw
  simp only [va_wsS, List.mem_append, List.mem_cons, List.not_mem_nil, or_false] at hw
  rcases hw with (rfl | rfl | rfl) | rfl | hw
  · exact jW0_good h1
  · exact jW0_good h2
  · exact jW0_good h4
  · exact jW0_good h5
  · exact jW0_good hw
abbrev cX0_init : ByteArray := prog_1_method_1_code
def yX0_init : MethodName := ⟨RX0, "<init>", "()V"⟩
abbrev cX0_count : ByteArray := prog_1_method_7_code
def yX0_count : MethodName := ⟨RX0, "count", "(I)I"⟩
abbrev cX0_countSamples : ByteArray := prog_1_method_28_code
def yX0_countSamples : MethodName := ⟨RX0, "countSamples", "()I"⟩
abbrev cX0_countEdges : ByteArray := prog_1_method_30_code
def yX0_countEdges : MethodName := ⟨RX0, "countEdges", "()I"⟩
abbrev cX0_startsEdge : ByteArray := prog_1_method_31_code
def yX0_startsEdge : MethodName := ⟨RX0, "startsEdge", "(II)Z"⟩
abbrev cX0_parentAt : ByteArray := prog_1_method_24_code
def yX0_parentAt : MethodName := ⟨RX0, "parentAt", "(II)I"⟩
abbrev cX0_countMutations : ByteArray := prog_1_method_29_code
def yX0_countMutations : MethodName := ⟨RX0, "countMutations", "()I"⟩
abbrev cX0_trees : ByteArray := prog_1_method_12_code
def yX0_trees : MethodName := ⟨RX0, "trees", "()I"⟩
abbrev cX0_startsRun : ByteArray := prog_1_method_37_code
def yX0_startsRun : MethodName := ⟨RX0, "startsRun", "(I)Z"⟩
abbrev cX0_differing : ByteArray := prog_1_method_15_code
def yX0_differing : MethodName := ⟨RX0, "differing", "()I"⟩
abbrev cX0_tallyLetters : ByteArray := prog_1_method_39_code
def yX0_tallyLetters : MethodName := ⟨RX0, "tallyLetters", "(I)V"⟩
abbrev cX0_letterAt : ByteArray := prog_1_method_38_code
def yX0_letterAt : MethodName := ⟨RX0, "letterAt", "(II)I"⟩
abbrev cX0_spectrum : ByteArray := prog_1_method_16_code
def yX0_spectrum : MethodName := ⟨RX0, "spectrum", "(I)I"⟩
abbrev cX0_area : ByteArray := prog_1_method_17_code
def yX0_area : MethodName := ⟨RX0, "area", "()I"⟩
abbrev cX0_countCarried : ByteArray := prog_1_method_40_code
def yX0_countCarried : MethodName := ⟨RX0, "countCarried", "(I)V"⟩
abbrev cX0_simplify : ByteArray := prog_1_method_18_code
def yX0_simplify : MethodName := ⟨RX0, "simplify", "()I"⟩
abbrev cX0_findMattering : ByteArray := prog_1_method_41_code
def yX0_findMattering : MethodName := ⟨RX0, "findMattering", "(I)I"⟩
abbrev cX0_countLiveChildren : ByteArray := prog_1_method_42_code
def yX0_countLiveChildren : MethodName := ⟨RX0, "countLiveChildren", "(II)I"⟩
abbrev cX0_renumber : ByteArray := prog_1_method_44_code
def yX0_renumber : MethodName := ⟨RX0, "renumber", "(I)I"⟩
abbrev cX0_moveMutations : ByteArray := prog_1_method_45_code
def yX0_moveMutations : MethodName := ⟨RX0, "moveMutations", "(I)V"⟩
abbrev cX0_matters : ByteArray := prog_1_method_43_code
def yX0_matters : MethodName := ⟨RX0, "matters", "(II)Z"⟩
abbrev cX0_mutationComingTo : ByteArray := prog_1_method_46_code
def yX0_mutationComingTo : MethodName := ⟨RX0, "mutationComingTo", "(II)I"⟩
abbrev cX0_moveParents : ByteArray := prog_1_method_47_code
def yX0_moveParents : MethodName := ⟨RX0, "moveParents", "(I)V"⟩
abbrev cX0_nearestMatteringAbove : ByteArray := prog_1_method_48_code
def yX0_nearestMatteringAbove : MethodName := ⟨RX0, "nearestMatteringAbove", "(II)I"⟩
abbrev cX0_moveNodes : ByteArray := prog_1_method_49_code
def yX0_moveNodes : MethodName := ⟨RX0, "moveNodes", "()V"⟩
abbrev cX0_became : ByteArray := prog_1_method_19_code
def yX0_became : MethodName := ⟨RX0, "became", "(I)I"⟩
abbrev cL_node : ByteArray := method_3_code
def yL_node : MethodName := ⟨RL, "node", "(LLineageTables;IZ[J)I"⟩
abbrev cX0_node : ByteArray := prog_1_method_2_code
def yX0_node : MethodName := ⟨RX0, "node", "(IZ)I"⟩
abbrev cL_join : ByteArray := method_4_code
def yL_join : MethodName := ⟨RL, "join", "(LLineageTables;IIII[J)I"⟩
abbrev cX0_join : ByteArray := prog_1_method_3_code
def yX0_join : MethodName := ⟨RX0, "join", "(IIII)I"⟩
abbrev cX0_isRun : ByteArray := prog_1_method_23_code
def yX0_isRun : MethodName := ⟨RX0, "isRun", "(II)Z"⟩
abbrev cX0_isNode : ByteArray := prog_1_method_20_code
def yX0_isNode : MethodName := ⟨RX0, "isNode", "(I)Z"⟩
abbrev cX0_hasParentBeside : ByteArray := prog_1_method_25_code
def yX0_hasParentBeside : MethodName := ⟨RX0, "hasParentBeside", "(IIII)Z"⟩
abbrev cX0_setParents : ByteArray := prog_1_method_26_code
def yX0_setParents : MethodName := ⟨RX0, "setParents", "(IIII)I"⟩
abbrev cL_part : ByteArray := method_5_code
def yL_part : MethodName := ⟨RL, "part", "(LLineageTables;III[J)I"⟩
abbrev cX0_part : ByteArray := prog_1_method_4_code
def yX0_part : MethodName := ⟨RX0, "part", "(III)I"⟩
abbrev cL_site : ByteArray := method_6_code
def yL_site : MethodName := ⟨RL, "site", "(LLineageTables;II[J)I"⟩
abbrev cX0_site : ByteArray := prog_1_method_5_code
def yX0_site : MethodName := ⟨RX0, "site", "(II)I"⟩
abbrev cX0_isPlace : ByteArray := prog_1_method_22_code
def yX0_isPlace : MethodName := ⟨RX0, "isPlace", "(I)Z"⟩
abbrev cX0_hasSite : ByteArray := prog_1_method_27_code
def yX0_hasSite : MethodName := ⟨RX0, "hasSite", "(I)Z"⟩
abbrev cL_mutate : ByteArray := method_7_code
def yL_mutate : MethodName := ⟨RL, "mutate", "(LLineageTables;III[J)I"⟩
abbrev cX0_mutate : ByteArray := prog_1_method_6_code
def yX0_mutate : MethodName := ⟨RX0, "mutate", "(III)I"⟩
abbrev cX0_isSite : ByteArray := prog_1_method_21_code
def yX0_isSite : MethodName := ⟨RX0, "isSite", "(I)Z"⟩
abbrev cL_time : ByteArray := method_8_code
def yL_time : MethodName := ⟨RL, "time", "(LLineageTables;I[J)I"⟩
abbrev cX0_time : ByteArray := prog_1_method_8_code
def yX0_time : MethodName := ⟨RX0, "time", "(I)I"⟩
abbrev cL_edge : ByteArray := method_9_code
def yL_edge : MethodName := ⟨RL, "edge", "(LLineageTables;II[J)I"⟩
abbrev cX0_edge : ByteArray := prog_1_method_9_code
def yX0_edge : MethodName := ⟨RX0, "edge", "(II)I"⟩
abbrev cX0_findEdge : ByteArray := prog_1_method_33_code
def yX0_findEdge : MethodName := ⟨RX0, "findEdge", "(I)I"⟩
abbrev cX0_nextByTime : ByteArray := prog_1_method_34_code
def yX0_nextByTime : MethodName := ⟨RX0, "nextByTime", "(I)I"⟩
abbrev cX0_isEarlier : ByteArray := prog_1_method_35_code
def yX0_isEarlier : MethodName := ⟨RX0, "isEarlier", "(II)Z"⟩
abbrev cX0_edgeEnd : ByteArray := prog_1_method_32_code
def yX0_edgeEnd : MethodName := ⟨RX0, "edgeEnd", "(II)I"⟩
abbrev cL_parent : ByteArray := method_10_code
def yL_parent : MethodName := ⟨RL, "parent", "(LLineageTables;II[J)I"⟩
abbrev cX0_parent : ByteArray := prog_1_method_10_code
def yX0_parent : MethodName := ⟨RX0, "parent", "(II)I"⟩
abbrev cL_meet : ByteArray := method_11_code
def yL_meet : MethodName := ⟨RL, "meet", "(LLineageTables;III[J)I"⟩
abbrev cX0_meet : ByteArray := prog_1_method_11_code
def yX0_meet : MethodName := ⟨RX0, "meet", "(III)I"⟩
abbrev cX0_isAtOrAbove : ByteArray := prog_1_method_36_code
def yX0_isAtOrAbove : MethodName := ⟨RX0, "isAtOrAbove", "(III)Z"⟩
abbrev cL_cut : ByteArray := method_12_code
def yL_cut : MethodName := ⟨RL, "cut", "(LLineageTables;I[J)I"⟩
abbrev cX0_cut : ByteArray := prog_1_method_13_code
def yX0_cut : MethodName := ⟨RX0, "cut", "(I)I"⟩
abbrev cL_letter : ByteArray := method_13_code
def yL_letter : MethodName := ⟨RL, "letter", "(LLineageTables;II[J)I"⟩
abbrev cX0_letter : ByteArray := prog_1_method_14_code
def yX0_letter : MethodName := ⟨RX0, "letter", "(II)I"⟩
abbrev cX1_init : ByteArray := prog_3_method_1_code
def yX1_init : MethodName := ⟨RX1, "<init>", "()V"⟩
abbrev cX1_thrown : ByteArray := prog_3_method_2_code
def yX1_thrown : MethodName := ⟨RX1, "thrown", "()I"⟩
abbrev cX1_node : ByteArray := prog_3_method_14_code
def yX1_node : MethodName := ⟨RX1, "node", "(IZ)I"⟩
abbrev cX1_refused : ByteArray := prog_3_method_3_code
def yX1_refused : MethodName := ⟨RX1, "refused", "(I)Z"⟩
abbrev cX1_join : ByteArray := prog_3_method_15_code
def yX1_join : MethodName := ⟨RX1, "join", "(IIII)I"⟩
abbrev cX1_isRun : ByteArray := prog_3_method_7_code
def yX1_isRun : MethodName := ⟨RX1, "isRun", "(II)Z"⟩
abbrev cX1_isNode : ByteArray := prog_3_method_4_code
def yX1_isNode : MethodName := ⟨RX1, "isNode", "(I)Z"⟩
abbrev cX1_up : ByteArray := prog_3_method_8_code
def yX1_up : MethodName := ⟨RX1, "up", "(II)I"⟩
abbrev cX1_part : ByteArray := prog_3_method_16_code
def yX1_part : MethodName := ⟨RX1, "part", "(III)I"⟩
abbrev cX1_site : ByteArray := prog_3_method_18_code
def yX1_site : MethodName := ⟨RX1, "site", "(II)I"⟩
abbrev cX1_isPlace : ByteArray := prog_3_method_6_code
def yX1_isPlace : MethodName := ⟨RX1, "isPlace", "(I)Z"⟩
abbrev cX1_isTaken : ByteArray := prog_3_method_17_code
def yX1_isTaken : MethodName := ⟨RX1, "isTaken", "(I)Z"⟩
abbrev cX1_mutate : ByteArray := prog_3_method_19_code
def yX1_mutate : MethodName := ⟨RX1, "mutate", "(III)I"⟩
abbrev cX1_isSite : ByteArray := prog_3_method_5_code
def yX1_isSite : MethodName := ⟨RX1, "isSite", "(I)Z"⟩
abbrev cX1_count : ByteArray := prog_3_method_22_code
def yX1_count : MethodName := ⟨RX1, "count", "(I)I"⟩
abbrev cX1_samples : ByteArray := prog_3_method_11_code
def yX1_samples : MethodName := ⟨RX1, "samples", "()I"⟩
abbrev cX1_find : ByteArray := prog_3_method_21_code
def yX1_find : MethodName := ⟨RX1, "find", "(I)I"⟩
abbrev cX1_begins : ByteArray := prog_3_method_20_code
def yX1_begins : MethodName := ⟨RX1, "begins", "(II)Z"⟩
abbrev cX1_time : ByteArray := prog_3_method_23_code
def yX1_time : MethodName := ⟨RX1, "time", "(I)I"⟩
abbrev cX1_edge : ByteArray := prog_3_method_24_code
def yX1_edge : MethodName := ⟨RX1, "edge", "(II)I"⟩
abbrev cX1_parent : ByteArray := prog_3_method_25_code
def yX1_parent : MethodName := ⟨RX1, "parent", "(II)I"⟩
abbrev cX1_meet : ByteArray := prog_3_method_26_code
def yX1_meet : MethodName := ⟨RX1, "meet", "(III)I"⟩
abbrev cX1_holds : ByteArray := prog_3_method_9_code
def yX1_holds : MethodName := ⟨RX1, "holds", "(III)Z"⟩
abbrev cX1_trees : ByteArray := prog_3_method_28_code
def yX1_trees : MethodName := ⟨RX1, "trees", "()I"⟩
abbrev cX1_differs : ByteArray := prog_3_method_27_code
def yX1_differs : MethodName := ⟨RX1, "differs", "(I)Z"⟩
abbrev cX1_cut : ByteArray := prog_3_method_29_code
def yX1_cut : MethodName := ⟨RX1, "cut", "(I)I"⟩
abbrev cX1_letter : ByteArray := prog_3_method_31_code
def yX1_letter : MethodName := ⟨RX1, "letter", "(II)I"⟩
abbrev cX1_letterAt : ByteArray := prog_3_method_30_code
def yX1_letterAt : MethodName := ⟨RX1, "letterAt", "(II)I"⟩
abbrev cX1_differing : ByteArray := prog_3_method_32_code
def yX1_differing : MethodName := ⟨RX1, "differing", "()I"⟩
abbrev cX1_spectrum : ByteArray := prog_3_method_33_code
def yX1_spectrum : MethodName := ⟨RX1, "spectrum", "(I)I"⟩
abbrev cX1_area : ByteArray := prog_3_method_34_code
def yX1_area : MethodName := ⟨RX1, "area", "()I"⟩
abbrev cX1_under : ByteArray := prog_3_method_10_code
def yX1_under : MethodName := ⟨RX1, "under", "(II)I"⟩
abbrev cX1_simplify : ByteArray := prog_3_method_38_code
def yX1_simplify : MethodName := ⟨RX1, "simplify", "()I"⟩
abbrev cX1_stays : ByteArray := prog_3_method_35_code
def yX1_stays : MethodName := ⟨RX1, "stays", "(I)Z"⟩
abbrev cX1_isFork : ByteArray := prog_3_method_12_code
def yX1_isFork : MethodName := ⟨RX1, "isFork", "(II)Z"⟩
abbrev cX1_matters : ByteArray := prog_3_method_13_code
def yX1_matters : MethodName := ⟨RX1, "matters", "(II)Z"⟩
abbrev cX1_nearest : ByteArray := prog_3_method_36_code
def yX1_nearest : MethodName := ⟨RX1, "nearest", "(II)I"⟩
abbrev cX1_comes : ByteArray := prog_3_method_37_code
def yX1_comes : MethodName := ⟨RX1, "comes", "(II)I"⟩
abbrev cX1_became : ByteArray := prog_3_method_39_code
def yX1_became : MethodName := ⟨RX1, "became", "(I)I"⟩
abbrev cJ7_fill : ByteArray := prog_12_method_103_code
def yJ7_fill : MethodName := ⟨RJ7, "fill", "([II)V"⟩
def wsX0_init : List Cond := Cond.code yX0_init cX0_init 1 none :: jW0
theorem kX0_init_c : Cond.code yX0_init cX0_init 1 none ∈ jW0 := List.mem_filter.mpr ⟨List.mem_of_getElem? (i := 61) (by decide +kernel), by decide +kernel⟩
def wsX0_count : List Cond := Cond.code yX0_count cX0_count 2 (some .int) :: jW0
theorem kX0_count_c : Cond.code yX0_count cX0_count 2 (some .int) ∈ jW0 := List.mem_filter.mpr ⟨List.mem_of_getElem? (i := 113) (by decide +kernel), by decide +kernel⟩
def wsX0_countSamples : List Cond := Cond.code yX0_countSamples cX0_countSamples 3 (some .int) :: jW0
theorem kX0_countSamples_c : Cond.code yX0_countSamples cX0_countSamples 3 (some .int) ∈ jW0 := List.mem_filter.mpr ⟨List.mem_of_getElem? (i := 117) (by decide +kernel), by decide +kernel⟩
def wsX0_countEdges : List Cond := Cond.code yX0_countEdges cX0_countEdges 4 (some .int) :: jW0
theorem kX0_countEdges_c : Cond.code yX0_countEdges cX0_countEdges 4 (some .int) ∈ jW0 := List.mem_filter.mpr ⟨List.mem_of_getElem? (i := 121) (by decide +kernel), by decide +kernel⟩
def wsX0_startsEdge : List Cond := Cond.code yX0_startsEdge cX0_startsEdge 4 (some .boolean) :: jW0
theorem kX0_startsEdge_c : Cond.code yX0_startsEdge cX0_startsEdge 4 (some .boolean) ∈ jW0 := List.mem_filter.mpr ⟨List.mem_of_getElem? (i := 125) (by decide +kernel), by decide +kernel⟩
def wsX0_parentAt : List Cond := Cond.code yX0_parentAt cX0_parentAt 3 (some .int) :: jW0
theorem kX0_parentAt_c : Cond.code yX0_parentAt cX0_parentAt 3 (some .int) ∈ jW0 := List.mem_filter.mpr ⟨List.mem_of_getElem? (i := 129) (by decide +kernel), by decide +kernel⟩
def wsX0_countMutations : List Cond := Cond.code yX0_countMutations cX0_countMutations 3 (some .int) :: jW0
theorem kX0_countMutations_c : Cond.code yX0_countMutations cX0_countMutations 3 (some .int) ∈ jW0 := List.mem_filter.mpr ⟨List.mem_of_getElem? (i := 133) (by decide +kernel), by decide +kernel⟩
def wsX0_trees : List Cond := Cond.code yX0_trees cX0_trees 3 (some .int) :: jW0
theorem kX0_trees_c : Cond.code yX0_trees cX0_trees 3 (some .int) ∈ jW0 := List.mem_filter.mpr ⟨List.mem_of_getElem? (i := 137) (by decide +kernel), by decide +kernel⟩
def wsX0_startsRun : List Cond := Cond.code yX0_startsRun cX0_startsRun 3 (some .boolean) :: jW0
theorem kX0_startsRun_c : Cond.code yX0_startsRun cX0_startsRun 3 (some .boolean) ∈ jW0 := List.mem_filter.mpr ⟨List.mem_of_getElem? (i := 141) (by decide +kernel), by decide +kernel⟩
def wsX0_differing : List Cond := Cond.code yX0_differing cX0_differing 5 (some .int) :: jW0
theorem kX0_differing_c : Cond.code yX0_differing cX0_differing 5 (some .int) ∈ jW0 := List.mem_filter.mpr ⟨List.mem_of_getElem? (i := 145) (by decide +kernel), by decide +kernel⟩
def wsX0_tallyLetters : List Cond := Cond.code yX0_tallyLetters cX0_tallyLetters 3 none :: jW0
theorem kX0_tallyLetters_c : Cond.code yX0_tallyLetters cX0_tallyLetters 3 none ∈ jW0 := List.mem_filter.mpr ⟨List.mem_of_getElem? (i := 149) (by decide +kernel), by decide +kernel⟩
def wsX0_letterAt : List Cond := Cond.code yX0_letterAt cX0_letterAt 6 (some .int) :: jW0
theorem kX0_letterAt_c : Cond.code yX0_letterAt cX0_letterAt 6 (some .int) ∈ jW0 := List.mem_filter.mpr ⟨List.mem_of_getElem? (i := 153) (by decide +kernel), by decide +kernel⟩
def wsX0_spectrum : List Cond := Cond.code yX0_spectrum cX0_spectrum 5 (some .int) :: jW0
theorem kX0_spectrum_c : Cond.code yX0_spectrum cX0_spectrum 5 (some .int) ∈ jW0 := List.mem_filter.mpr ⟨List.mem_of_getElem? (i := 157) (by decide +kernel), by decide +kernel⟩
def wsX0_area : List Cond := Cond.code yX0_area cX0_area 6 (some .int) :: jW0
theorem kX0_area_c : Cond.code yX0_area cX0_area 6 (some .int) ∈ jW0 := List.mem_filter.mpr ⟨List.mem_of_getElem? (i := 161) (by decide +kernel), by decide +kernel⟩
def wsX0_countCarried : List Cond := Cond.code yX0_countCarried cX0_countCarried 5 none :: jW0
theorem kX0_countCarried_c : Cond.code yX0_countCarried cX0_countCarried 5 none ∈ jW0 := List.mem_filter.mpr ⟨List.mem_of_getElem? (i := 165) (by decide +kernel), by decide +kernel⟩
def wsX0_simplify : List Cond := Cond.code yX0_simplify cX0_simplify 4 (some .int) :: jW0
theorem kX0_simplify_c : Cond.code yX0_simplify cX0_simplify 4 (some .int) ∈ jW0 := List.mem_filter.mpr ⟨List.mem_of_getElem? (i := 169) (by decide +kernel), by decide +kernel⟩
def wsX0_findMattering : List Cond := Cond.code yX0_findMattering cX0_findMattering 4 (some .int) :: jW0
theorem kX0_findMattering_c : Cond.code yX0_findMattering cX0_findMattering 4 (some .int) ∈ jW0 := List.mem_filter.mpr ⟨List.mem_of_getElem? (i := 173) (by decide +kernel), by decide +kernel⟩
def wsX0_countLiveChildren : List Cond := Cond.code yX0_countLiveChildren cX0_countLiveChildren 5 (some .int) :: jW0
theorem kX0_countLiveChildren_c : Cond.code yX0_countLiveChildren cX0_countLiveChildren 5 (some .int) ∈ jW0 := List.mem_filter.mpr ⟨List.mem_of_getElem? (i := 177) (by decide +kernel), by decide +kernel⟩
def wsX0_renumber : List Cond := Cond.code yX0_renumber cX0_renumber 4 (some .int) :: jW0
theorem kX0_renumber_c : Cond.code yX0_renumber cX0_renumber 4 (some .int) ∈ jW0 := List.mem_filter.mpr ⟨List.mem_of_getElem? (i := 181) (by decide +kernel), by decide +kernel⟩
def wsX0_moveMutations : List Cond := Cond.code yX0_moveMutations cX0_moveMutations 4 none :: jW0
theorem kX0_moveMutations_c : Cond.code yX0_moveMutations cX0_moveMutations 4 none ∈ jW0 := List.mem_filter.mpr ⟨List.mem_of_getElem? (i := 185) (by decide +kernel), by decide +kernel⟩
def wsX0_matters : List Cond := Cond.code yX0_matters cX0_matters 3 (some .boolean) :: jW0
theorem kX0_matters_c : Cond.code yX0_matters cX0_matters 3 (some .boolean) ∈ jW0 := List.mem_filter.mpr ⟨List.mem_of_getElem? (i := 189) (by decide +kernel), by decide +kernel⟩
def wsX0_mutationComingTo : List Cond := Cond.code yX0_mutationComingTo cX0_mutationComingTo 7 (some .int) :: jW0
theorem kX0_mutationComingTo_c : Cond.code yX0_mutationComingTo cX0_mutationComingTo 7 (some .int) ∈ jW0 := List.mem_filter.mpr ⟨List.mem_of_getElem? (i := 193) (by decide +kernel), by decide +kernel⟩
def wsX0_moveParents : List Cond := Cond.code yX0_moveParents cX0_moveParents 4 none :: jW0
theorem kX0_moveParents_c : Cond.code yX0_moveParents cX0_moveParents 4 none ∈ jW0 := List.mem_filter.mpr ⟨List.mem_of_getElem? (i := 200) (by decide +kernel), by decide +kernel⟩
def wsX0_nearestMatteringAbove : List Cond := Cond.code yX0_nearestMatteringAbove cX0_nearestMatteringAbove 5 (some .int) :: jW0
theorem kX0_nearestMatteringAbove_c : Cond.code yX0_nearestMatteringAbove cX0_nearestMatteringAbove 5 (some .int) ∈ jW0 := List.mem_filter.mpr ⟨List.mem_of_getElem? (i := 204) (by decide +kernel), by decide +kernel⟩
def wsX0_moveNodes : List Cond := Cond.code yX0_moveNodes cX0_moveNodes 3 none :: jW0
theorem kX0_moveNodes_c : Cond.code yX0_moveNodes cX0_moveNodes 3 none ∈ jW0 := List.mem_filter.mpr ⟨List.mem_of_getElem? (i := 208) (by decide +kernel), by decide +kernel⟩
def wsX0_became : List Cond := Cond.code yX0_became cX0_became 2 (some .int) :: jW0
theorem kX0_became_c : Cond.code yX0_became cX0_became 2 (some .int) ∈ jW0 := List.mem_filter.mpr ⟨List.mem_of_getElem? (i := 212) (by decide +kernel), by decide +kernel⟩
def wsL_node : List Cond := Cond.codeWith yL_node cL_node 5 (some .int) [(0, 10, 13, 13), (0, 10, 17, 15)] :: jW0
theorem kL_node_c : Cond.codeWith yL_node cL_node 5 (some .int) [(0, 10, 13, 13), (0, 10, 17, 15)] ∈ jW0 := List.mem_filter.mpr ⟨List.mem_of_getElem? (i := 215) (by decide +kernel), by decide +kernel⟩
def wsX0_node : List Cond := Cond.code yX0_node cX0_node 3 (some .int) :: jW0
theorem kX0_node_c : Cond.code yX0_node cX0_node 3 (some .int) ∈ jW0 := List.mem_filter.mpr ⟨List.mem_of_getElem? (i := 221) (by decide +kernel), by decide +kernel⟩
def wsL_join : List Cond := Cond.codeWith yL_join cL_join 7 (some .int) [(0, 14, 17, 21), (0, 14, 21, 13), (0, 14, 25, 15)] :: jW0
theorem kL_join_c : Cond.codeWith yL_join cL_join 7 (some .int) [(0, 14, 17, 21), (0, 14, 21, 13), (0, 14, 25, 15)] ∈ jW0 := List.mem_filter.mpr ⟨List.mem_of_getElem? (i := 308) (by decide +kernel), by decide +kernel⟩
def wsX0_join : List Cond := Cond.code yX0_join cX0_join 5 (some .int) :: jW0
theorem kX0_join_c : Cond.code yX0_join cX0_join 5 (some .int) ∈ jW0 := List.mem_filter.mpr ⟨List.mem_of_getElem? (i := 313) (by decide +kernel), by decide +kernel⟩
def wsX0_isRun : List Cond := Cond.code yX0_isRun cX0_isRun 2 (some .boolean) :: jW0
theorem kX0_isRun_c : Cond.code yX0_isRun cX0_isRun 2 (some .boolean) ∈ jW0 := List.mem_filter.mpr ⟨List.mem_of_getElem? (i := 316) (by decide +kernel), by decide +kernel⟩
def wsX0_isNode : List Cond := Cond.code yX0_isNode cX0_isNode 2 (some .boolean) :: jW0
theorem kX0_isNode_c : Cond.code yX0_isNode cX0_isNode 2 (some .boolean) ∈ jW0 := List.mem_filter.mpr ⟨List.mem_of_getElem? (i := 320) (by decide +kernel), by decide +kernel⟩
def wsX0_hasParentBeside : List Cond := Cond.code yX0_hasParentBeside cX0_hasParentBeside 7 (some .boolean) :: jW0
theorem kX0_hasParentBeside_c : Cond.code yX0_hasParentBeside cX0_hasParentBeside 7 (some .boolean) ∈ jW0 := List.mem_filter.mpr ⟨List.mem_of_getElem? (i := 341) (by decide +kernel), by decide +kernel⟩
def wsX0_setParents : List Cond := Cond.code yX0_setParents cX0_setParents 7 (some .int) :: jW0
theorem kX0_setParents_c : Cond.code yX0_setParents cX0_setParents 7 (some .int) ∈ jW0 := List.mem_filter.mpr ⟨List.mem_of_getElem? (i := 346) (by decide +kernel), by decide +kernel⟩
def wsL_part : List Cond := Cond.codeWith yL_part cL_part 6 (some .int) [(0, 12, 15, 21)] :: jW0
theorem kL_part_c : Cond.codeWith yL_part cL_part 6 (some .int) [(0, 12, 15, 21)] ∈ jW0 := List.mem_filter.mpr ⟨List.mem_of_getElem? (i := 349) (by decide +kernel), by decide +kernel⟩
def wsX0_part : List Cond := Cond.code yX0_part cX0_part 4 (some .int) :: jW0
theorem kX0_part_c : Cond.code yX0_part cX0_part 4 (some .int) ∈ jW0 := List.mem_filter.mpr ⟨List.mem_of_getElem? (i := 353) (by decide +kernel), by decide +kernel⟩
def wsL_site : List Cond := Cond.codeWith yL_site cL_site 5 (some .int) [(0, 10, 13, 21), (0, 10, 17, 13), (0, 10, 21, 15)] :: jW0
theorem kL_site_c : Cond.codeWith yL_site cL_site 5 (some .int) [(0, 10, 13, 21), (0, 10, 17, 13), (0, 10, 21, 15)] ∈ jW0 := List.mem_filter.mpr ⟨List.mem_of_getElem? (i := 356) (by decide +kernel), by decide +kernel⟩
def wsX0_site : List Cond := Cond.code yX0_site cX0_site 3 (some .int) :: jW0
theorem kX0_site_c : Cond.code yX0_site cX0_site 3 (some .int) ∈ jW0 := List.mem_filter.mpr ⟨List.mem_of_getElem? (i := 360) (by decide +kernel), by decide +kernel⟩
def wsX0_isPlace : List Cond := Cond.code yX0_isPlace cX0_isPlace 1 (some .boolean) :: jW0
theorem kX0_isPlace_c : Cond.code yX0_isPlace cX0_isPlace 1 (some .boolean) ∈ jW0 := List.mem_filter.mpr ⟨List.mem_of_getElem? (i := 363) (by decide +kernel), by decide +kernel⟩
def wsX0_hasSite : List Cond := Cond.code yX0_hasSite cX0_hasSite 3 (some .boolean) :: jW0
theorem kX0_hasSite_c : Cond.code yX0_hasSite cX0_hasSite 3 (some .boolean) ∈ jW0 := List.mem_filter.mpr ⟨List.mem_of_getElem? (i := 368) (by decide +kernel), by decide +kernel⟩
def wsL_mutate : List Cond := Cond.codeWith yL_mutate cL_mutate 6 (some .int) [(0, 12, 15, 21), (0, 12, 19, 13)] :: jW0
theorem kL_mutate_c : Cond.codeWith yL_mutate cL_mutate 6 (some .int) [(0, 12, 15, 21), (0, 12, 19, 13)] ∈ jW0 := List.mem_filter.mpr ⟨List.mem_of_getElem? (i := 373) (by decide +kernel), by decide +kernel⟩
def wsX0_mutate : List Cond := Cond.code yX0_mutate cX0_mutate 5 (some .int) :: jW0
theorem kX0_mutate_c : Cond.code yX0_mutate cX0_mutate 5 (some .int) ∈ jW0 := List.mem_filter.mpr ⟨List.mem_of_getElem? (i := 377) (by decide +kernel), by decide +kernel⟩
def wsX0_isSite : List Cond := Cond.code yX0_isSite cX0_isSite 2 (some .boolean) :: jW0
theorem kX0_isSite_c : Cond.code yX0_isSite cX0_isSite 2 (some .boolean) ∈ jW0 := List.mem_filter.mpr ⟨List.mem_of_getElem? (i := 381) (by decide +kernel), by decide +kernel⟩
def wsL_time : List Cond := Cond.codeWith yL_time cL_time 4 (some .int) [(0, 9, 12, 21)] :: jW0
theorem kL_time_c : Cond.codeWith yL_time cL_time 4 (some .int) [(0, 9, 12, 21)] ∈ jW0 := List.mem_filter.mpr ⟨List.mem_of_getElem? (i := 386) (by decide +kernel), by decide +kernel⟩
def wsX0_time : List Cond := Cond.code yX0_time cX0_time 2 (some .int) :: jW0
theorem kX0_time_c : Cond.code yX0_time cX0_time 2 (some .int) ∈ jW0 := List.mem_filter.mpr ⟨List.mem_of_getElem? (i := 390) (by decide +kernel), by decide +kernel⟩
def wsL_edge : List Cond := Cond.codeWith yL_edge cL_edge 5 (some .int) [(0, 10, 13, 21)] :: jW0
theorem kL_edge_c : Cond.codeWith yL_edge cL_edge 5 (some .int) [(0, 10, 13, 21)] ∈ jW0 := List.mem_filter.mpr ⟨List.mem_of_getElem? (i := 394) (by decide +kernel), by decide +kernel⟩
def wsX0_edge : List Cond := Cond.code yX0_edge cX0_edge 6 (some .int) :: jW0
theorem kX0_edge_c : Cond.code yX0_edge cX0_edge 6 (some .int) ∈ jW0 := List.mem_filter.mpr ⟨List.mem_of_getElem? (i := 398) (by decide +kernel), by decide +kernel⟩
def wsX0_findEdge : List Cond := Cond.code yX0_findEdge cX0_findEdge 7 (some .int) :: jW0
theorem kX0_findEdge_c : Cond.code yX0_findEdge cX0_findEdge 7 (some .int) ∈ jW0 := List.mem_filter.mpr ⟨List.mem_of_getElem? (i := 402) (by decide +kernel), by decide +kernel⟩
def wsX0_nextByTime : List Cond := Cond.code yX0_nextByTime cX0_nextByTime 4 (some .int) :: jW0
theorem kX0_nextByTime_c : Cond.code yX0_nextByTime cX0_nextByTime 4 (some .int) ∈ jW0 := List.mem_filter.mpr ⟨List.mem_of_getElem? (i := 406) (by decide +kernel), by decide +kernel⟩
def wsX0_isEarlier : List Cond := Cond.code yX0_isEarlier cX0_isEarlier 3 (some .boolean) :: jW0
theorem kX0_isEarlier_c : Cond.code yX0_isEarlier cX0_isEarlier 3 (some .boolean) ∈ jW0 := List.mem_filter.mpr ⟨List.mem_of_getElem? (i := 410) (by decide +kernel), by decide +kernel⟩
def wsX0_edgeEnd : List Cond := Cond.code yX0_edgeEnd cX0_edgeEnd 4 (some .int) :: jW0
theorem kX0_edgeEnd_c : Cond.code yX0_edgeEnd cX0_edgeEnd 4 (some .int) ∈ jW0 := List.mem_filter.mpr ⟨List.mem_of_getElem? (i := 415) (by decide +kernel), by decide +kernel⟩
def wsL_parent : List Cond := Cond.codeWith yL_parent cL_parent 5 (some .int) [(0, 10, 13, 21)] :: jW0
theorem kL_parent_c : Cond.codeWith yL_parent cL_parent 5 (some .int) [(0, 10, 13, 21)] ∈ jW0 := List.mem_filter.mpr ⟨List.mem_of_getElem? (i := 418) (by decide +kernel), by decide +kernel⟩
def wsX0_parent : List Cond := Cond.code yX0_parent cX0_parent 3 (some .int) :: jW0
theorem kX0_parent_c : Cond.code yX0_parent cX0_parent 3 (some .int) ∈ jW0 := List.mem_filter.mpr ⟨List.mem_of_getElem? (i := 422) (by decide +kernel), by decide +kernel⟩
def wsL_meet : List Cond := Cond.codeWith yL_meet cL_meet 6 (some .int) [(0, 12, 15, 21)] :: jW0
theorem kL_meet_c : Cond.codeWith yL_meet cL_meet 6 (some .int) [(0, 12, 15, 21)] ∈ jW0 := List.mem_filter.mpr ⟨List.mem_of_getElem? (i := 426) (by decide +kernel), by decide +kernel⟩
def wsX0_meet : List Cond := Cond.code yX0_meet cX0_meet 6 (some .int) :: jW0
theorem kX0_meet_c : Cond.code yX0_meet cX0_meet 6 (some .int) ∈ jW0 := List.mem_filter.mpr ⟨List.mem_of_getElem? (i := 430) (by decide +kernel), by decide +kernel⟩
def wsX0_isAtOrAbove : List Cond := Cond.code yX0_isAtOrAbove cX0_isAtOrAbove 6 (some .boolean) :: jW0
theorem kX0_isAtOrAbove_c : Cond.code yX0_isAtOrAbove cX0_isAtOrAbove 6 (some .boolean) ∈ jW0 := List.mem_filter.mpr ⟨List.mem_of_getElem? (i := 434) (by decide +kernel), by decide +kernel⟩
def wsL_cut : List Cond := Cond.codeWith yL_cut cL_cut 4 (some .int) [(0, 9, 12, 21)] :: jW0
theorem kL_cut_c : Cond.codeWith yL_cut cL_cut 4 (some .int) [(0, 9, 12, 21)] ∈ jW0 := List.mem_filter.mpr ⟨List.mem_of_getElem? (i := 437) (by decide +kernel), by decide +kernel⟩
def wsX0_cut : List Cond := Cond.code yX0_cut cX0_cut 4 (some .int) :: jW0
theorem kX0_cut_c : Cond.code yX0_cut cX0_cut 4 (some .int) ∈ jW0 := List.mem_filter.mpr ⟨List.mem_of_getElem? (i := 441) (by decide +kernel), by decide +kernel⟩
def wsL_letter : List Cond := Cond.codeWith yL_letter cL_letter 5 (some .int) [(0, 10, 13, 21)] :: jW0
theorem kL_letter_c : Cond.codeWith yL_letter cL_letter 5 (some .int) [(0, 10, 13, 21)] ∈ jW0 := List.mem_filter.mpr ⟨List.mem_of_getElem? (i := 445) (by decide +kernel), by decide +kernel⟩
def wsX0_letter : List Cond := Cond.code yX0_letter cX0_letter 3 (some .int) :: jW0
theorem kX0_letter_c : Cond.code yX0_letter cX0_letter 3 (some .int) ∈ jW0 := List.mem_filter.mpr ⟨List.mem_of_getElem? (i := 449) (by decide +kernel), by decide +kernel⟩
def wsX1_init : List Cond := Cond.code yX1_init cX1_init 2 none :: jW0
theorem kX1_init_c : Cond.code yX1_init cX1_init 2 none ∈ jW0 := List.mem_filter.mpr ⟨List.mem_of_getElem? (i := 454) (by decide +kernel), by decide +kernel⟩
def wsX1_thrown : List Cond := Cond.code yX1_thrown cX1_thrown 1 (some .int) :: jW0
theorem kX1_thrown_c : Cond.code yX1_thrown cX1_thrown 1 (some .int) ∈ jW0 := List.mem_filter.mpr ⟨List.mem_of_getElem? (i := 508) (by decide +kernel), by decide +kernel⟩
def wsX1_node : List Cond := Cond.code yX1_node cX1_node 4 (some .int) :: jW0
theorem kX1_node_c : Cond.code yX1_node cX1_node 4 (some .int) ∈ jW0 := List.mem_filter.mpr ⟨List.mem_of_getElem? (i := 512) (by decide +kernel), by decide +kernel⟩
def wsX1_refused : List Cond := Cond.code yX1_refused cX1_refused 2 (some .boolean) :: jW0
theorem kX1_refused_c : Cond.code yX1_refused cX1_refused 2 (some .boolean) ∈ jW0 := List.mem_filter.mpr ⟨List.mem_of_getElem? (i := 516) (by decide +kernel), by decide +kernel⟩
def wsX1_join : List Cond := Cond.code yX1_join cX1_join 8 (some .int) :: jW0
theorem kX1_join_c : Cond.code yX1_join cX1_join 8 (some .int) ∈ jW0 := List.mem_filter.mpr ⟨List.mem_of_getElem? (i := 520) (by decide +kernel), by decide +kernel⟩
def wsX1_isRun : List Cond := Cond.code yX1_isRun cX1_isRun 2 (some .boolean) :: jW0
theorem kX1_isRun_c : Cond.code yX1_isRun cX1_isRun 2 (some .boolean) ∈ jW0 := List.mem_filter.mpr ⟨List.mem_of_getElem? (i := 523) (by decide +kernel), by decide +kernel⟩
def wsX1_isNode : List Cond := Cond.code yX1_isNode cX1_isNode 2 (some .boolean) :: jW0
theorem kX1_isNode_c : Cond.code yX1_isNode cX1_isNode 2 (some .boolean) ∈ jW0 := List.mem_filter.mpr ⟨List.mem_of_getElem? (i := 527) (by decide +kernel), by decide +kernel⟩
def wsX1_up : List Cond := Cond.code yX1_up cX1_up 3 (some .int) :: jW0
theorem kX1_up_c : Cond.code yX1_up cX1_up 3 (some .int) ∈ jW0 := List.mem_filter.mpr ⟨List.mem_of_getElem? (i := 531) (by decide +kernel), by decide +kernel⟩
def wsX1_part : List Cond := Cond.code yX1_part cX1_part 6 (some .int) :: jW0
theorem kX1_part_c : Cond.code yX1_part cX1_part 6 (some .int) ∈ jW0 := List.mem_filter.mpr ⟨List.mem_of_getElem? (i := 535) (by decide +kernel), by decide +kernel⟩
def wsX1_site : List Cond := Cond.code yX1_site cX1_site 3 (some .int) :: jW0
theorem kX1_site_c : Cond.code yX1_site cX1_site 3 (some .int) ∈ jW0 := List.mem_filter.mpr ⟨List.mem_of_getElem? (i := 539) (by decide +kernel), by decide +kernel⟩
def wsX1_isPlace : List Cond := Cond.code yX1_isPlace cX1_isPlace 1 (some .boolean) :: jW0
theorem kX1_isPlace_c : Cond.code yX1_isPlace cX1_isPlace 1 (some .boolean) ∈ jW0 := List.mem_filter.mpr ⟨List.mem_of_getElem? (i := 542) (by decide +kernel), by decide +kernel⟩
def wsX1_isTaken : List Cond := Cond.code yX1_isTaken cX1_isTaken 4 (some .boolean) :: jW0
theorem kX1_isTaken_c : Cond.code yX1_isTaken cX1_isTaken 4 (some .boolean) ∈ jW0 := List.mem_filter.mpr ⟨List.mem_of_getElem? (i := 546) (by decide +kernel), by decide +kernel⟩
def wsX1_mutate : List Cond := Cond.code yX1_mutate cX1_mutate 5 (some .int) :: jW0
theorem kX1_mutate_c : Cond.code yX1_mutate cX1_mutate 5 (some .int) ∈ jW0 := List.mem_filter.mpr ⟨List.mem_of_getElem? (i := 550) (by decide +kernel), by decide +kernel⟩
def wsX1_isSite : List Cond := Cond.code yX1_isSite cX1_isSite 2 (some .boolean) :: jW0
theorem kX1_isSite_c : Cond.code yX1_isSite cX1_isSite 2 (some .boolean) ∈ jW0 := List.mem_filter.mpr ⟨List.mem_of_getElem? (i := 554) (by decide +kernel), by decide +kernel⟩
def wsX1_count : List Cond := Cond.code yX1_count cX1_count 5 (some .int) :: jW0
theorem kX1_count_c : Cond.code yX1_count cX1_count 5 (some .int) ∈ jW0 := List.mem_filter.mpr ⟨List.mem_of_getElem? (i := 558) (by decide +kernel), by decide +kernel⟩
def wsX1_samples : List Cond := Cond.code yX1_samples cX1_samples 3 (some .int) :: jW0
theorem kX1_samples_c : Cond.code yX1_samples cX1_samples 3 (some .int) ∈ jW0 := List.mem_filter.mpr ⟨List.mem_of_getElem? (i := 562) (by decide +kernel), by decide +kernel⟩
def wsX1_find : List Cond := Cond.code yX1_find cX1_find 7 (some .int) :: jW0
theorem kX1_find_c : Cond.code yX1_find cX1_find 7 (some .int) ∈ jW0 := List.mem_filter.mpr ⟨List.mem_of_getElem? (i := 566) (by decide +kernel), by decide +kernel⟩
def wsX1_begins : List Cond := Cond.code yX1_begins cX1_begins 3 (some .boolean) :: jW0
theorem kX1_begins_c : Cond.code yX1_begins cX1_begins 3 (some .boolean) ∈ jW0 := List.mem_filter.mpr ⟨List.mem_of_getElem? (i := 570) (by decide +kernel), by decide +kernel⟩
def wsX1_time : List Cond := Cond.code yX1_time cX1_time 2 (some .int) :: jW0
theorem kX1_time_c : Cond.code yX1_time cX1_time 2 (some .int) ∈ jW0 := List.mem_filter.mpr ⟨List.mem_of_getElem? (i := 574) (by decide +kernel), by decide +kernel⟩
def wsX1_edge : List Cond := Cond.code yX1_edge cX1_edge 3 (some .int) :: jW0
theorem kX1_edge_c : Cond.code yX1_edge cX1_edge 3 (some .int) ∈ jW0 := List.mem_filter.mpr ⟨List.mem_of_getElem? (i := 578) (by decide +kernel), by decide +kernel⟩
def wsX1_parent : List Cond := Cond.code yX1_parent cX1_parent 3 (some .int) :: jW0
theorem kX1_parent_c : Cond.code yX1_parent cX1_parent 3 (some .int) ∈ jW0 := List.mem_filter.mpr ⟨List.mem_of_getElem? (i := 582) (by decide +kernel), by decide +kernel⟩
def wsX1_meet : List Cond := Cond.code yX1_meet cX1_meet 5 (some .int) :: jW0
theorem kX1_meet_c : Cond.code yX1_meet cX1_meet 5 (some .int) ∈ jW0 := List.mem_filter.mpr ⟨List.mem_of_getElem? (i := 586) (by decide +kernel), by decide +kernel⟩
def wsX1_holds : List Cond := Cond.code yX1_holds cX1_holds 5 (some .boolean) :: jW0
theorem kX1_holds_c : Cond.code yX1_holds cX1_holds 5 (some .boolean) ∈ jW0 := List.mem_filter.mpr ⟨List.mem_of_getElem? (i := 590) (by decide +kernel), by decide +kernel⟩
def wsX1_trees : List Cond := Cond.code yX1_trees cX1_trees 3 (some .int) :: jW0
theorem kX1_trees_c : Cond.code yX1_trees cX1_trees 3 (some .int) ∈ jW0 := List.mem_filter.mpr ⟨List.mem_of_getElem? (i := 594) (by decide +kernel), by decide +kernel⟩
def wsX1_differs : List Cond := Cond.code yX1_differs cX1_differs 4 (some .boolean) :: jW0
theorem kX1_differs_c : Cond.code yX1_differs cX1_differs 4 (some .boolean) ∈ jW0 := List.mem_filter.mpr ⟨List.mem_of_getElem? (i := 598) (by decide +kernel), by decide +kernel⟩
def wsX1_cut : List Cond := Cond.code yX1_cut cX1_cut 5 (some .int) :: jW0
theorem kX1_cut_c : Cond.code yX1_cut cX1_cut 5 (some .int) ∈ jW0 := List.mem_filter.mpr ⟨List.mem_of_getElem? (i := 602) (by decide +kernel), by decide +kernel⟩
def wsX1_letter : List Cond := Cond.code yX1_letter cX1_letter 3 (some .int) :: jW0
theorem kX1_letter_c : Cond.code yX1_letter cX1_letter 3 (some .int) ∈ jW0 := List.mem_filter.mpr ⟨List.mem_of_getElem? (i := 607) (by decide +kernel), by decide +kernel⟩
def wsX1_letterAt : List Cond := Cond.code yX1_letterAt cX1_letterAt 4 (some .int) :: jW0
theorem kX1_letterAt_c : Cond.code yX1_letterAt cX1_letterAt 4 (some .int) ∈ jW0 := List.mem_filter.mpr ⟨List.mem_of_getElem? (i := 611) (by decide +kernel), by decide +kernel⟩
def wsX1_differing : List Cond := Cond.code yX1_differing cX1_differing 5 (some .int) :: jW0
theorem kX1_differing_c : Cond.code yX1_differing cX1_differing 5 (some .int) ∈ jW0 := List.mem_filter.mpr ⟨List.mem_of_getElem? (i := 615) (by decide +kernel), by decide +kernel⟩
def wsX1_spectrum : List Cond := Cond.code yX1_spectrum cX1_spectrum 7 (some .int) :: jW0
theorem kX1_spectrum_c : Cond.code yX1_spectrum cX1_spectrum 7 (some .int) ∈ jW0 := List.mem_filter.mpr ⟨List.mem_of_getElem? (i := 619) (by decide +kernel), by decide +kernel⟩
def wsX1_area : List Cond := Cond.code yX1_area cX1_area 6 (some .int) :: jW0
theorem kX1_area_c : Cond.code yX1_area cX1_area 6 (some .int) ∈ jW0 := List.mem_filter.mpr ⟨List.mem_of_getElem? (i := 623) (by decide +kernel), by decide +kernel⟩
def wsX1_under : List Cond := Cond.code yX1_under cX1_under 5 (some .int) :: jW0
theorem kX1_under_c : Cond.code yX1_under cX1_under 5 (some .int) ∈ jW0 := List.mem_filter.mpr ⟨List.mem_of_getElem? (i := 627) (by decide +kernel), by decide +kernel⟩
def wsX1_simplify : List Cond := Cond.code yX1_simplify cX1_simplify 5 (some .int) :: jW0
theorem kX1_simplify_c : Cond.code yX1_simplify cX1_simplify 5 (some .int) ∈ jW0 := List.mem_filter.mpr ⟨List.mem_of_getElem? (i := 631) (by decide +kernel), by decide +kernel⟩
def wsX1_stays : List Cond := Cond.code yX1_stays cX1_stays 4 (some .boolean) :: jW0
theorem kX1_stays_c : Cond.code yX1_stays cX1_stays 4 (some .boolean) ∈ jW0 := List.mem_filter.mpr ⟨List.mem_of_getElem? (i := 635) (by decide +kernel), by decide +kernel⟩
def wsX1_isFork : List Cond := Cond.code yX1_isFork cX1_isFork 5 (some .boolean) :: jW0
theorem kX1_isFork_c : Cond.code yX1_isFork cX1_isFork 5 (some .boolean) ∈ jW0 := List.mem_filter.mpr ⟨List.mem_of_getElem? (i := 639) (by decide +kernel), by decide +kernel⟩
def wsX1_matters : List Cond := Cond.code yX1_matters cX1_matters 3 (some .boolean) :: jW0
theorem kX1_matters_c : Cond.code yX1_matters cX1_matters 3 (some .boolean) ∈ jW0 := List.mem_filter.mpr ⟨List.mem_of_getElem? (i := 643) (by decide +kernel), by decide +kernel⟩
def wsX1_nearest : List Cond := Cond.code yX1_nearest cX1_nearest 4 (some .int) :: jW0
theorem kX1_nearest_c : Cond.code yX1_nearest cX1_nearest 4 (some .int) ∈ jW0 := List.mem_filter.mpr ⟨List.mem_of_getElem? (i := 647) (by decide +kernel), by decide +kernel⟩
def wsX1_comes : List Cond := Cond.code yX1_comes cX1_comes 5 (some .int) :: jW0
theorem kX1_comes_c : Cond.code yX1_comes cX1_comes 5 (some .int) ∈ jW0 := List.mem_filter.mpr ⟨List.mem_of_getElem? (i := 651) (by decide +kernel), by decide +kernel⟩
def wsX1_became : List Cond := Cond.code yX1_became cX1_became 2 (some .int) :: jW0
theorem kX1_became_c : Cond.code yX1_became cX1_became 2 (some .int) ∈ jW0 := List.mem_filter.mpr ⟨List.mem_of_getElem? (i := 655) (by decide +kernel), by decide +kernel⟩
def wsJ7_fill : List Cond := Cond.code yJ7_fill cJ7_fill 4 none :: jW0
theorem kJ7_fill_c : Cond.code yJ7_fill cJ7_fill 4 none ∈ jW0 := List.mem_filter.mpr ⟨List.mem_of_getElem? (i := 67) (by decide +kernel), by decide +kernel⟩
theorem kini_X0 : Cond.initialized RX0 ∈ jW0 := List.mem_filter.mpr ⟨List.mem_of_getElem? (i := 47) (by decide +kernel), by decide +kernel⟩
theorem kini_X1 : Cond.initialized RX1 ∈ jW0 := List.mem_filter.mpr ⟨List.mem_of_getElem? (i := 49) (by decide +kernel), by decide +kernel⟩
theorem kini_L : Cond.initialized RL ∈ jW0 := List.mem_filter.mpr ⟨List.mem_of_getElem? (i := 46) (by decide +kernel), by decide +kernel⟩
theorem kini_J7 : Cond.initialized RJ7 ∈ jW0 := List.mem_filter.mpr ⟨List.mem_of_getElem? (i := 48) (by decide +kernel), by decide +kernel⟩
theorem kini_sys : Cond.initialized "java/lang/System" ∈ jW0 := List.mem_filter.mpr ⟨List.mem_of_getElem? (i := 56) (by decide +kernel), by decide +kernel⟩
theorem kX0_init_i : Cond.instanceMethod yX0_init ∈ jW0 := List.mem_filter.mpr ⟨List.mem_of_getElem? (i := 60) (by decide +kernel), by decide +kernel⟩
theorem kX0_count_i : Cond.instanceMethod yX0_count ∈ jW0 := List.mem_filter.mpr ⟨List.mem_of_getElem? (i := 111) (by decide +kernel), by decide +kernel⟩
theorem kX0_count_v : Cond.selects RX0 yX0_count yX0_count ∈ jW0 := List.mem_filter.mpr ⟨List.mem_of_getElem? (i := 112) (by decide +kernel), by decide +kernel⟩
theorem kX0_countSamples_i : Cond.instanceMethod yX0_countSamples ∈ jW0 := List.mem_filter.mpr ⟨List.mem_of_getElem? (i := 116) (by decide +kernel), by decide +kernel⟩
theorem kX0_countSamples_v : Cond.selects RX0 yX0_countSamples yX0_countSamples ∈ jW0 := List.mem_filter.mpr ⟨List.mem_of_getElem? (i := 0) (by decide +kernel), by decide +kernel⟩
theorem kX0_countEdges_i : Cond.instanceMethod yX0_countEdges ∈ jW0 := List.mem_filter.mpr ⟨List.mem_of_getElem? (i := 120) (by decide +kernel), by decide +kernel⟩
theorem kX0_countEdges_v : Cond.selects RX0 yX0_countEdges yX0_countEdges ∈ jW0 := List.mem_filter.mpr ⟨List.mem_of_getElem? (i := 1) (by decide +kernel), by decide +kernel⟩
theorem kX0_startsEdge_i : Cond.instanceMethod yX0_startsEdge ∈ jW0 := List.mem_filter.mpr ⟨List.mem_of_getElem? (i := 124) (by decide +kernel), by decide +kernel⟩
theorem kX0_startsEdge_v : Cond.selects RX0 yX0_startsEdge yX0_startsEdge ∈ jW0 := List.mem_filter.mpr ⟨List.mem_of_getElem? (i := 2) (by decide +kernel), by decide +kernel⟩
theorem kX0_parentAt_i : Cond.instanceMethod yX0_parentAt ∈ jW0 := List.mem_filter.mpr ⟨List.mem_of_getElem? (i := 128) (by decide +kernel), by decide +kernel⟩
theorem kX0_parentAt_v : Cond.selects RX0 yX0_parentAt yX0_parentAt ∈ jW0 := List.mem_filter.mpr ⟨List.mem_of_getElem? (i := 3) (by decide +kernel), by decide +kernel⟩
theorem kX0_countMutations_i : Cond.instanceMethod yX0_countMutations ∈ jW0 := List.mem_filter.mpr ⟨List.mem_of_getElem? (i := 132) (by decide +kernel), by decide +kernel⟩
theorem kX0_countMutations_v : Cond.selects RX0 yX0_countMutations yX0_countMutations ∈ jW0 := List.mem_filter.mpr ⟨List.mem_of_getElem? (i := 4) (by decide +kernel), by decide +kernel⟩
theorem kX0_trees_i : Cond.instanceMethod yX0_trees ∈ jW0 := List.mem_filter.mpr ⟨List.mem_of_getElem? (i := 135) (by decide +kernel), by decide +kernel⟩
theorem kX0_trees_v : Cond.selects RX0 yX0_trees yX0_trees ∈ jW0 := List.mem_filter.mpr ⟨List.mem_of_getElem? (i := 136) (by decide +kernel), by decide +kernel⟩
theorem kX0_startsRun_i : Cond.instanceMethod yX0_startsRun ∈ jW0 := List.mem_filter.mpr ⟨List.mem_of_getElem? (i := 140) (by decide +kernel), by decide +kernel⟩
theorem kX0_startsRun_v : Cond.selects RX0 yX0_startsRun yX0_startsRun ∈ jW0 := List.mem_filter.mpr ⟨List.mem_of_getElem? (i := 5) (by decide +kernel), by decide +kernel⟩
theorem kX0_differing_i : Cond.instanceMethod yX0_differing ∈ jW0 := List.mem_filter.mpr ⟨List.mem_of_getElem? (i := 143) (by decide +kernel), by decide +kernel⟩
theorem kX0_differing_v : Cond.selects RX0 yX0_differing yX0_differing ∈ jW0 := List.mem_filter.mpr ⟨List.mem_of_getElem? (i := 144) (by decide +kernel), by decide +kernel⟩
theorem kX0_tallyLetters_i : Cond.instanceMethod yX0_tallyLetters ∈ jW0 := List.mem_filter.mpr ⟨List.mem_of_getElem? (i := 148) (by decide +kernel), by decide +kernel⟩
theorem kX0_tallyLetters_v : Cond.selects RX0 yX0_tallyLetters yX0_tallyLetters ∈ jW0 := List.mem_filter.mpr ⟨List.mem_of_getElem? (i := 6) (by decide +kernel), by decide +kernel⟩
theorem kX0_letterAt_i : Cond.instanceMethod yX0_letterAt ∈ jW0 := List.mem_filter.mpr ⟨List.mem_of_getElem? (i := 152) (by decide +kernel), by decide +kernel⟩
theorem kX0_letterAt_v : Cond.selects RX0 yX0_letterAt yX0_letterAt ∈ jW0 := List.mem_filter.mpr ⟨List.mem_of_getElem? (i := 7) (by decide +kernel), by decide +kernel⟩
theorem kX0_spectrum_i : Cond.instanceMethod yX0_spectrum ∈ jW0 := List.mem_filter.mpr ⟨List.mem_of_getElem? (i := 155) (by decide +kernel), by decide +kernel⟩
theorem kX0_spectrum_v : Cond.selects RX0 yX0_spectrum yX0_spectrum ∈ jW0 := List.mem_filter.mpr ⟨List.mem_of_getElem? (i := 156) (by decide +kernel), by decide +kernel⟩
theorem kX0_area_i : Cond.instanceMethod yX0_area ∈ jW0 := List.mem_filter.mpr ⟨List.mem_of_getElem? (i := 159) (by decide +kernel), by decide +kernel⟩
theorem kX0_area_v : Cond.selects RX0 yX0_area yX0_area ∈ jW0 := List.mem_filter.mpr ⟨List.mem_of_getElem? (i := 160) (by decide +kernel), by decide +kernel⟩
theorem kX0_countCarried_i : Cond.instanceMethod yX0_countCarried ∈ jW0 := List.mem_filter.mpr ⟨List.mem_of_getElem? (i := 164) (by decide +kernel), by decide +kernel⟩
theorem kX0_countCarried_v : Cond.selects RX0 yX0_countCarried yX0_countCarried ∈ jW0 := List.mem_filter.mpr ⟨List.mem_of_getElem? (i := 8) (by decide +kernel), by decide +kernel⟩
theorem kX0_simplify_i : Cond.instanceMethod yX0_simplify ∈ jW0 := List.mem_filter.mpr ⟨List.mem_of_getElem? (i := 167) (by decide +kernel), by decide +kernel⟩
theorem kX0_simplify_v : Cond.selects RX0 yX0_simplify yX0_simplify ∈ jW0 := List.mem_filter.mpr ⟨List.mem_of_getElem? (i := 168) (by decide +kernel), by decide +kernel⟩
theorem kX0_findMattering_i : Cond.instanceMethod yX0_findMattering ∈ jW0 := List.mem_filter.mpr ⟨List.mem_of_getElem? (i := 172) (by decide +kernel), by decide +kernel⟩
theorem kX0_findMattering_v : Cond.selects RX0 yX0_findMattering yX0_findMattering ∈ jW0 := List.mem_filter.mpr ⟨List.mem_of_getElem? (i := 9) (by decide +kernel), by decide +kernel⟩
theorem kX0_countLiveChildren_i : Cond.instanceMethod yX0_countLiveChildren ∈ jW0 := List.mem_filter.mpr ⟨List.mem_of_getElem? (i := 176) (by decide +kernel), by decide +kernel⟩
theorem kX0_countLiveChildren_v : Cond.selects RX0 yX0_countLiveChildren yX0_countLiveChildren ∈ jW0 := List.mem_filter.mpr ⟨List.mem_of_getElem? (i := 10) (by decide +kernel), by decide +kernel⟩
theorem kX0_renumber_i : Cond.instanceMethod yX0_renumber ∈ jW0 := List.mem_filter.mpr ⟨List.mem_of_getElem? (i := 180) (by decide +kernel), by decide +kernel⟩
theorem kX0_renumber_v : Cond.selects RX0 yX0_renumber yX0_renumber ∈ jW0 := List.mem_filter.mpr ⟨List.mem_of_getElem? (i := 11) (by decide +kernel), by decide +kernel⟩
theorem kX0_moveMutations_i : Cond.instanceMethod yX0_moveMutations ∈ jW0 := List.mem_filter.mpr ⟨List.mem_of_getElem? (i := 184) (by decide +kernel), by decide +kernel⟩
theorem kX0_moveMutations_v : Cond.selects RX0 yX0_moveMutations yX0_moveMutations ∈ jW0 := List.mem_filter.mpr ⟨List.mem_of_getElem? (i := 12) (by decide +kernel), by decide +kernel⟩
theorem kX0_matters_i : Cond.instanceMethod yX0_matters ∈ jW0 := List.mem_filter.mpr ⟨List.mem_of_getElem? (i := 188) (by decide +kernel), by decide +kernel⟩
theorem kX0_matters_v : Cond.selects RX0 yX0_matters yX0_matters ∈ jW0 := List.mem_filter.mpr ⟨List.mem_of_getElem? (i := 13) (by decide +kernel), by decide +kernel⟩
theorem kX0_mutationComingTo_i : Cond.instanceMethod yX0_mutationComingTo ∈ jW0 := List.mem_filter.mpr ⟨List.mem_of_getElem? (i := 192) (by decide +kernel), by decide +kernel⟩
theorem kX0_mutationComingTo_v : Cond.selects RX0 yX0_mutationComingTo yX0_mutationComingTo ∈ jW0 := List.mem_filter.mpr ⟨List.mem_of_getElem? (i := 14) (by decide +kernel), by decide +kernel⟩
theorem kX0_moveParents_i : Cond.instanceMethod yX0_moveParents ∈ jW0 := List.mem_filter.mpr ⟨List.mem_of_getElem? (i := 199) (by decide +kernel), by decide +kernel⟩
theorem kX0_moveParents_v : Cond.selects RX0 yX0_moveParents yX0_moveParents ∈ jW0 := List.mem_filter.mpr ⟨List.mem_of_getElem? (i := 15) (by decide +kernel), by decide +kernel⟩
theorem kX0_nearestMatteringAbove_i : Cond.instanceMethod yX0_nearestMatteringAbove ∈ jW0 := List.mem_filter.mpr ⟨List.mem_of_getElem? (i := 203) (by decide +kernel), by decide +kernel⟩
theorem kX0_nearestMatteringAbove_v : Cond.selects RX0 yX0_nearestMatteringAbove yX0_nearestMatteringAbove ∈ jW0 := List.mem_filter.mpr ⟨List.mem_of_getElem? (i := 16) (by decide +kernel), by decide +kernel⟩
theorem kX0_moveNodes_i : Cond.instanceMethod yX0_moveNodes ∈ jW0 := List.mem_filter.mpr ⟨List.mem_of_getElem? (i := 207) (by decide +kernel), by decide +kernel⟩
theorem kX0_moveNodes_v : Cond.selects RX0 yX0_moveNodes yX0_moveNodes ∈ jW0 := List.mem_filter.mpr ⟨List.mem_of_getElem? (i := 17) (by decide +kernel), by decide +kernel⟩
theorem kX0_became_i : Cond.instanceMethod yX0_became ∈ jW0 := List.mem_filter.mpr ⟨List.mem_of_getElem? (i := 210) (by decide +kernel), by decide +kernel⟩
theorem kX0_became_v : Cond.selects RX0 yX0_became yX0_became ∈ jW0 := List.mem_filter.mpr ⟨List.mem_of_getElem? (i := 211) (by decide +kernel), by decide +kernel⟩
theorem kL_node_s : Cond.static yL_node ∈ jW0 := List.mem_filter.mpr ⟨List.mem_of_getElem? (i := 214) (by decide +kernel), by decide +kernel⟩
theorem kX0_node_i : Cond.instanceMethod yX0_node ∈ jW0 := List.mem_filter.mpr ⟨List.mem_of_getElem? (i := 219) (by decide +kernel), by decide +kernel⟩
theorem kX0_node_v : Cond.selects RX0 yX0_node yX0_node ∈ jW0 := List.mem_filter.mpr ⟨List.mem_of_getElem? (i := 220) (by decide +kernel), by decide +kernel⟩
theorem kL_join_s : Cond.static yL_join ∈ jW0 := List.mem_filter.mpr ⟨List.mem_of_getElem? (i := 307) (by decide +kernel), by decide +kernel⟩
theorem kX0_join_i : Cond.instanceMethod yX0_join ∈ jW0 := List.mem_filter.mpr ⟨List.mem_of_getElem? (i := 311) (by decide +kernel), by decide +kernel⟩
theorem kX0_join_v : Cond.selects RX0 yX0_join yX0_join ∈ jW0 := List.mem_filter.mpr ⟨List.mem_of_getElem? (i := 312) (by decide +kernel), by decide +kernel⟩
theorem kX0_isRun_s : Cond.static yX0_isRun ∈ jW0 := List.mem_filter.mpr ⟨List.mem_of_getElem? (i := 315) (by decide +kernel), by decide +kernel⟩
theorem kX0_isNode_i : Cond.instanceMethod yX0_isNode ∈ jW0 := List.mem_filter.mpr ⟨List.mem_of_getElem? (i := 319) (by decide +kernel), by decide +kernel⟩
theorem kX0_isNode_v : Cond.selects RX0 yX0_isNode yX0_isNode ∈ jW0 := List.mem_filter.mpr ⟨List.mem_of_getElem? (i := 19) (by decide +kernel), by decide +kernel⟩
theorem kX0_hasParentBeside_i : Cond.instanceMethod yX0_hasParentBeside ∈ jW0 := List.mem_filter.mpr ⟨List.mem_of_getElem? (i := 340) (by decide +kernel), by decide +kernel⟩
theorem kX0_hasParentBeside_v : Cond.selects RX0 yX0_hasParentBeside yX0_hasParentBeside ∈ jW0 := List.mem_filter.mpr ⟨List.mem_of_getElem? (i := 20) (by decide +kernel), by decide +kernel⟩
theorem kX0_setParents_i : Cond.instanceMethod yX0_setParents ∈ jW0 := List.mem_filter.mpr ⟨List.mem_of_getElem? (i := 345) (by decide +kernel), by decide +kernel⟩
theorem kX0_setParents_v : Cond.selects RX0 yX0_setParents yX0_setParents ∈ jW0 := List.mem_filter.mpr ⟨List.mem_of_getElem? (i := 21) (by decide +kernel), by decide +kernel⟩
theorem kL_part_s : Cond.static yL_part ∈ jW0 := List.mem_filter.mpr ⟨List.mem_of_getElem? (i := 348) (by decide +kernel), by decide +kernel⟩
theorem kX0_part_i : Cond.instanceMethod yX0_part ∈ jW0 := List.mem_filter.mpr ⟨List.mem_of_getElem? (i := 351) (by decide +kernel), by decide +kernel⟩
theorem kX0_part_v : Cond.selects RX0 yX0_part yX0_part ∈ jW0 := List.mem_filter.mpr ⟨List.mem_of_getElem? (i := 352) (by decide +kernel), by decide +kernel⟩
theorem kL_site_s : Cond.static yL_site ∈ jW0 := List.mem_filter.mpr ⟨List.mem_of_getElem? (i := 355) (by decide +kernel), by decide +kernel⟩
theorem kX0_site_i : Cond.instanceMethod yX0_site ∈ jW0 := List.mem_filter.mpr ⟨List.mem_of_getElem? (i := 358) (by decide +kernel), by decide +kernel⟩
theorem kX0_site_v : Cond.selects RX0 yX0_site yX0_site ∈ jW0 := List.mem_filter.mpr ⟨List.mem_of_getElem? (i := 359) (by decide +kernel), by decide +kernel⟩
theorem kX0_isPlace_s : Cond.static yX0_isPlace ∈ jW0 := List.mem_filter.mpr ⟨List.mem_of_getElem? (i := 362) (by decide +kernel), by decide +kernel⟩
theorem kX0_hasSite_i : Cond.instanceMethod yX0_hasSite ∈ jW0 := List.mem_filter.mpr ⟨List.mem_of_getElem? (i := 367) (by decide +kernel), by decide +kernel⟩
theorem kX0_hasSite_v : Cond.selects RX0 yX0_hasSite yX0_hasSite ∈ jW0 := List.mem_filter.mpr ⟨List.mem_of_getElem? (i := 22) (by decide +kernel), by decide +kernel⟩
theorem kL_mutate_s : Cond.static yL_mutate ∈ jW0 := List.mem_filter.mpr ⟨List.mem_of_getElem? (i := 372) (by decide +kernel), by decide +kernel⟩
theorem kX0_mutate_i : Cond.instanceMethod yX0_mutate ∈ jW0 := List.mem_filter.mpr ⟨List.mem_of_getElem? (i := 375) (by decide +kernel), by decide +kernel⟩
theorem kX0_mutate_v : Cond.selects RX0 yX0_mutate yX0_mutate ∈ jW0 := List.mem_filter.mpr ⟨List.mem_of_getElem? (i := 376) (by decide +kernel), by decide +kernel⟩
theorem kX0_isSite_i : Cond.instanceMethod yX0_isSite ∈ jW0 := List.mem_filter.mpr ⟨List.mem_of_getElem? (i := 380) (by decide +kernel), by decide +kernel⟩
theorem kX0_isSite_v : Cond.selects RX0 yX0_isSite yX0_isSite ∈ jW0 := List.mem_filter.mpr ⟨List.mem_of_getElem? (i := 23) (by decide +kernel), by decide +kernel⟩
theorem kL_time_s : Cond.static yL_time ∈ jW0 := List.mem_filter.mpr ⟨List.mem_of_getElem? (i := 385) (by decide +kernel), by decide +kernel⟩
theorem kX0_time_i : Cond.instanceMethod yX0_time ∈ jW0 := List.mem_filter.mpr ⟨List.mem_of_getElem? (i := 388) (by decide +kernel), by decide +kernel⟩
theorem kX0_time_v : Cond.selects RX0 yX0_time yX0_time ∈ jW0 := List.mem_filter.mpr ⟨List.mem_of_getElem? (i := 389) (by decide +kernel), by decide +kernel⟩
theorem kL_edge_s : Cond.static yL_edge ∈ jW0 := List.mem_filter.mpr ⟨List.mem_of_getElem? (i := 393) (by decide +kernel), by decide +kernel⟩
theorem kX0_edge_i : Cond.instanceMethod yX0_edge ∈ jW0 := List.mem_filter.mpr ⟨List.mem_of_getElem? (i := 396) (by decide +kernel), by decide +kernel⟩
theorem kX0_edge_v : Cond.selects RX0 yX0_edge yX0_edge ∈ jW0 := List.mem_filter.mpr ⟨List.mem_of_getElem? (i := 397) (by decide +kernel), by decide +kernel⟩
theorem kX0_findEdge_i : Cond.instanceMethod yX0_findEdge ∈ jW0 := List.mem_filter.mpr ⟨List.mem_of_getElem? (i := 401) (by decide +kernel), by decide +kernel⟩
theorem kX0_findEdge_v : Cond.selects RX0 yX0_findEdge yX0_findEdge ∈ jW0 := List.mem_filter.mpr ⟨List.mem_of_getElem? (i := 24) (by decide +kernel), by decide +kernel⟩
theorem kX0_nextByTime_i : Cond.instanceMethod yX0_nextByTime ∈ jW0 := List.mem_filter.mpr ⟨List.mem_of_getElem? (i := 405) (by decide +kernel), by decide +kernel⟩
theorem kX0_nextByTime_v : Cond.selects RX0 yX0_nextByTime yX0_nextByTime ∈ jW0 := List.mem_filter.mpr ⟨List.mem_of_getElem? (i := 25) (by decide +kernel), by decide +kernel⟩
theorem kX0_isEarlier_i : Cond.instanceMethod yX0_isEarlier ∈ jW0 := List.mem_filter.mpr ⟨List.mem_of_getElem? (i := 409) (by decide +kernel), by decide +kernel⟩
theorem kX0_isEarlier_v : Cond.selects RX0 yX0_isEarlier yX0_isEarlier ∈ jW0 := List.mem_filter.mpr ⟨List.mem_of_getElem? (i := 26) (by decide +kernel), by decide +kernel⟩
theorem kX0_edgeEnd_i : Cond.instanceMethod yX0_edgeEnd ∈ jW0 := List.mem_filter.mpr ⟨List.mem_of_getElem? (i := 414) (by decide +kernel), by decide +kernel⟩
theorem kX0_edgeEnd_v : Cond.selects RX0 yX0_edgeEnd yX0_edgeEnd ∈ jW0 := List.mem_filter.mpr ⟨List.mem_of_getElem? (i := 27) (by decide +kernel), by decide +kernel⟩
theorem kL_parent_s : Cond.static yL_parent ∈ jW0 := List.mem_filter.mpr ⟨List.mem_of_getElem? (i := 417) (by decide +kernel), by decide +kernel⟩
theorem kX0_parent_i : Cond.instanceMethod yX0_parent ∈ jW0 := List.mem_filter.mpr ⟨List.mem_of_getElem? (i := 420) (by decide +kernel), by decide +kernel⟩
theorem kX0_parent_v : Cond.selects RX0 yX0_parent yX0_parent ∈ jW0 := List.mem_filter.mpr ⟨List.mem_of_getElem? (i := 421) (by decide +kernel), by decide +kernel⟩
theorem kL_meet_s : Cond.static yL_meet ∈ jW0 := List.mem_filter.mpr ⟨List.mem_of_getElem? (i := 425) (by decide +kernel), by decide +kernel⟩
theorem kX0_meet_i : Cond.instanceMethod yX0_meet ∈ jW0 := List.mem_filter.mpr ⟨List.mem_of_getElem? (i := 428) (by decide +kernel), by decide +kernel⟩
theorem kX0_meet_v : Cond.selects RX0 yX0_meet yX0_meet ∈ jW0 := List.mem_filter.mpr ⟨List.mem_of_getElem? (i := 429) (by decide +kernel), by decide +kernel⟩
theorem kX0_isAtOrAbove_i : Cond.instanceMethod yX0_isAtOrAbove ∈ jW0 := List.mem_filter.mpr ⟨List.mem_of_getElem? (i := 433) (by decide +kernel), by decide +kernel⟩
theorem kX0_isAtOrAbove_v : Cond.selects RX0 yX0_isAtOrAbove yX0_isAtOrAbove ∈ jW0 := List.mem_filter.mpr ⟨List.mem_of_getElem? (i := 28) (by decide +kernel), by decide +kernel⟩
theorem kL_cut_s : Cond.static yL_cut ∈ jW0 := List.mem_filter.mpr ⟨List.mem_of_getElem? (i := 436) (by decide +kernel), by decide +kernel⟩
theorem kX0_cut_i : Cond.instanceMethod yX0_cut ∈ jW0 := List.mem_filter.mpr ⟨List.mem_of_getElem? (i := 439) (by decide +kernel), by decide +kernel⟩
theorem kX0_cut_v : Cond.selects RX0 yX0_cut yX0_cut ∈ jW0 := List.mem_filter.mpr ⟨List.mem_of_getElem? (i := 440) (by decide +kernel), by decide +kernel⟩
theorem kL_letter_s : Cond.static yL_letter ∈ jW0 := List.mem_filter.mpr ⟨List.mem_of_getElem? (i := 444) (by decide +kernel), by decide +kernel⟩
theorem kX0_letter_i : Cond.instanceMethod yX0_letter ∈ jW0 := List.mem_filter.mpr ⟨List.mem_of_getElem? (i := 447) (by decide +kernel), by decide +kernel⟩
theorem kX0_letter_v : Cond.selects RX0 yX0_letter yX0_letter ∈ jW0 := List.mem_filter.mpr ⟨List.mem_of_getElem? (i := 448) (by decide +kernel), by decide +kernel⟩
theorem kX1_init_i : Cond.instanceMethod yX1_init ∈ jW0 := List.mem_filter.mpr ⟨List.mem_of_getElem? (i := 453) (by decide +kernel), by decide +kernel⟩
theorem kX1_thrown_i : Cond.instanceMethod yX1_thrown ∈ jW0 := List.mem_filter.mpr ⟨List.mem_of_getElem? (i := 506) (by decide +kernel), by decide +kernel⟩
theorem kX1_thrown_v : Cond.selects RX1 yX1_thrown yX1_thrown ∈ jW0 := List.mem_filter.mpr ⟨List.mem_of_getElem? (i := 507) (by decide +kernel), by decide +kernel⟩
theorem kX1_node_i : Cond.instanceMethod yX1_node ∈ jW0 := List.mem_filter.mpr ⟨List.mem_of_getElem? (i := 510) (by decide +kernel), by decide +kernel⟩
theorem kX1_node_v : Cond.selects RX1 yX1_node yX1_node ∈ jW0 := List.mem_filter.mpr ⟨List.mem_of_getElem? (i := 511) (by decide +kernel), by decide +kernel⟩
theorem kX1_refused_i : Cond.instanceMethod yX1_refused ∈ jW0 := List.mem_filter.mpr ⟨List.mem_of_getElem? (i := 515) (by decide +kernel), by decide +kernel⟩
theorem kX1_refused_v : Cond.selects RX1 yX1_refused yX1_refused ∈ jW0 := List.mem_filter.mpr ⟨List.mem_of_getElem? (i := 29) (by decide +kernel), by decide +kernel⟩
theorem kX1_join_i : Cond.instanceMethod yX1_join ∈ jW0 := List.mem_filter.mpr ⟨List.mem_of_getElem? (i := 518) (by decide +kernel), by decide +kernel⟩
theorem kX1_join_v : Cond.selects RX1 yX1_join yX1_join ∈ jW0 := List.mem_filter.mpr ⟨List.mem_of_getElem? (i := 519) (by decide +kernel), by decide +kernel⟩
theorem kX1_isRun_s : Cond.static yX1_isRun ∈ jW0 := List.mem_filter.mpr ⟨List.mem_of_getElem? (i := 522) (by decide +kernel), by decide +kernel⟩
theorem kX1_isNode_i : Cond.instanceMethod yX1_isNode ∈ jW0 := List.mem_filter.mpr ⟨List.mem_of_getElem? (i := 526) (by decide +kernel), by decide +kernel⟩
theorem kX1_isNode_v : Cond.selects RX1 yX1_isNode yX1_isNode ∈ jW0 := List.mem_filter.mpr ⟨List.mem_of_getElem? (i := 30) (by decide +kernel), by decide +kernel⟩
theorem kX1_up_i : Cond.instanceMethod yX1_up ∈ jW0 := List.mem_filter.mpr ⟨List.mem_of_getElem? (i := 530) (by decide +kernel), by decide +kernel⟩
theorem kX1_up_v : Cond.selects RX1 yX1_up yX1_up ∈ jW0 := List.mem_filter.mpr ⟨List.mem_of_getElem? (i := 31) (by decide +kernel), by decide +kernel⟩
theorem kX1_part_i : Cond.instanceMethod yX1_part ∈ jW0 := List.mem_filter.mpr ⟨List.mem_of_getElem? (i := 533) (by decide +kernel), by decide +kernel⟩
theorem kX1_part_v : Cond.selects RX1 yX1_part yX1_part ∈ jW0 := List.mem_filter.mpr ⟨List.mem_of_getElem? (i := 534) (by decide +kernel), by decide +kernel⟩
theorem kX1_site_i : Cond.instanceMethod yX1_site ∈ jW0 := List.mem_filter.mpr ⟨List.mem_of_getElem? (i := 537) (by decide +kernel), by decide +kernel⟩
theorem kX1_site_v : Cond.selects RX1 yX1_site yX1_site ∈ jW0 := List.mem_filter.mpr ⟨List.mem_of_getElem? (i := 538) (by decide +kernel), by decide +kernel⟩
theorem kX1_isPlace_s : Cond.static yX1_isPlace ∈ jW0 := List.mem_filter.mpr ⟨List.mem_of_getElem? (i := 541) (by decide +kernel), by decide +kernel⟩
theorem kX1_isTaken_i : Cond.instanceMethod yX1_isTaken ∈ jW0 := List.mem_filter.mpr ⟨List.mem_of_getElem? (i := 545) (by decide +kernel), by decide +kernel⟩
theorem kX1_isTaken_v : Cond.selects RX1 yX1_isTaken yX1_isTaken ∈ jW0 := List.mem_filter.mpr ⟨List.mem_of_getElem? (i := 32) (by decide +kernel), by decide +kernel⟩
theorem kX1_mutate_i : Cond.instanceMethod yX1_mutate ∈ jW0 := List.mem_filter.mpr ⟨List.mem_of_getElem? (i := 548) (by decide +kernel), by decide +kernel⟩
theorem kX1_mutate_v : Cond.selects RX1 yX1_mutate yX1_mutate ∈ jW0 := List.mem_filter.mpr ⟨List.mem_of_getElem? (i := 549) (by decide +kernel), by decide +kernel⟩
theorem kX1_isSite_i : Cond.instanceMethod yX1_isSite ∈ jW0 := List.mem_filter.mpr ⟨List.mem_of_getElem? (i := 553) (by decide +kernel), by decide +kernel⟩
theorem kX1_isSite_v : Cond.selects RX1 yX1_isSite yX1_isSite ∈ jW0 := List.mem_filter.mpr ⟨List.mem_of_getElem? (i := 33) (by decide +kernel), by decide +kernel⟩
theorem kX1_count_i : Cond.instanceMethod yX1_count ∈ jW0 := List.mem_filter.mpr ⟨List.mem_of_getElem? (i := 556) (by decide +kernel), by decide +kernel⟩
theorem kX1_count_v : Cond.selects RX1 yX1_count yX1_count ∈ jW0 := List.mem_filter.mpr ⟨List.mem_of_getElem? (i := 557) (by decide +kernel), by decide +kernel⟩
theorem kX1_samples_i : Cond.instanceMethod yX1_samples ∈ jW0 := List.mem_filter.mpr ⟨List.mem_of_getElem? (i := 561) (by decide +kernel), by decide +kernel⟩
theorem kX1_samples_v : Cond.selects RX1 yX1_samples yX1_samples ∈ jW0 := List.mem_filter.mpr ⟨List.mem_of_getElem? (i := 34) (by decide +kernel), by decide +kernel⟩
theorem kX1_find_i : Cond.instanceMethod yX1_find ∈ jW0 := List.mem_filter.mpr ⟨List.mem_of_getElem? (i := 565) (by decide +kernel), by decide +kernel⟩
theorem kX1_find_v : Cond.selects RX1 yX1_find yX1_find ∈ jW0 := List.mem_filter.mpr ⟨List.mem_of_getElem? (i := 35) (by decide +kernel), by decide +kernel⟩
theorem kX1_begins_i : Cond.instanceMethod yX1_begins ∈ jW0 := List.mem_filter.mpr ⟨List.mem_of_getElem? (i := 569) (by decide +kernel), by decide +kernel⟩
theorem kX1_begins_v : Cond.selects RX1 yX1_begins yX1_begins ∈ jW0 := List.mem_filter.mpr ⟨List.mem_of_getElem? (i := 36) (by decide +kernel), by decide +kernel⟩
theorem kX1_time_i : Cond.instanceMethod yX1_time ∈ jW0 := List.mem_filter.mpr ⟨List.mem_of_getElem? (i := 572) (by decide +kernel), by decide +kernel⟩
theorem kX1_time_v : Cond.selects RX1 yX1_time yX1_time ∈ jW0 := List.mem_filter.mpr ⟨List.mem_of_getElem? (i := 573) (by decide +kernel), by decide +kernel⟩
theorem kX1_edge_i : Cond.instanceMethod yX1_edge ∈ jW0 := List.mem_filter.mpr ⟨List.mem_of_getElem? (i := 576) (by decide +kernel), by decide +kernel⟩
theorem kX1_edge_v : Cond.selects RX1 yX1_edge yX1_edge ∈ jW0 := List.mem_filter.mpr ⟨List.mem_of_getElem? (i := 577) (by decide +kernel), by decide +kernel⟩
theorem kX1_parent_i : Cond.instanceMethod yX1_parent ∈ jW0 := List.mem_filter.mpr ⟨List.mem_of_getElem? (i := 580) (by decide +kernel), by decide +kernel⟩
theorem kX1_parent_v : Cond.selects RX1 yX1_parent yX1_parent ∈ jW0 := List.mem_filter.mpr ⟨List.mem_of_getElem? (i := 581) (by decide +kernel), by decide +kernel⟩
theorem kX1_meet_i : Cond.instanceMethod yX1_meet ∈ jW0 := List.mem_filter.mpr ⟨List.mem_of_getElem? (i := 584) (by decide +kernel), by decide +kernel⟩
theorem kX1_meet_v : Cond.selects RX1 yX1_meet yX1_meet ∈ jW0 := List.mem_filter.mpr ⟨List.mem_of_getElem? (i := 585) (by decide +kernel), by decide +kernel⟩
theorem kX1_holds_i : Cond.instanceMethod yX1_holds ∈ jW0 := List.mem_filter.mpr ⟨List.mem_of_getElem? (i := 589) (by decide +kernel), by decide +kernel⟩
theorem kX1_holds_v : Cond.selects RX1 yX1_holds yX1_holds ∈ jW0 := List.mem_filter.mpr ⟨List.mem_of_getElem? (i := 37) (by decide +kernel), by decide +kernel⟩
theorem kX1_trees_i : Cond.instanceMethod yX1_trees ∈ jW0 := List.mem_filter.mpr ⟨List.mem_of_getElem? (i := 592) (by decide +kernel), by decide +kernel⟩
theorem kX1_trees_v : Cond.selects RX1 yX1_trees yX1_trees ∈ jW0 := List.mem_filter.mpr ⟨List.mem_of_getElem? (i := 593) (by decide +kernel), by decide +kernel⟩
theorem kX1_differs_i : Cond.instanceMethod yX1_differs ∈ jW0 := List.mem_filter.mpr ⟨List.mem_of_getElem? (i := 597) (by decide +kernel), by decide +kernel⟩
theorem kX1_differs_v : Cond.selects RX1 yX1_differs yX1_differs ∈ jW0 := List.mem_filter.mpr ⟨List.mem_of_getElem? (i := 38) (by decide +kernel), by decide +kernel⟩
theorem kX1_cut_i : Cond.instanceMethod yX1_cut ∈ jW0 := List.mem_filter.mpr ⟨List.mem_of_getElem? (i := 600) (by decide +kernel), by decide +kernel⟩
theorem kX1_cut_v : Cond.selects RX1 yX1_cut yX1_cut ∈ jW0 := List.mem_filter.mpr ⟨List.mem_of_getElem? (i := 601) (by decide +kernel), by decide +kernel⟩
theorem kX1_letter_i : Cond.instanceMethod yX1_letter ∈ jW0 := List.mem_filter.mpr ⟨List.mem_of_getElem? (i := 605) (by decide +kernel), by decide +kernel⟩
theorem kX1_letter_v : Cond.selects RX1 yX1_letter yX1_letter ∈ jW0 := List.mem_filter.mpr ⟨List.mem_of_getElem? (i := 606) (by decide +kernel), by decide +kernel⟩
theorem kX1_letterAt_i : Cond.instanceMethod yX1_letterAt ∈ jW0 := List.mem_filter.mpr ⟨List.mem_of_getElem? (i := 610) (by decide +kernel), by decide +kernel⟩
theorem kX1_letterAt_v : Cond.selects RX1 yX1_letterAt yX1_letterAt ∈ jW0 := List.mem_filter.mpr ⟨List.mem_of_getElem? (i := 39) (by decide +kernel), by decide +kernel⟩
theorem kX1_differing_i : Cond.instanceMethod yX1_differing ∈ jW0 := List.mem_filter.mpr ⟨List.mem_of_getElem? (i := 613) (by decide +kernel), by decide +kernel⟩
theorem kX1_differing_v : Cond.selects RX1 yX1_differing yX1_differing ∈ jW0 := List.mem_filter.mpr ⟨List.mem_of_getElem? (i := 614) (by decide +kernel), by decide +kernel⟩
theorem kX1_spectrum_i : Cond.instanceMethod yX1_spectrum ∈ jW0 := List.mem_filter.mpr ⟨List.mem_of_getElem? (i := 617) (by decide +kernel), by decide +kernel⟩
theorem kX1_spectrum_v : Cond.selects RX1 yX1_spectrum yX1_spectrum ∈ jW0 := List.mem_filter.mpr ⟨List.mem_of_getElem? (i := 618) (by decide +kernel), by decide +kernel⟩
theorem kX1_area_i : Cond.instanceMethod yX1_area ∈ jW0 := List.mem_filter.mpr ⟨List.mem_of_getElem? (i := 621) (by decide +kernel), by decide +kernel⟩
theorem kX1_area_v : Cond.selects RX1 yX1_area yX1_area ∈ jW0 := List.mem_filter.mpr ⟨List.mem_of_getElem? (i := 622) (by decide +kernel), by decide +kernel⟩
theorem kX1_under_i : Cond.instanceMethod yX1_under ∈ jW0 := List.mem_filter.mpr ⟨List.mem_of_getElem? (i := 626) (by decide +kernel), by decide +kernel⟩
theorem kX1_under_v : Cond.selects RX1 yX1_under yX1_under ∈ jW0 := List.mem_filter.mpr ⟨List.mem_of_getElem? (i := 40) (by decide +kernel), by decide +kernel⟩
theorem kX1_simplify_i : Cond.instanceMethod yX1_simplify ∈ jW0 := List.mem_filter.mpr ⟨List.mem_of_getElem? (i := 629) (by decide +kernel), by decide +kernel⟩
theorem kX1_simplify_v : Cond.selects RX1 yX1_simplify yX1_simplify ∈ jW0 := List.mem_filter.mpr ⟨List.mem_of_getElem? (i := 630) (by decide +kernel), by decide +kernel⟩
theorem kX1_stays_i : Cond.instanceMethod yX1_stays ∈ jW0 := List.mem_filter.mpr ⟨List.mem_of_getElem? (i := 634) (by decide +kernel), by decide +kernel⟩
theorem kX1_stays_v : Cond.selects RX1 yX1_stays yX1_stays ∈ jW0 := List.mem_filter.mpr ⟨List.mem_of_getElem? (i := 41) (by decide +kernel), by decide +kernel⟩
theorem kX1_isFork_i : Cond.instanceMethod yX1_isFork ∈ jW0 := List.mem_filter.mpr ⟨List.mem_of_getElem? (i := 638) (by decide +kernel), by decide +kernel⟩
theorem kX1_isFork_v : Cond.selects RX1 yX1_isFork yX1_isFork ∈ jW0 := List.mem_filter.mpr ⟨List.mem_of_getElem? (i := 42) (by decide +kernel), by decide +kernel⟩
theorem kX1_matters_i : Cond.instanceMethod yX1_matters ∈ jW0 := List.mem_filter.mpr ⟨List.mem_of_getElem? (i := 642) (by decide +kernel), by decide +kernel⟩
theorem kX1_matters_v : Cond.selects RX1 yX1_matters yX1_matters ∈ jW0 := List.mem_filter.mpr ⟨List.mem_of_getElem? (i := 43) (by decide +kernel), by decide +kernel⟩
theorem kX1_nearest_i : Cond.instanceMethod yX1_nearest ∈ jW0 := List.mem_filter.mpr ⟨List.mem_of_getElem? (i := 646) (by decide +kernel), by decide +kernel⟩
theorem kX1_nearest_v : Cond.selects RX1 yX1_nearest yX1_nearest ∈ jW0 := List.mem_filter.mpr ⟨List.mem_of_getElem? (i := 44) (by decide +kernel), by decide +kernel⟩
theorem kX1_comes_i : Cond.instanceMethod yX1_comes ∈ jW0 := List.mem_filter.mpr ⟨List.mem_of_getElem? (i := 650) (by decide +kernel), by decide +kernel⟩
theorem kX1_comes_v : Cond.selects RX1 yX1_comes yX1_comes ∈ jW0 := List.mem_filter.mpr ⟨List.mem_of_getElem? (i := 45) (by decide +kernel), by decide +kernel⟩
theorem kX1_became_i : Cond.instanceMethod yX1_became ∈ jW0 := List.mem_filter.mpr ⟨List.mem_of_getElem? (i := 653) (by decide +kernel), by decide +kernel⟩
theorem kX1_became_v : Cond.selects RX1 yX1_became yX1_became ∈ jW0 := List.mem_filter.mpr ⟨List.mem_of_getElem? (i := 654) (by decide +kernel), by decide +kernel⟩
theorem kJ7_fill_s : Cond.static yJ7_fill ∈ jW0 := List.mem_filter.mpr ⟨List.mem_of_getElem? (i := 66) (by decide +kernel), by decide +kernel⟩
theorem kcL_8 : Cond.classLink RL 8 RX0 ∈ jW0 := List.mem_filter.mpr ⟨List.mem_of_getElem? (i := 57) (by decide +kernel), by decide +kernel⟩
theorem klL_53 : Cond.methodLink RL 53 yX0_init ∈ jW0 := List.mem_filter.mpr ⟨List.mem_of_getElem? (i := 59) (by decide +kernel), by decide +kernel⟩
theorem klX0_1 : Cond.methodLink RX0 1 objectInit ∈ jW0 := List.mem_filter.mpr ⟨List.mem_of_getElem? (i := 62) (by decide +kernel), by decide +kernel⟩
theorem klX0_51 : Cond.methodLink RX0 51 yJ7_fill ∈ jW0 := List.mem_filter.mpr ⟨List.mem_of_getElem? (i := 65) (by decide +kernel), by decide +kernel⟩
theorem kfX0_7 : Cond.fieldLink RX0 7 "LineageTables" "nodeCount" "I" ∈ jW0 := List.mem_filter.mpr ⟨List.mem_of_getElem? (i := 68) (by decide +kernel), by decide +kernel⟩
theorem kfX0_13 : Cond.fieldLink RX0 13 "LineageTables" "times" "[I" ∈ jW0 := List.mem_filter.mpr ⟨List.mem_of_getElem? (i := 69) (by decide +kernel), by decide +kernel⟩
theorem kfX0_17 : Cond.fieldLink RX0 17 "LineageTables" "samples" "[Z" ∈ jW0 := List.mem_filter.mpr ⟨List.mem_of_getElem? (i := 70) (by decide +kernel), by decide +kernel⟩
theorem kfX0_21 : Cond.fieldLink RX0 21 "LineageTables" "parents" "[I" ∈ jW0 := List.mem_filter.mpr ⟨List.mem_of_getElem? (i := 71) (by decide +kernel), by decide +kernel⟩
theorem kfX0_24 : Cond.fieldLink RX0 24 "LineageTables" "siteCount" "I" ∈ jW0 := List.mem_filter.mpr ⟨List.mem_of_getElem? (i := 72) (by decide +kernel), by decide +kernel⟩
theorem kfX0_27 : Cond.fieldLink RX0 27 "LineageTables" "sitePlaces" "[I" ∈ jW0 := List.mem_filter.mpr ⟨List.mem_of_getElem? (i := 73) (by decide +kernel), by decide +kernel⟩
theorem kfX0_30 : Cond.fieldLink RX0 30 "LineageTables" "ancestrals" "[I" ∈ jW0 := List.mem_filter.mpr ⟨List.mem_of_getElem? (i := 74) (by decide +kernel), by decide +kernel⟩
theorem kfX0_33 : Cond.fieldLink RX0 33 "LineageTables" "mutations" "[I" ∈ jW0 := List.mem_filter.mpr ⟨List.mem_of_getElem? (i := 75) (by decide +kernel), by decide +kernel⟩
theorem kfX0_36 : Cond.fieldLink RX0 36 "LineageTables" "newNumbers" "[I" ∈ jW0 := List.mem_filter.mpr ⟨List.mem_of_getElem? (i := 76) (by decide +kernel), by decide +kernel⟩
theorem kfX0_39 : Cond.fieldLink RX0 39 "LineageTables" "carried" "[I" ∈ jW0 := List.mem_filter.mpr ⟨List.mem_of_getElem? (i := 77) (by decide +kernel), by decide +kernel⟩
theorem kfX0_42 : Cond.fieldLink RX0 42 "LineageTables" "mattering" "[I" ∈ jW0 := List.mem_filter.mpr ⟨List.mem_of_getElem? (i := 78) (by decide +kernel), by decide +kernel⟩
theorem kfX0_45 : Cond.fieldLink RX0 45 "LineageTables" "tally" "[I" ∈ jW0 := List.mem_filter.mpr ⟨List.mem_of_getElem? (i := 79) (by decide +kernel), by decide +kernel⟩
theorem kfX0_48 : Cond.fieldLink RX0 48 "LineageTables" "row" "[I" ∈ jW0 := List.mem_filter.mpr ⟨List.mem_of_getElem? (i := 80) (by decide +kernel), by decide +kernel⟩
theorem klL_82 : Cond.methodLink RL 82 yX0_count ∈ jW0 := List.mem_filter.mpr ⟨List.mem_of_getElem? (i := 110) (by decide +kernel), by decide +kernel⟩
theorem klX0_113 : Cond.methodLink RX0 113 yX0_countSamples ∈ jW0 := List.mem_filter.mpr ⟨List.mem_of_getElem? (i := 114) (by decide +kernel), by decide +kernel⟩
theorem klX0_117 : Cond.methodLink RX0 117 yX0_countEdges ∈ jW0 := List.mem_filter.mpr ⟨List.mem_of_getElem? (i := 118) (by decide +kernel), by decide +kernel⟩
theorem klX0_174 : Cond.methodLink RX0 174 yX0_startsEdge ∈ jW0 := List.mem_filter.mpr ⟨List.mem_of_getElem? (i := 122) (by decide +kernel), by decide +kernel⟩
theorem klX0_135 : Cond.methodLink RX0 135 yX0_parentAt ∈ jW0 := List.mem_filter.mpr ⟨List.mem_of_getElem? (i := 126) (by decide +kernel), by decide +kernel⟩
theorem klX0_120 : Cond.methodLink RX0 120 yX0_countMutations ∈ jW0 := List.mem_filter.mpr ⟨List.mem_of_getElem? (i := 130) (by decide +kernel), by decide +kernel⟩
theorem klL_99 : Cond.methodLink RL 99 yX0_trees ∈ jW0 := List.mem_filter.mpr ⟨List.mem_of_getElem? (i := 134) (by decide +kernel), by decide +kernel⟩
theorem klX0_144 : Cond.methodLink RX0 144 yX0_startsRun ∈ jW0 := List.mem_filter.mpr ⟨List.mem_of_getElem? (i := 138) (by decide +kernel), by decide +kernel⟩
theorem klL_109 : Cond.methodLink RL 109 yX0_differing ∈ jW0 := List.mem_filter.mpr ⟨List.mem_of_getElem? (i := 142) (by decide +kernel), by decide +kernel⟩
theorem klX0_152 : Cond.methodLink RX0 152 yX0_tallyLetters ∈ jW0 := List.mem_filter.mpr ⟨List.mem_of_getElem? (i := 146) (by decide +kernel), by decide +kernel⟩
theorem klX0_149 : Cond.methodLink RX0 149 yX0_letterAt ∈ jW0 := List.mem_filter.mpr ⟨List.mem_of_getElem? (i := 150) (by decide +kernel), by decide +kernel⟩
theorem klL_113 : Cond.methodLink RL 113 yX0_spectrum ∈ jW0 := List.mem_filter.mpr ⟨List.mem_of_getElem? (i := 154) (by decide +kernel), by decide +kernel⟩
theorem klL_117 : Cond.methodLink RL 117 yX0_area ∈ jW0 := List.mem_filter.mpr ⟨List.mem_of_getElem? (i := 158) (by decide +kernel), by decide +kernel⟩
theorem klX0_156 : Cond.methodLink RX0 156 yX0_countCarried ∈ jW0 := List.mem_filter.mpr ⟨List.mem_of_getElem? (i := 162) (by decide +kernel), by decide +kernel⟩
theorem klL_121 : Cond.methodLink RL 121 yX0_simplify ∈ jW0 := List.mem_filter.mpr ⟨List.mem_of_getElem? (i := 166) (by decide +kernel), by decide +kernel⟩
theorem klX0_159 : Cond.methodLink RX0 159 yX0_findMattering ∈ jW0 := List.mem_filter.mpr ⟨List.mem_of_getElem? (i := 170) (by decide +kernel), by decide +kernel⟩
theorem klX0_183 : Cond.methodLink RX0 183 yX0_countLiveChildren ∈ jW0 := List.mem_filter.mpr ⟨List.mem_of_getElem? (i := 174) (by decide +kernel), by decide +kernel⟩
theorem klX0_162 : Cond.methodLink RX0 162 yX0_renumber ∈ jW0 := List.mem_filter.mpr ⟨List.mem_of_getElem? (i := 178) (by decide +kernel), by decide +kernel⟩
theorem klX0_165 : Cond.methodLink RX0 165 yX0_moveMutations ∈ jW0 := List.mem_filter.mpr ⟨List.mem_of_getElem? (i := 182) (by decide +kernel), by decide +kernel⟩
theorem klX0_186 : Cond.methodLink RX0 186 yX0_matters ∈ jW0 := List.mem_filter.mpr ⟨List.mem_of_getElem? (i := 186) (by decide +kernel), by decide +kernel⟩
theorem klX0_189 : Cond.methodLink RX0 189 yX0_mutationComingTo ∈ jW0 := List.mem_filter.mpr ⟨List.mem_of_getElem? (i := 190) (by decide +kernel), by decide +kernel⟩
theorem klX0_192 : Cond.methodLink RX0 192 arraycopyName ∈ jW0 := List.mem_filter.mpr ⟨List.mem_of_getElem? (i := 194) (by decide +kernel), by decide +kernel⟩
theorem klX0_168 : Cond.methodLink RX0 168 yX0_moveParents ∈ jW0 := List.mem_filter.mpr ⟨List.mem_of_getElem? (i := 197) (by decide +kernel), by decide +kernel⟩
theorem klX0_198 : Cond.methodLink RX0 198 yX0_nearestMatteringAbove ∈ jW0 := List.mem_filter.mpr ⟨List.mem_of_getElem? (i := 201) (by decide +kernel), by decide +kernel⟩
theorem klX0_171 : Cond.methodLink RX0 171 yX0_moveNodes ∈ jW0 := List.mem_filter.mpr ⟨List.mem_of_getElem? (i := 205) (by decide +kernel), by decide +kernel⟩
theorem klL_125 : Cond.methodLink RL 125 yX0_became ∈ jW0 := List.mem_filter.mpr ⟨List.mem_of_getElem? (i := 209) (by decide +kernel), by decide +kernel⟩
theorem klL_57 : Cond.methodLink RL 57 yL_node ∈ jW0 := List.mem_filter.mpr ⟨List.mem_of_getElem? (i := 213) (by decide +kernel), by decide +kernel⟩
theorem kcL_13 : Cond.classLink RL 13 "java/lang/IllegalArgumentException" ∈ jW0 := List.mem_filter.mpr ⟨List.mem_of_getElem? (i := 216) (by decide +kernel), by decide +kernel⟩
theorem kcL_15 : Cond.classLink RL 15 "java/lang/IllegalStateException" ∈ jW0 := List.mem_filter.mpr ⟨List.mem_of_getElem? (i := 217) (by decide +kernel), by decide +kernel⟩
theorem klL_7 : Cond.methodLink RL 7 yX0_node ∈ jW0 := List.mem_filter.mpr ⟨List.mem_of_getElem? (i := 218) (by decide +kernel), by decide +kernel⟩
theorem kcX0_57 : Cond.classLink RX0 57 "java/lang/IllegalArgumentException" ∈ jW0 := List.mem_filter.mpr ⟨List.mem_of_getElem? (i := 222) (by decide +kernel), by decide +kernel⟩
theorem kcX0_64 : Cond.classLink RX0 64 "java/lang/IllegalStateException" ∈ jW0 := List.mem_filter.mpr ⟨List.mem_of_getElem? (i := 290) (by decide +kernel), by decide +kernel⟩
theorem klL_67 : Cond.methodLink RL 67 yL_join ∈ jW0 := List.mem_filter.mpr ⟨List.mem_of_getElem? (i := 306) (by decide +kernel), by decide +kernel⟩
theorem kcL_21 : Cond.classLink RL 21 "java/lang/IndexOutOfBoundsException" ∈ jW0 := List.mem_filter.mpr ⟨List.mem_of_getElem? (i := 309) (by decide +kernel), by decide +kernel⟩
theorem klL_17 : Cond.methodLink RL 17 yX0_join ∈ jW0 := List.mem_filter.mpr ⟨List.mem_of_getElem? (i := 310) (by decide +kernel), by decide +kernel⟩
theorem klX0_69 : Cond.methodLink RX0 69 yX0_isRun ∈ jW0 := List.mem_filter.mpr ⟨List.mem_of_getElem? (i := 314) (by decide +kernel), by decide +kernel⟩
theorem klX0_73 : Cond.methodLink RX0 73 yX0_isNode ∈ jW0 := List.mem_filter.mpr ⟨List.mem_of_getElem? (i := 317) (by decide +kernel), by decide +kernel⟩
theorem kcX0_77 : Cond.classLink RX0 77 "java/lang/IndexOutOfBoundsException" ∈ jW0 := List.mem_filter.mpr ⟨List.mem_of_getElem? (i := 321) (by decide +kernel), by decide +kernel⟩
theorem klX0_84 : Cond.methodLink RX0 84 yX0_hasParentBeside ∈ jW0 := List.mem_filter.mpr ⟨List.mem_of_getElem? (i := 338) (by decide +kernel), by decide +kernel⟩
theorem klX0_90 : Cond.methodLink RX0 90 yX0_setParents ∈ jW0 := List.mem_filter.mpr ⟨List.mem_of_getElem? (i := 343) (by decide +kernel), by decide +kernel⟩
theorem klL_71 : Cond.methodLink RL 71 yL_part ∈ jW0 := List.mem_filter.mpr ⟨List.mem_of_getElem? (i := 347) (by decide +kernel), by decide +kernel⟩
theorem klL_23 : Cond.methodLink RL 23 yX0_part ∈ jW0 := List.mem_filter.mpr ⟨List.mem_of_getElem? (i := 350) (by decide +kernel), by decide +kernel⟩
theorem klL_75 : Cond.methodLink RL 75 yL_site ∈ jW0 := List.mem_filter.mpr ⟨List.mem_of_getElem? (i := 354) (by decide +kernel), by decide +kernel⟩
theorem klL_27 : Cond.methodLink RL 27 yX0_site ∈ jW0 := List.mem_filter.mpr ⟨List.mem_of_getElem? (i := 357) (by decide +kernel), by decide +kernel⟩
theorem klX0_94 : Cond.methodLink RX0 94 yX0_isPlace ∈ jW0 := List.mem_filter.mpr ⟨List.mem_of_getElem? (i := 361) (by decide +kernel), by decide +kernel⟩
theorem klX0_99 : Cond.methodLink RX0 99 yX0_hasSite ∈ jW0 := List.mem_filter.mpr ⟨List.mem_of_getElem? (i := 365) (by decide +kernel), by decide +kernel⟩
theorem klL_79 : Cond.methodLink RL 79 yL_mutate ∈ jW0 := List.mem_filter.mpr ⟨List.mem_of_getElem? (i := 371) (by decide +kernel), by decide +kernel⟩
theorem klL_31 : Cond.methodLink RL 31 yX0_mutate ∈ jW0 := List.mem_filter.mpr ⟨List.mem_of_getElem? (i := 374) (by decide +kernel), by decide +kernel⟩
theorem klX0_106 : Cond.methodLink RX0 106 yX0_isSite ∈ jW0 := List.mem_filter.mpr ⟨List.mem_of_getElem? (i := 378) (by decide +kernel), by decide +kernel⟩
theorem klL_86 : Cond.methodLink RL 86 yL_time ∈ jW0 := List.mem_filter.mpr ⟨List.mem_of_getElem? (i := 384) (by decide +kernel), by decide +kernel⟩
theorem klL_34 : Cond.methodLink RL 34 yX0_time ∈ jW0 := List.mem_filter.mpr ⟨List.mem_of_getElem? (i := 387) (by decide +kernel), by decide +kernel⟩
theorem klL_90 : Cond.methodLink RL 90 yL_edge ∈ jW0 := List.mem_filter.mpr ⟨List.mem_of_getElem? (i := 392) (by decide +kernel), by decide +kernel⟩
theorem klL_38 : Cond.methodLink RL 38 yX0_edge ∈ jW0 := List.mem_filter.mpr ⟨List.mem_of_getElem? (i := 395) (by decide +kernel), by decide +kernel⟩
theorem klX0_125 : Cond.methodLink RX0 125 yX0_findEdge ∈ jW0 := List.mem_filter.mpr ⟨List.mem_of_getElem? (i := 399) (by decide +kernel), by decide +kernel⟩
theorem klX0_177 : Cond.methodLink RX0 177 yX0_nextByTime ∈ jW0 := List.mem_filter.mpr ⟨List.mem_of_getElem? (i := 403) (by decide +kernel), by decide +kernel⟩
theorem klX0_180 : Cond.methodLink RX0 180 yX0_isEarlier ∈ jW0 := List.mem_filter.mpr ⟨List.mem_of_getElem? (i := 407) (by decide +kernel), by decide +kernel⟩
theorem klX0_131 : Cond.methodLink RX0 131 yX0_edgeEnd ∈ jW0 := List.mem_filter.mpr ⟨List.mem_of_getElem? (i := 412) (by decide +kernel), by decide +kernel⟩
theorem klL_93 : Cond.methodLink RL 93 yL_parent ∈ jW0 := List.mem_filter.mpr ⟨List.mem_of_getElem? (i := 416) (by decide +kernel), by decide +kernel⟩
theorem klL_41 : Cond.methodLink RL 41 yX0_parent ∈ jW0 := List.mem_filter.mpr ⟨List.mem_of_getElem? (i := 419) (by decide +kernel), by decide +kernel⟩
theorem klL_96 : Cond.methodLink RL 96 yL_meet ∈ jW0 := List.mem_filter.mpr ⟨List.mem_of_getElem? (i := 424) (by decide +kernel), by decide +kernel⟩
theorem klL_44 : Cond.methodLink RL 44 yX0_meet ∈ jW0 := List.mem_filter.mpr ⟨List.mem_of_getElem? (i := 427) (by decide +kernel), by decide +kernel⟩
theorem klX0_140 : Cond.methodLink RX0 140 yX0_isAtOrAbove ∈ jW0 := List.mem_filter.mpr ⟨List.mem_of_getElem? (i := 431) (by decide +kernel), by decide +kernel⟩
theorem klL_103 : Cond.methodLink RL 103 yL_cut ∈ jW0 := List.mem_filter.mpr ⟨List.mem_of_getElem? (i := 435) (by decide +kernel), by decide +kernel⟩
theorem klL_47 : Cond.methodLink RL 47 yX0_cut ∈ jW0 := List.mem_filter.mpr ⟨List.mem_of_getElem? (i := 438) (by decide +kernel), by decide +kernel⟩
theorem klL_106 : Cond.methodLink RL 106 yL_letter ∈ jW0 := List.mem_filter.mpr ⟨List.mem_of_getElem? (i := 443) (by decide +kernel), by decide +kernel⟩
theorem klL_50 : Cond.methodLink RL 50 yX0_letter ∈ jW0 := List.mem_filter.mpr ⟨List.mem_of_getElem? (i := 446) (by decide +kernel), by decide +kernel⟩
theorem kcL_54 : Cond.classLink RL 54 RX1 ∈ jW0 := List.mem_filter.mpr ⟨List.mem_of_getElem? (i := 450) (by decide +kernel), by decide +kernel⟩
theorem klL_56 : Cond.methodLink RL 56 yX1_init ∈ jW0 := List.mem_filter.mpr ⟨List.mem_of_getElem? (i := 452) (by decide +kernel), by decide +kernel⟩
theorem klX1_1 : Cond.methodLink RX1 1 objectInit ∈ jW0 := List.mem_filter.mpr ⟨List.mem_of_getElem? (i := 455) (by decide +kernel), by decide +kernel⟩
theorem kfX1_38 : Cond.fieldLink RX1 38 "LineageTablesModel" "fault" "I" ∈ jW0 := List.mem_filter.mpr ⟨List.mem_of_getElem? (i := 456) (by decide +kernel), by decide +kernel⟩
theorem kfX1_42 : Cond.fieldLink RX1 42 "LineageTablesModel" "nodes" "I" ∈ jW0 := List.mem_filter.mpr ⟨List.mem_of_getElem? (i := 457) (by decide +kernel), by decide +kernel⟩
theorem kfX1_7 : Cond.fieldLink RX1 7 "LineageTablesModel" "time" "[I" ∈ jW0 := List.mem_filter.mpr ⟨List.mem_of_getElem? (i := 458) (by decide +kernel), by decide +kernel⟩
theorem kfX1_13 : Cond.fieldLink RX1 13 "LineageTablesModel" "sample" "[Z" ∈ jW0 := List.mem_filter.mpr ⟨List.mem_of_getElem? (i := 459) (by decide +kernel), by decide +kernel⟩
theorem kfX1_17 : Cond.fieldLink RX1 17 "LineageTablesModel" "parent" "[I" ∈ jW0 := List.mem_filter.mpr ⟨List.mem_of_getElem? (i := 460) (by decide +kernel), by decide +kernel⟩
theorem kfX1_45 : Cond.fieldLink RX1 45 "LineageTablesModel" "sites" "I" ∈ jW0 := List.mem_filter.mpr ⟨List.mem_of_getElem? (i := 461) (by decide +kernel), by decide +kernel⟩
theorem kfX1_20 : Cond.fieldLink RX1 20 "LineageTablesModel" "placeOf" "[I" ∈ jW0 := List.mem_filter.mpr ⟨List.mem_of_getElem? (i := 462) (by decide +kernel), by decide +kernel⟩
theorem kfX1_23 : Cond.fieldLink RX1 23 "LineageTablesModel" "ancestral" "[I" ∈ jW0 := List.mem_filter.mpr ⟨List.mem_of_getElem? (i := 463) (by decide +kernel), by decide +kernel⟩
theorem kfX1_26 : Cond.fieldLink RX1 26 "LineageTablesModel" "mutation" "[I" ∈ jW0 := List.mem_filter.mpr ⟨List.mem_of_getElem? (i := 464) (by decide +kernel), by decide +kernel⟩
theorem kfX1_29 : Cond.fieldLink RX1 29 "LineageTablesModel" "became" "[I" ∈ jW0 := List.mem_filter.mpr ⟨List.mem_of_getElem? (i := 465) (by decide +kernel), by decide +kernel⟩
theorem kfX1_32 : Cond.fieldLink RX1 32 "LineageTablesModel" "nextParent" "[I" ∈ jW0 := List.mem_filter.mpr ⟨List.mem_of_getElem? (i := 466) (by decide +kernel), by decide +kernel⟩
theorem kfX1_35 : Cond.fieldLink RX1 35 "LineageTablesModel" "nextMutation" "[I" ∈ jW0 := List.mem_filter.mpr ⟨List.mem_of_getElem? (i := 467) (by decide +kernel), by decide +kernel⟩
theorem kfX1_85 : Cond.fieldLink RX1 85 "LineageTablesModel" "foundLeft" "I" ∈ jW0 := List.mem_filter.mpr ⟨List.mem_of_getElem? (i := 468) (by decide +kernel), by decide +kernel⟩
theorem kfX1_102 : Cond.fieldLink RX1 102 "LineageTablesModel" "foundRight" "I" ∈ jW0 := List.mem_filter.mpr ⟨List.mem_of_getElem? (i := 469) (by decide +kernel), by decide +kernel⟩
theorem kfX1_88 : Cond.fieldLink RX1 88 "LineageTablesModel" "foundParent" "I" ∈ jW0 := List.mem_filter.mpr ⟨List.mem_of_getElem? (i := 470) (by decide +kernel), by decide +kernel⟩
theorem kfX1_91 : Cond.fieldLink RX1 91 "LineageTablesModel" "foundChild" "I" ∈ jW0 := List.mem_filter.mpr ⟨List.mem_of_getElem? (i := 471) (by decide +kernel), by decide +kernel⟩
theorem klL_63 : Cond.methodLink RL 63 yX1_thrown ∈ jW0 := List.mem_filter.mpr ⟨List.mem_of_getElem? (i := 505) (by decide +kernel), by decide +kernel⟩
theorem klL_62 : Cond.methodLink RL 62 yX1_node ∈ jW0 := List.mem_filter.mpr ⟨List.mem_of_getElem? (i := 509) (by decide +kernel), by decide +kernel⟩
theorem klX1_63 : Cond.methodLink RX1 63 yX1_refused ∈ jW0 := List.mem_filter.mpr ⟨List.mem_of_getElem? (i := 513) (by decide +kernel), by decide +kernel⟩
theorem klL_70 : Cond.methodLink RL 70 yX1_join ∈ jW0 := List.mem_filter.mpr ⟨List.mem_of_getElem? (i := 517) (by decide +kernel), by decide +kernel⟩
theorem klX1_67 : Cond.methodLink RX1 67 yX1_isRun ∈ jW0 := List.mem_filter.mpr ⟨List.mem_of_getElem? (i := 521) (by decide +kernel), by decide +kernel⟩
theorem klX1_70 : Cond.methodLink RX1 70 yX1_isNode ∈ jW0 := List.mem_filter.mpr ⟨List.mem_of_getElem? (i := 524) (by decide +kernel), by decide +kernel⟩
theorem klX1_48 : Cond.methodLink RX1 48 yX1_up ∈ jW0 := List.mem_filter.mpr ⟨List.mem_of_getElem? (i := 528) (by decide +kernel), by decide +kernel⟩
theorem klL_74 : Cond.methodLink RL 74 yX1_part ∈ jW0 := List.mem_filter.mpr ⟨List.mem_of_getElem? (i := 532) (by decide +kernel), by decide +kernel⟩
theorem klL_78 : Cond.methodLink RL 78 yX1_site ∈ jW0 := List.mem_filter.mpr ⟨List.mem_of_getElem? (i := 536) (by decide +kernel), by decide +kernel⟩
theorem klX1_73 : Cond.methodLink RX1 73 yX1_isPlace ∈ jW0 := List.mem_filter.mpr ⟨List.mem_of_getElem? (i := 540) (by decide +kernel), by decide +kernel⟩
theorem klX1_76 : Cond.methodLink RX1 76 yX1_isTaken ∈ jW0 := List.mem_filter.mpr ⟨List.mem_of_getElem? (i := 543) (by decide +kernel), by decide +kernel⟩
theorem klL_81 : Cond.methodLink RL 81 yX1_mutate ∈ jW0 := List.mem_filter.mpr ⟨List.mem_of_getElem? (i := 547) (by decide +kernel), by decide +kernel⟩
theorem klX1_79 : Cond.methodLink RX1 79 yX1_isSite ∈ jW0 := List.mem_filter.mpr ⟨List.mem_of_getElem? (i := 551) (by decide +kernel), by decide +kernel⟩
theorem klL_85 : Cond.methodLink RL 85 yX1_count ∈ jW0 := List.mem_filter.mpr ⟨List.mem_of_getElem? (i := 555) (by decide +kernel), by decide +kernel⟩
theorem klX1_94 : Cond.methodLink RX1 94 yX1_samples ∈ jW0 := List.mem_filter.mpr ⟨List.mem_of_getElem? (i := 559) (by decide +kernel), by decide +kernel⟩
theorem klX1_98 : Cond.methodLink RX1 98 yX1_find ∈ jW0 := List.mem_filter.mpr ⟨List.mem_of_getElem? (i := 563) (by decide +kernel), by decide +kernel⟩
theorem klX1_82 : Cond.methodLink RX1 82 yX1_begins ∈ jW0 := List.mem_filter.mpr ⟨List.mem_of_getElem? (i := 567) (by decide +kernel), by decide +kernel⟩
theorem klL_89 : Cond.methodLink RL 89 yX1_time ∈ jW0 := List.mem_filter.mpr ⟨List.mem_of_getElem? (i := 571) (by decide +kernel), by decide +kernel⟩
theorem klL_92 : Cond.methodLink RL 92 yX1_edge ∈ jW0 := List.mem_filter.mpr ⟨List.mem_of_getElem? (i := 575) (by decide +kernel), by decide +kernel⟩
theorem klL_95 : Cond.methodLink RL 95 yX1_parent ∈ jW0 := List.mem_filter.mpr ⟨List.mem_of_getElem? (i := 579) (by decide +kernel), by decide +kernel⟩
theorem klL_98 : Cond.methodLink RL 98 yX1_meet ∈ jW0 := List.mem_filter.mpr ⟨List.mem_of_getElem? (i := 583) (by decide +kernel), by decide +kernel⟩
theorem klX1_52 : Cond.methodLink RX1 52 yX1_holds ∈ jW0 := List.mem_filter.mpr ⟨List.mem_of_getElem? (i := 587) (by decide +kernel), by decide +kernel⟩
theorem klL_102 : Cond.methodLink RL 102 yX1_trees ∈ jW0 := List.mem_filter.mpr ⟨List.mem_of_getElem? (i := 591) (by decide +kernel), by decide +kernel⟩
theorem klX1_105 : Cond.methodLink RX1 105 yX1_differs ∈ jW0 := List.mem_filter.mpr ⟨List.mem_of_getElem? (i := 595) (by decide +kernel), by decide +kernel⟩
theorem klL_105 : Cond.methodLink RL 105 yX1_cut ∈ jW0 := List.mem_filter.mpr ⟨List.mem_of_getElem? (i := 599) (by decide +kernel), by decide +kernel⟩
theorem klX1_108 : Cond.methodLink RX1 108 yX1_trees ∈ jW0 := List.mem_filter.mpr ⟨List.mem_of_getElem? (i := 603) (by decide +kernel), by decide +kernel⟩
theorem klL_108 : Cond.methodLink RL 108 yX1_letter ∈ jW0 := List.mem_filter.mpr ⟨List.mem_of_getElem? (i := 604) (by decide +kernel), by decide +kernel⟩
theorem klX1_111 : Cond.methodLink RX1 111 yX1_letterAt ∈ jW0 := List.mem_filter.mpr ⟨List.mem_of_getElem? (i := 608) (by decide +kernel), by decide +kernel⟩
theorem klL_112 : Cond.methodLink RL 112 yX1_differing ∈ jW0 := List.mem_filter.mpr ⟨List.mem_of_getElem? (i := 612) (by decide +kernel), by decide +kernel⟩
theorem klL_116 : Cond.methodLink RL 116 yX1_spectrum ∈ jW0 := List.mem_filter.mpr ⟨List.mem_of_getElem? (i := 616) (by decide +kernel), by decide +kernel⟩
theorem klL_120 : Cond.methodLink RL 120 yX1_area ∈ jW0 := List.mem_filter.mpr ⟨List.mem_of_getElem? (i := 620) (by decide +kernel), by decide +kernel⟩
theorem klX1_56 : Cond.methodLink RX1 56 yX1_under ∈ jW0 := List.mem_filter.mpr ⟨List.mem_of_getElem? (i := 624) (by decide +kernel), by decide +kernel⟩
theorem klL_124 : Cond.methodLink RL 124 yX1_simplify ∈ jW0 := List.mem_filter.mpr ⟨List.mem_of_getElem? (i := 628) (by decide +kernel), by decide +kernel⟩
theorem klX1_117 : Cond.methodLink RX1 117 yX1_stays ∈ jW0 := List.mem_filter.mpr ⟨List.mem_of_getElem? (i := 632) (by decide +kernel), by decide +kernel⟩
theorem klX1_59 : Cond.methodLink RX1 59 yX1_isFork ∈ jW0 := List.mem_filter.mpr ⟨List.mem_of_getElem? (i := 636) (by decide +kernel), by decide +kernel⟩
theorem klX1_114 : Cond.methodLink RX1 114 yX1_matters ∈ jW0 := List.mem_filter.mpr ⟨List.mem_of_getElem? (i := 640) (by decide +kernel), by decide +kernel⟩
theorem klX1_120 : Cond.methodLink RX1 120 yX1_nearest ∈ jW0 := List.mem_filter.mpr ⟨List.mem_of_getElem? (i := 644) (by decide +kernel), by decide +kernel⟩
theorem klX1_123 : Cond.methodLink RX1 123 yX1_comes ∈ jW0 := List.mem_filter.mpr ⟨List.mem_of_getElem? (i := 648) (by decide +kernel), by decide +kernel⟩
theorem klL_128 : Cond.methodLink RL 128 yX1_became ∈ jW0 := List.mem_filter.mpr ⟨List.mem_of_getElem? (i := 652) (by decide +kernel), by decide +kernel⟩
theorem kobj_i : Cond.instanceMethod objectInit ∈ jW0 := List.mem_filter.mpr ⟨List.mem_of_getElem? (i := 63) (by decide +kernel), by decide +kernel⟩
theorem karr_I : Cond.arrayClass .int ∈ jW0 := List.mem_filter.mpr ⟨List.mem_of_getElem? (i := 108) (by decide +kernel), by decide +kernel⟩
theorem karr_Z : Cond.arrayClass .boolean ∈ jW0 := List.mem_filter.mpr ⟨List.mem_of_getElem? (i := 109) (by decide +kernel), by decide +kernel⟩
theorem karr_J : Cond.arrayClass .long ∈ jW0 := List.mem_filter.mpr ⟨List.mem_of_getElem? (i := 656) (by decide +kernel), by decide +kernel⟩
theorem kmk_X0 : Cond.instantiable RX0 13 ∈ jW0 := List.mem_filter.mpr ⟨List.mem_of_getElem? (i := 58) (by decide +kernel), by decide +kernel⟩
theorem ku_X0 : ∀ w ∈ u_ws RX0 TX0 13, w ∈ jW0 := by decide +kernel
theorem kmk_X1 : Cond.instantiable RX1 16 ∈ jW0 := List.mem_filter.mpr ⟨List.mem_of_getElem? (i := 451) (by decide +kernel), by decide +kernel⟩
theorem ku_X1 : ∀ w ∈ u_ws RX1 TX1 16, w ∈ jW0 := by decide +kernel
theorem karc_n : Cond.native arraycopyName ∈ jW0 := List.mem_filter.mpr ⟨List.mem_of_getElem? (i := 196) (by decide +kernel), by decide +kernel⟩
theorem karc_s : Cond.static arraycopyName ∈ jW0 := List.mem_filter.mpr ⟨List.mem_of_getElem? (i := 195) (by decide +kernel), by decide +kernel⟩
theorem kini_IAE : Cond.initialized "java/lang/IllegalArgumentException" ∈ jW0 := List.mem_filter.mpr ⟨List.mem_of_getElem? (i := 53) (by decide +kernel), by decide +kernel⟩
theorem kini_ISE : Cond.initialized "java/lang/IllegalStateException" ∈ jW0 := List.mem_filter.mpr ⟨List.mem_of_getElem? (i := 54) (by decide +kernel), by decide +kernel⟩
theorem kini_IOB : Cond.initialized "java/lang/IndexOutOfBoundsException" ∈ jW0 := List.mem_filter.mpr ⟨List.mem_of_getElem? (i := 55) (by decide +kernel), by decide +kernel⟩
theorem gL_X0_init (c0 : Cond) : GoodIn (c0 :: jW0) wsX0_init := jGI kX0_init_c
theorem gX0_J7_fill (c0 : Cond) : GoodIn (c0 :: jW0) (va_wsS RX0 51 yJ7_fill wsJ7_fill) := jGS klX0_51 kJ7_fill_s kini_J7 kJ7_fill_c
theorem gL_X0_count (c0 : Cond) : GoodIn (c0 :: jW0) (wsV RL 82 RX0 yX0_count wsX0_count) := jGV klL_82 kX0_count_i kX0_count_v kini_X0 kX0_count_c
theorem gX0_X0_countSamples (c0 : Cond) : GoodIn (c0 :: jW0) (wsV RX0 113 RX0 yX0_countSamples wsX0_countSamples) := jGV klX0_113 kX0_countSamples_i kX0_countSamples_v kini_X0 kX0_countSamples_c
theorem gX0_X0_countEdges (c0 : Cond) : GoodIn (c0 :: jW0) (wsV RX0 117 RX0 yX0_countEdges wsX0_countEdges) := jGV klX0_117 kX0_countEdges_i kX0_countEdges_v kini_X0 kX0_countEdges_c
theorem gX0_X0_startsEdge (c0 : Cond) : GoodIn (c0 :: jW0) (wsV RX0 174 RX0 yX0_startsEdge wsX0_startsEdge) := jGV klX0_174 kX0_startsEdge_i kX0_startsEdge_v kini_X0 kX0_startsEdge_c
theorem gX0_X0_parentAt (c0 : Cond) : GoodIn (c0 :: jW0) (wsV RX0 135 RX0 yX0_parentAt wsX0_parentAt) := jGV klX0_135 kX0_parentAt_i kX0_parentAt_v kini_X0 kX0_parentAt_c
theorem gX0_X0_countMutations (c0 : Cond) : GoodIn (c0 :: jW0) (wsV RX0 120 RX0 yX0_countMutations wsX0_countMutations) := jGV klX0_120 kX0_countMutations_i kX0_countMutations_v kini_X0 kX0_countMutations_c
theorem gL_X0_trees (c0 : Cond) : GoodIn (c0 :: jW0) (wsV RL 99 RX0 yX0_trees wsX0_trees) := jGV klL_99 kX0_trees_i kX0_trees_v kini_X0 kX0_trees_c
theorem gX0_X0_startsRun (c0 : Cond) : GoodIn (c0 :: jW0) (wsV RX0 144 RX0 yX0_startsRun wsX0_startsRun) := jGV klX0_144 kX0_startsRun_i kX0_startsRun_v kini_X0 kX0_startsRun_c
theorem gL_X0_differing (c0 : Cond) : GoodIn (c0 :: jW0) (wsV RL 109 RX0 yX0_differing wsX0_differing) := jGV klL_109 kX0_differing_i kX0_differing_v kini_X0 kX0_differing_c
theorem gX0_X0_tallyLetters (c0 : Cond) : GoodIn (c0 :: jW0) (wsV RX0 152 RX0 yX0_tallyLetters wsX0_tallyLetters) := jGV klX0_152 kX0_tallyLetters_i kX0_tallyLetters_v kini_X0 kX0_tallyLetters_c
theorem gX0_X0_letterAt (c0 : Cond) : GoodIn (c0 :: jW0) (wsV RX0 149 RX0 yX0_letterAt wsX0_letterAt) := jGV klX0_149 kX0_letterAt_i kX0_letterAt_v kini_X0 kX0_letterAt_c
theorem gL_X0_spectrum (c0 : Cond) : GoodIn (c0 :: jW0) (wsV RL 113 RX0 yX0_spectrum wsX0_spectrum) := jGV klL_113 kX0_spectrum_i kX0_spectrum_v kini_X0 kX0_spectrum_c
theorem gL_X0_area (c0 : Cond) : GoodIn (c0 :: jW0) (wsV RL 117 RX0 yX0_area wsX0_area) := jGV klL_117 kX0_area_i kX0_area_v kini_X0 kX0_area_c
theorem gX0_X0_countCarried (c0 : Cond) : GoodIn (c0 :: jW0) (wsV RX0 156 RX0 yX0_countCarried wsX0_countCarried) := jGV klX0_156 kX0_countCarried_i kX0_countCarried_v kini_X0 kX0_countCarried_c
theorem gL_X0_simplify (c0 : Cond) : GoodIn (c0 :: jW0) (wsV RL 121 RX0 yX0_simplify wsX0_simplify) := jGV klL_121 kX0_simplify_i kX0_simplify_v kini_X0 kX0_simplify_c
theorem gX0_X0_findMattering (c0 : Cond) : GoodIn (c0 :: jW0) (wsV RX0 159 RX0 yX0_findMattering wsX0_findMattering) := jGV klX0_159 kX0_findMattering_i kX0_findMattering_v kini_X0 kX0_findMattering_c
theorem gX0_X0_countLiveChildren (c0 : Cond) : GoodIn (c0 :: jW0) (wsV RX0 183 RX0 yX0_countLiveChildren wsX0_countLiveChildren) := jGV klX0_183 kX0_countLiveChildren_i kX0_countLiveChildren_v kini_X0 kX0_countLiveChildren_c
theorem gX0_X0_renumber (c0 : Cond) : GoodIn (c0 :: jW0) (wsV RX0 162 RX0 yX0_renumber wsX0_renumber) := jGV klX0_162 kX0_renumber_i kX0_renumber_v kini_X0 kX0_renumber_c
theorem gX0_X0_moveMutations (c0 : Cond) : GoodIn (c0 :: jW0) (wsV RX0 165 RX0 yX0_moveMutations wsX0_moveMutations) := jGV klX0_165 kX0_moveMutations_i kX0_moveMutations_v kini_X0 kX0_moveMutations_c
theorem gX0_X0_matters (c0 : Cond) : GoodIn (c0 :: jW0) (wsV RX0 186 RX0 yX0_matters wsX0_matters) := jGV klX0_186 kX0_matters_i kX0_matters_v kini_X0 kX0_matters_c
theorem gX0_X0_mutationComingTo (c0 : Cond) : GoodIn (c0 :: jW0) (wsV RX0 189 RX0 yX0_mutationComingTo wsX0_mutationComingTo) := jGV klX0_189 kX0_mutationComingTo_i kX0_mutationComingTo_v kini_X0 kX0_mutationComingTo_c
theorem gX0_X0_moveParents (c0 : Cond) : GoodIn (c0 :: jW0) (wsV RX0 168 RX0 yX0_moveParents wsX0_moveParents) := jGV klX0_168 kX0_moveParents_i kX0_moveParents_v kini_X0 kX0_moveParents_c
theorem gX0_X0_nearestMatteringAbove (c0 : Cond) : GoodIn (c0 :: jW0) (wsV RX0 198 RX0 yX0_nearestMatteringAbove wsX0_nearestMatteringAbove) := jGV klX0_198 kX0_nearestMatteringAbove_i kX0_nearestMatteringAbove_v kini_X0 kX0_nearestMatteringAbove_c
theorem gX0_X0_moveNodes (c0 : Cond) : GoodIn (c0 :: jW0) (wsV RX0 171 RX0 yX0_moveNodes wsX0_moveNodes) := jGV klX0_171 kX0_moveNodes_i kX0_moveNodes_v kini_X0 kX0_moveNodes_c
theorem gL_X0_became (c0 : Cond) : GoodIn (c0 :: jW0) (wsV RL 125 RX0 yX0_became wsX0_became) := jGV klL_125 kX0_became_i kX0_became_v kini_X0 kX0_became_c
theorem gL_L_node (c0 : Cond) : GoodIn (c0 :: jW0) (va_wsS RL 57 yL_node wsL_node) := jGW klL_57 kL_node_s kini_L kL_node_c
theorem gL_X0_node (c0 : Cond) : GoodIn (c0 :: jW0) (wsV RL 7 RX0 yX0_node wsX0_node) := jGV klL_7 kX0_node_i kX0_node_v kini_X0 kX0_node_c
theorem gL_L_join (c0 : Cond) : GoodIn (c0 :: jW0) (va_wsS RL 67 yL_join wsL_join) := jGW klL_67 kL_join_s kini_L kL_join_c
theorem gL_X0_join (c0 : Cond) : GoodIn (c0 :: jW0) (wsV RL 17 RX0 yX0_join wsX0_join) := jGV klL_17 kX0_join_i kX0_join_v kini_X0 kX0_join_c
theorem gX0_X0_isRun (c0 : Cond) : GoodIn (c0 :: jW0) (va_wsS RX0 69 yX0_isRun wsX0_isRun) := jGS klX0_69 kX0_isRun_s kini_X0 kX0_isRun_c
theorem gX0_X0_isNode (c0 : Cond) : GoodIn (c0 :: jW0) (wsV RX0 73 RX0 yX0_isNode wsX0_isNode) := jGV klX0_73 kX0_isNode_i kX0_isNode_v kini_X0 kX0_isNode_c
theorem gX0_X0_hasParentBeside (c0 : Cond) : GoodIn (c0 :: jW0) (wsV RX0 84 RX0 yX0_hasParentBeside wsX0_hasParentBeside) := jGV klX0_84 kX0_hasParentBeside_i kX0_hasParentBeside_v kini_X0 kX0_hasParentBeside_c
theorem gX0_X0_setParents (c0 : Cond) : GoodIn (c0 :: jW0) (wsV RX0 90 RX0 yX0_setParents wsX0_setParents) := jGV klX0_90 kX0_setParents_i kX0_setParents_v kini_X0 kX0_setParents_c
theorem gL_L_part (c0 : Cond) : GoodIn (c0 :: jW0) (va_wsS RL 71 yL_part wsL_part) := jGW klL_71 kL_part_s kini_L kL_part_c
theorem gL_X0_part (c0 : Cond) : GoodIn (c0 :: jW0) (wsV RL 23 RX0 yX0_part wsX0_part) := jGV klL_23 kX0_part_i kX0_part_v kini_X0 kX0_part_c
theorem gL_L_site (c0 : Cond) : GoodIn (c0 :: jW0) (va_wsS RL 75 yL_site wsL_site) := jGW klL_75 kL_site_s kini_L kL_site_c
theorem gL_X0_site (c0 : Cond) : GoodIn (c0 :: jW0) (wsV RL 27 RX0 yX0_site wsX0_site) := jGV klL_27 kX0_site_i kX0_site_v kini_X0 kX0_site_c
theorem gX0_X0_isPlace (c0 : Cond) : GoodIn (c0 :: jW0) (va_wsS RX0 94 yX0_isPlace wsX0_isPlace) := jGS klX0_94 kX0_isPlace_s kini_X0 kX0_isPlace_c
theorem gX0_X0_hasSite (c0 : Cond) : GoodIn (c0 :: jW0) (wsV RX0 99 RX0 yX0_hasSite wsX0_hasSite) := jGV klX0_99 kX0_hasSite_i kX0_hasSite_v kini_X0 kX0_hasSite_c
theorem gL_L_mutate (c0 : Cond) : GoodIn (c0 :: jW0) (va_wsS RL 79 yL_mutate wsL_mutate) := jGW klL_79 kL_mutate_s kini_L kL_mutate_c
theorem gL_X0_mutate (c0 : Cond) : GoodIn (c0 :: jW0) (wsV RL 31 RX0 yX0_mutate wsX0_mutate) := jGV klL_31 kX0_mutate_i kX0_mutate_v kini_X0 kX0_mutate_c
theorem gX0_X0_isSite (c0 : Cond) : GoodIn (c0 :: jW0) (wsV RX0 106 RX0 yX0_isSite wsX0_isSite) := jGV klX0_106 kX0_isSite_i kX0_isSite_v kini_X0 kX0_isSite_c
theorem gL_L_time (c0 : Cond) : GoodIn (c0 :: jW0) (va_wsS RL 86 yL_time wsL_time) := jGW klL_86 kL_time_s kini_L kL_time_c
theorem gL_X0_time (c0 : Cond) : GoodIn (c0 :: jW0) (wsV RL 34 RX0 yX0_time wsX0_time) := jGV klL_34 kX0_time_i kX0_time_v kini_X0 kX0_time_c
theorem gL_L_edge (c0 : Cond) : GoodIn (c0 :: jW0) (va_wsS RL 90 yL_edge wsL_edge) := jGW klL_90 kL_edge_s kini_L kL_edge_c
theorem gL_X0_edge (c0 : Cond) : GoodIn (c0 :: jW0) (wsV RL 38 RX0 yX0_edge wsX0_edge) := jGV klL_38 kX0_edge_i kX0_edge_v kini_X0 kX0_edge_c
theorem gX0_X0_findEdge (c0 : Cond) : GoodIn (c0 :: jW0) (wsV RX0 125 RX0 yX0_findEdge wsX0_findEdge) := jGV klX0_125 kX0_findEdge_i kX0_findEdge_v kini_X0 kX0_findEdge_c
theorem gX0_X0_nextByTime (c0 : Cond) : GoodIn (c0 :: jW0) (wsV RX0 177 RX0 yX0_nextByTime wsX0_nextByTime) := jGV klX0_177 kX0_nextByTime_i kX0_nextByTime_v kini_X0 kX0_nextByTime_c
theorem gX0_X0_isEarlier (c0 : Cond) : GoodIn (c0 :: jW0) (wsV RX0 180 RX0 yX0_isEarlier wsX0_isEarlier) := jGV klX0_180 kX0_isEarlier_i kX0_isEarlier_v kini_X0 kX0_isEarlier_c
theorem gX0_X0_edgeEnd (c0 : Cond) : GoodIn (c0 :: jW0) (wsV RX0 131 RX0 yX0_edgeEnd wsX0_edgeEnd) := jGV klX0_131 kX0_edgeEnd_i kX0_edgeEnd_v kini_X0 kX0_edgeEnd_c
theorem gL_L_parent (c0 : Cond) : GoodIn (c0 :: jW0) (va_wsS RL 93 yL_parent wsL_parent) := jGW klL_93 kL_parent_s kini_L kL_parent_c
theorem gL_X0_parent (c0 : Cond) : GoodIn (c0 :: jW0) (wsV RL 41 RX0 yX0_parent wsX0_parent) := jGV klL_41 kX0_parent_i kX0_parent_v kini_X0 kX0_parent_c
theorem gL_L_meet (c0 : Cond) : GoodIn (c0 :: jW0) (va_wsS RL 96 yL_meet wsL_meet) := jGW klL_96 kL_meet_s kini_L kL_meet_c
theorem gL_X0_meet (c0 : Cond) : GoodIn (c0 :: jW0) (wsV RL 44 RX0 yX0_meet wsX0_meet) := jGV klL_44 kX0_meet_i kX0_meet_v kini_X0 kX0_meet_c
theorem gX0_X0_isAtOrAbove (c0 : Cond) : GoodIn (c0 :: jW0) (wsV RX0 140 RX0 yX0_isAtOrAbove wsX0_isAtOrAbove) := jGV klX0_140 kX0_isAtOrAbove_i kX0_isAtOrAbove_v kini_X0 kX0_isAtOrAbove_c
theorem gL_L_cut (c0 : Cond) : GoodIn (c0 :: jW0) (va_wsS RL 103 yL_cut wsL_cut) := jGW klL_103 kL_cut_s kini_L kL_cut_c
theorem gL_X0_cut (c0 : Cond) : GoodIn (c0 :: jW0) (wsV RL 47 RX0 yX0_cut wsX0_cut) := jGV klL_47 kX0_cut_i kX0_cut_v kini_X0 kX0_cut_c
theorem gL_L_letter (c0 : Cond) : GoodIn (c0 :: jW0) (va_wsS RL 106 yL_letter wsL_letter) := jGW klL_106 kL_letter_s kini_L kL_letter_c
theorem gL_X0_letter (c0 : Cond) : GoodIn (c0 :: jW0) (wsV RL 50 RX0 yX0_letter wsX0_letter) := jGV klL_50 kX0_letter_i kX0_letter_v kini_X0 kX0_letter_c
theorem gL_X1_init (c0 : Cond) : GoodIn (c0 :: jW0) wsX1_init := jGI kX1_init_c
theorem gL_X1_thrown (c0 : Cond) : GoodIn (c0 :: jW0) (wsV RL 63 RX1 yX1_thrown wsX1_thrown) := jGV klL_63 kX1_thrown_i kX1_thrown_v kini_X1 kX1_thrown_c
theorem gL_X1_node (c0 : Cond) : GoodIn (c0 :: jW0) (wsV RL 62 RX1 yX1_node wsX1_node) := jGV klL_62 kX1_node_i kX1_node_v kini_X1 kX1_node_c
theorem gX1_X1_refused (c0 : Cond) : GoodIn (c0 :: jW0) (wsV RX1 63 RX1 yX1_refused wsX1_refused) := jGV klX1_63 kX1_refused_i kX1_refused_v kini_X1 kX1_refused_c
theorem gL_X1_join (c0 : Cond) : GoodIn (c0 :: jW0) (wsV RL 70 RX1 yX1_join wsX1_join) := jGV klL_70 kX1_join_i kX1_join_v kini_X1 kX1_join_c
theorem gX1_X1_isRun (c0 : Cond) : GoodIn (c0 :: jW0) (va_wsS RX1 67 yX1_isRun wsX1_isRun) := jGS klX1_67 kX1_isRun_s kini_X1 kX1_isRun_c
theorem gX1_X1_isNode (c0 : Cond) : GoodIn (c0 :: jW0) (wsV RX1 70 RX1 yX1_isNode wsX1_isNode) := jGV klX1_70 kX1_isNode_i kX1_isNode_v kini_X1 kX1_isNode_c
theorem gX1_X1_up (c0 : Cond) : GoodIn (c0 :: jW0) (wsV RX1 48 RX1 yX1_up wsX1_up) := jGV klX1_48 kX1_up_i kX1_up_v kini_X1 kX1_up_c
theorem gL_X1_part (c0 : Cond) : GoodIn (c0 :: jW0) (wsV RL 74 RX1 yX1_part wsX1_part) := jGV klL_74 kX1_part_i kX1_part_v kini_X1 kX1_part_c
theorem gL_X1_site (c0 : Cond) : GoodIn (c0 :: jW0) (wsV RL 78 RX1 yX1_site wsX1_site) := jGV klL_78 kX1_site_i kX1_site_v kini_X1 kX1_site_c
theorem gX1_X1_isPlace (c0 : Cond) : GoodIn (c0 :: jW0) (va_wsS RX1 73 yX1_isPlace wsX1_isPlace) := jGS klX1_73 kX1_isPlace_s kini_X1 kX1_isPlace_c
theorem gX1_X1_isTaken (c0 : Cond) : GoodIn (c0 :: jW0) (wsV RX1 76 RX1 yX1_isTaken wsX1_isTaken) := jGV klX1_76 kX1_isTaken_i kX1_isTaken_v kini_X1 kX1_isTaken_c
theorem gL_X1_mutate (c0 : Cond) : GoodIn (c0 :: jW0) (wsV RL 81 RX1 yX1_mutate wsX1_mutate) := jGV klL_81 kX1_mutate_i kX1_mutate_v kini_X1 kX1_mutate_c
theorem gX1_X1_isSite (c0 : Cond) : GoodIn (c0 :: jW0) (wsV RX1 79 RX1 yX1_isSite wsX1_isSite) := jGV klX1_79 kX1_isSite_i kX1_isSite_v kini_X1 kX1_isSite_c
theorem gL_X1_count (c0 : Cond) : GoodIn (c0 :: jW0) (wsV RL 85 RX1 yX1_count wsX1_count) := jGV klL_85 kX1_count_i kX1_count_v kini_X1 kX1_count_c
theorem gX1_X1_samples (c0 : Cond) : GoodIn (c0 :: jW0) (wsV RX1 94 RX1 yX1_samples wsX1_samples) := jGV klX1_94 kX1_samples_i kX1_samples_v kini_X1 kX1_samples_c
theorem gX1_X1_find (c0 : Cond) : GoodIn (c0 :: jW0) (wsV RX1 98 RX1 yX1_find wsX1_find) := jGV klX1_98 kX1_find_i kX1_find_v kini_X1 kX1_find_c
theorem gX1_X1_begins (c0 : Cond) : GoodIn (c0 :: jW0) (wsV RX1 82 RX1 yX1_begins wsX1_begins) := jGV klX1_82 kX1_begins_i kX1_begins_v kini_X1 kX1_begins_c
theorem gL_X1_time (c0 : Cond) : GoodIn (c0 :: jW0) (wsV RL 89 RX1 yX1_time wsX1_time) := jGV klL_89 kX1_time_i kX1_time_v kini_X1 kX1_time_c
theorem gL_X1_edge (c0 : Cond) : GoodIn (c0 :: jW0) (wsV RL 92 RX1 yX1_edge wsX1_edge) := jGV klL_92 kX1_edge_i kX1_edge_v kini_X1 kX1_edge_c
theorem gL_X1_parent (c0 : Cond) : GoodIn (c0 :: jW0) (wsV RL 95 RX1 yX1_parent wsX1_parent) := jGV klL_95 kX1_parent_i kX1_parent_v kini_X1 kX1_parent_c
theorem gL_X1_meet (c0 : Cond) : GoodIn (c0 :: jW0) (wsV RL 98 RX1 yX1_meet wsX1_meet) := jGV klL_98 kX1_meet_i kX1_meet_v kini_X1 kX1_meet_c
theorem gX1_X1_holds (c0 : Cond) : GoodIn (c0 :: jW0) (wsV RX1 52 RX1 yX1_holds wsX1_holds) := jGV klX1_52 kX1_holds_i kX1_holds_v kini_X1 kX1_holds_c
theorem gL_X1_trees (c0 : Cond) : GoodIn (c0 :: jW0) (wsV RL 102 RX1 yX1_trees wsX1_trees) := jGV klL_102 kX1_trees_i kX1_trees_v kini_X1 kX1_trees_c
theorem gX1_X1_differs (c0 : Cond) : GoodIn (c0 :: jW0) (wsV RX1 105 RX1 yX1_differs wsX1_differs) := jGV klX1_105 kX1_differs_i kX1_differs_v kini_X1 kX1_differs_c
theorem gL_X1_cut (c0 : Cond) : GoodIn (c0 :: jW0) (wsV RL 105 RX1 yX1_cut wsX1_cut) := jGV klL_105 kX1_cut_i kX1_cut_v kini_X1 kX1_cut_c
theorem gX1_X1_trees (c0 : Cond) : GoodIn (c0 :: jW0) (wsV RX1 108 RX1 yX1_trees wsX1_trees) := jGV klX1_108 kX1_trees_i kX1_trees_v kini_X1 kX1_trees_c
theorem gL_X1_letter (c0 : Cond) : GoodIn (c0 :: jW0) (wsV RL 108 RX1 yX1_letter wsX1_letter) := jGV klL_108 kX1_letter_i kX1_letter_v kini_X1 kX1_letter_c
theorem gX1_X1_letterAt (c0 : Cond) : GoodIn (c0 :: jW0) (wsV RX1 111 RX1 yX1_letterAt wsX1_letterAt) := jGV klX1_111 kX1_letterAt_i kX1_letterAt_v kini_X1 kX1_letterAt_c
theorem gL_X1_differing (c0 : Cond) : GoodIn (c0 :: jW0) (wsV RL 112 RX1 yX1_differing wsX1_differing) := jGV klL_112 kX1_differing_i kX1_differing_v kini_X1 kX1_differing_c
theorem gL_X1_spectrum (c0 : Cond) : GoodIn (c0 :: jW0) (wsV RL 116 RX1 yX1_spectrum wsX1_spectrum) := jGV klL_116 kX1_spectrum_i kX1_spectrum_v kini_X1 kX1_spectrum_c
theorem gL_X1_area (c0 : Cond) : GoodIn (c0 :: jW0) (wsV RL 120 RX1 yX1_area wsX1_area) := jGV klL_120 kX1_area_i kX1_area_v kini_X1 kX1_area_c
theorem gX1_X1_under (c0 : Cond) : GoodIn (c0 :: jW0) (wsV RX1 56 RX1 yX1_under wsX1_under) := jGV klX1_56 kX1_under_i kX1_under_v kini_X1 kX1_under_c
theorem gL_X1_simplify (c0 : Cond) : GoodIn (c0 :: jW0) (wsV RL 124 RX1 yX1_simplify wsX1_simplify) := jGV klL_124 kX1_simplify_i kX1_simplify_v kini_X1 kX1_simplify_c
theorem gX1_X1_stays (c0 : Cond) : GoodIn (c0 :: jW0) (wsV RX1 117 RX1 yX1_stays wsX1_stays) := jGV klX1_117 kX1_stays_i kX1_stays_v kini_X1 kX1_stays_c
theorem gX1_X1_isFork (c0 : Cond) : GoodIn (c0 :: jW0) (wsV RX1 59 RX1 yX1_isFork wsX1_isFork) := jGV klX1_59 kX1_isFork_i kX1_isFork_v kini_X1 kX1_isFork_c
theorem gX1_X1_matters (c0 : Cond) : GoodIn (c0 :: jW0) (wsV RX1 114 RX1 yX1_matters wsX1_matters) := jGV klX1_114 kX1_matters_i kX1_matters_v kini_X1 kX1_matters_c
theorem gX1_X1_nearest (c0 : Cond) : GoodIn (c0 :: jW0) (wsV RX1 120 RX1 yX1_nearest wsX1_nearest) := jGV klX1_120 kX1_nearest_i kX1_nearest_v kini_X1 kX1_nearest_c
theorem gX1_X1_comes (c0 : Cond) : GoodIn (c0 :: jW0) (wsV RX1 123 RX1 yX1_comes wsX1_comes) := jGV klX1_123 kX1_comes_i kX1_comes_v kini_X1 kX1_comes_c
theorem gL_X1_became (c0 : Cond) : GoodIn (c0 :: jW0) (wsV RL 128 RX1 yX1_became wsX1_became) := jGV klL_128 kX1_became_i kX1_became_v kini_X1 kX1_became_c
