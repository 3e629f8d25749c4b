def RJ7 : String := "java/util/Arrays"
def RJ9 : String := "java/lang/Math"
def RJ13 : String := "java/lang/Long"
def yX10_isCell : MethodName := ⟨RX10, "isCell", "(J)Z"⟩
def yX10_bit : MethodName := ⟨RX10, "bit", "(I)J"⟩
def yX7_put : MethodName := ⟨RX7, "put", "(IIJLReactiveSheet$Formula;)V"⟩
def yX0_readCount : MethodName := ⟨RX0, "readCount", "(I)I"⟩
def yX0_takeFrom : MethodName := ⟨RX0, "takeFrom", "(LReactiveSheet$Cells;)V"⟩
def yJ7_fill_53178 : MethodName := ⟨RJ7, "fill", "([II)V"⟩
def yX0_startWave : MethodName := ⟨RX0, "startWave", "()V"⟩
def yX10_has : MethodName := ⟨RX10, "has", "(JI)Z"⟩
def yX0_become : MethodName := ⟨RX0, "become", "(IIJLReactiveSheet$Formula;)V"⟩
def yX7_tell : MethodName := ⟨RX7, "tell", "(LReactiveSheet$Cells;)V"⟩
def yX7_cells : MethodName := ⟨RX7, "cells", "()J"⟩
def yX0_plain : MethodName := ⟨RX0, "plain", "()J"⟩
def yX0_compare : MethodName := ⟨RX0, "compare", "(ILReactiveSheet$Cells;)V"⟩
def yX0_startRun : MethodName := ⟨RX0, "startRun", "(II)V"⟩
def yX0_formulaOf : MethodName := ⟨RX0, "formulaOf", "(I)LReactiveSheet$Formula;"⟩
def yX1_run : MethodName := ⟨RX1, "run", "(III)V"⟩
def yX0_heightOf : MethodName := ⟨RX0, "heightOf", "(I)I"⟩
def yJ9_max_7cf53 : MethodName := ⟨RJ9, "max", "(II)I"⟩
def yX0_measure : MethodName := ⟨RX0, "measure", "(I)V"⟩
def yX1_settle : MethodName := ⟨RX1, "settle", "(II)V"⟩
def yX1_back : MethodName := ⟨RX1, "back", "()V"⟩
def yJ13_bitCount_95d88 : MethodName := ⟨RJ13, "bitCount", "(J)I"⟩
def yX0_ranCount : MethodName := ⟨RX0, "ranCount", "()I"⟩
def yX1_go : MethodName := ⟨RX1, "go", "(LReactiveSheet$Telling;)I"⟩
def yX1_before : MethodName := ⟨RX1, "before", "()LReactiveSheet$Cells;"⟩
def yX1_now : MethodName := ⟨RX1, "now", "()LReactiveSheet$Cells;"⟩
def yX0_isChanged : MethodName := ⟨RX0, "isChanged", "(I)Z"⟩
def yX0_errorOf : MethodName := ⟨RX0, "errorOf", "(I)I"⟩
def yX0_numberOf : MethodName := ⟨RX0, "numberOf", "(I)J"⟩
def yX9_stirs : MethodName := ⟨RX9, "stirs", "(ILReactiveSheet$Cells;LReactiveSheet$Cells;)Z"⟩
def yX0_known : MethodName := ⟨RX0, "known", "(I)J"⟩
def yX9_note : MethodName := ⟨RX9, "note", "(ILReactiveSheet$Cells;LReactiveSheet$Cells;)V"⟩
def yX9_ask : MethodName := ⟨RX9, "ask", "(LReactiveSheet$Cells;LReactiveSheet$Cells;)I"⟩
def yX7_count : MethodName := ⟨RX7, "count", "()I"⟩
def yX0_changedCount : MethodName := ⟨RX0, "changedCount", "()I"⟩
def yJ9_floorMod_7cf53 : MethodName := ⟨RJ9, "floorMod", "(II)I"⟩
def yX3_add : MethodName := ⟨RX3, "add", "(IIII)V"⟩
def yX7_forget : MethodName := ⟨RX7, "forget", "()V"⟩
def yX10_surge : MethodName := ⟨RX10, "surge", "()I"⟩
def yX10_input : MethodName := ⟨RX10, "input", "(IJ)I"⟩
def yX5_here : MethodName := ⟨RX5, "here", "()I"⟩
def yX5_isFigure : MethodName := ⟨RX5, "isFigure", "(I)Z"⟩
def yX5_fail : MethodName := ⟨RX5, "fail", "(I)I"⟩
def yX5_number : MethodName := ⟨RX5, "number", "(I)I"⟩
def yX5_node : MethodName := ⟨RX5, "node", "(IIII)I"⟩
def yX5_skip : MethodName := ⟨RX5, "skip", "(I)Z"⟩
def yX5_cellNumber : MethodName := ⟨RX5, "cellNumber", "(I)I"⟩
def yX5_expect : MethodName := ⟨RX5, "expect", "(I)V"⟩
def yX5_not : MethodName := ⟨RX5, "not", "(I)I"⟩
def yX5_nested : MethodName := ⟨RX5, "nested", "(II)I"⟩
def yX5_factor : MethodName := ⟨RX5, "factor", "(I)I"⟩
def yX5_product : MethodName := ⟨RX5, "product", "(I)I"⟩
def yX5_sum : MethodName := ⟨RX5, "sum", "(I)I"⟩
def yX5_comparing : MethodName := ⟨RX5, "comparing", "(I)I"⟩
def yX5_comparison : MethodName := ⟨RX5, "comparison", "(I)I"⟩
def yX5_choice : MethodName := ⟨RX5, "choice", "(II)I"⟩
def yX5_take : MethodName := ⟨RX5, "take", "()LReactiveSheet$Formula;"⟩
def yX5_fault : MethodName := ⟨RX5, "fault", "()I"⟩
def yX10_define : MethodName := ⟨RX10, "define", "(I)I"⟩
def yX10_drop : MethodName := ⟨RX10, "drop", "(I)I"⟩
def yX10_copy : MethodName := ⟨RX10, "copy", "(II)I"⟩
def yX0_kindOf : MethodName := ⟨RX0, "kindOf", "(I)I"⟩
def yX10_freeze : MethodName := ⟨RX10, "freeze", "(I)I"⟩
def yX10_begin : MethodName := ⟨RX10, "begin", "()I"⟩
def yX10_end : MethodName := ⟨RX10, "end", "()I"⟩
def yX10_cancel : MethodName := ⟨RX10, "cancel", "()I"⟩
def yX5_add : MethodName := ⟨RX5, "add", "(I)Z"⟩
def yX5_length : MethodName := ⟨RX5, "length", "()I"⟩
def yX10_feed : MethodName := ⟨RX10, "feed", "(I)I"⟩
def yX5_wipe : MethodName := ⟨RX5, "wipe", "()I"⟩
def yX10_clear : MethodName := ⟨RX10, "clear", "()I"⟩
def yX10_value : MethodName := ⟨RX10, "value", "(I)J"⟩
def yX0_readersOf : MethodName := ⟨RX0, "readersOf", "(I)J"⟩
def yX0_below : MethodName := ⟨RX0, "below", "(I)J"⟩
def yX0_causeOf : MethodName := ⟨RX0, "causeOf", "(I)I"⟩
def yX0_hasRun : MethodName := ⟨RX0, "hasRun", "(I)Z"⟩
def yX0_runsOf : MethodName := ⟨RX0, "runsOf", "(I)I"⟩
def yX10_of : MethodName := ⟨RX10, "of", "(II)I"⟩
def yX0_readOf : MethodName := ⟨RX0, "readOf", "(II)I"⟩
def yX10_reads : MethodName := ⟨RX10, "reads", "(II)I"⟩
def yX10_readers : MethodName := ⟨RX10, "readers", "(I)J"⟩
def yX0_countOf : MethodName := ⟨RX0, "countOf", "(I)I"⟩
def yX0_present : MethodName := ⟨RX0, "present", "()I"⟩
def yX0_inOrder : MethodName := ⟨RX0, "inOrder", "(I)I"⟩
def yX10_order : MethodName := ⟨RX10, "order", "(I)I"⟩
def yX0_causeAbove : MethodName := ⟨RX0, "causeAbove", "(II)I"⟩
def yX10_why : MethodName := ⟨RX10, "why", "(II)I"⟩
def yX8_onward : MethodName := ⟨RX8, "onward", "(I)I"⟩
def yX8_stepsTo : MethodName := ⟨RX8, "stepsTo", "(II)I"⟩
def yX8_trace : MethodName := ⟨RX8, "trace", "(LReactiveSheet$Cells;II)I"⟩
def yX8_cellAt : MethodName := ⟨RX8, "cellAt", "(II)I"⟩
def yX10_way : MethodName := ⟨RX10, "way", "(III)I"⟩
def yX10_supposed : MethodName := ⟨RX10, "supposed", "(IJ)I"⟩
def yX10_whatIf : MethodName := ⟨RX10, "whatIf", "(IJI)J"⟩
def yX10_would : MethodName := ⟨RX10, "would", "(IJ)I"⟩
def yX0_reaches : MethodName := ⟨RX0, "reaches", "(IJ)Z"⟩
def yX10_seek : MethodName := ⟨RX10, "seek", "(IJIIJ)J"⟩
def yX10_spell : MethodName := ⟨RX10, "spell", "(I)I"⟩
def yX6_letter : MethodName := ⟨RX6, "letter", "(I)I"⟩
def yX10_paper : MethodName := ⟨RX10, "paper", "(I)I"⟩
def yX9_join : MethodName := ⟨RX9, "join", "(IIJ)I"⟩
def yX10_watch : MethodName := ⟨RX10, "watch", "(IIJ)I"⟩
def yX9_leave : MethodName := ⟨RX9, "leave", "(I)I"⟩
def yX10_quit : MethodName := ⟨RX10, "quit", "(I)I"⟩
def yX9_placeOf : MethodName := ⟨RX9, "placeOf", "(I)I"⟩
def yX9_entry : MethodName := ⟨RX9, "entry", "(II)I"⟩
def yX10_log : MethodName := ⟨RX10, "log", "(II)I"⟩
def yX9_number : MethodName := ⟨RX9, "number", "(II)J"⟩
def yX10_logged : MethodName := ⟨RX10, "logged", "(II)J"⟩
def yX0_greatestHeight : MethodName := ⟨RX0, "greatestHeight", "()I"⟩
def yX6_length : MethodName := ⟨RX6, "length", "()I"⟩
def yX9_entries : MethodName := ⟨RX9, "entries", "()I"⟩
def yX9_joined : MethodName := ⟨RX9, "joined", "()I"⟩
def yX3_waves : MethodName := ⟨RX3, "waves", "()I"⟩
def yX0_allRuns : MethodName := ⟨RX0, "allRuns", "()I"⟩
def yX10_told : MethodName := ⟨RX10, "told", "(I)I"⟩
def yX3_entry : MethodName := ⟨RX3, "entry", "(II)I"⟩
def yX10_past : MethodName := ⟨RX10, "past", "(II)I"⟩
def yX4_isList : MethodName := ⟨RX4, "isList", "(I)Z"⟩
def yJ7_rangeCheck_23922 : MethodName := ⟨RJ7, "rangeCheck", "(III)V"⟩
def yJ7_fill_bad5a : MethodName := ⟨RJ7, "fill", "([JIIJ)V"⟩
def yX4_make : MethodName := ⟨RX4, "make", "(II)V"⟩
def yX10_list : MethodName := ⟨RX10, "list", "(II)I"⟩
def yX4_isMade : MethodName := ⟨RX4, "isMade", "(I)Z"⟩
def yX4_hasPlace : MethodName := ⟨RX4, "hasPlace", "(IJ)Z"⟩
def yX4_put : MethodName := ⟨RX4, "put", "(IIJ)V"⟩
def yX10_set : MethodName := ⟨RX10, "set", "(IIJ)I"⟩
def yX4_at : MethodName := ⟨RX4, "at", "(II)J"⟩
def yX10_get : MethodName := ⟨RX10, "get", "(II)J"⟩
def yX4_hasRow : MethodName := ⟨RX4, "hasRow", "(III)Z"⟩
def yX4_carry : MethodName := ⟨RX4, "carry", "(IIIII)V"⟩
def yX10_move : MethodName := ⟨RX10, "move", "(IIIII)I"⟩
def yX0_listed : MethodName := ⟨RX0, "listed", "(I)J"⟩
def yX10_fill : MethodName := ⟨RX10, "fill", "(IIII)I"⟩
def yX10_pour : MethodName := ⟨RX10, "pour", "(IIII)I"⟩
def yX9_takeFrom : MethodName := ⟨RX9, "takeFrom", "(LReactiveSheet$Watching;)V"⟩
def yX10_image : MethodName := ⟨RX10, "image", "()I"⟩
def yX10_undo : MethodName := ⟨RX10, "undo", "()I"⟩
def yX11_isIn : MethodName := ⟨RX11, "isIn", "(III)Z"⟩
def yX11_isCell : MethodName := ⟨RX11, "isCell", "(I)Z"⟩
def yX11_tellsNothing : MethodName := ⟨RX11, "tellsNothing", "()V"⟩
def yX11_tell : MethodName := ⟨RX11, "tell", "(IIJI)V"⟩
def yX11_keepsAhead : MethodName := ⟨RX11, "keepsAhead", "()V"⟩
def yX11_ofCell : MethodName := ⟨RX11, "ofCell", "(I)I"⟩
def yX11_ofTold : MethodName := ⟨RX11, "ofTold", "(I)I"⟩
def yX11_swaps : MethodName := ⟨RX11, "swaps", "()V"⟩
def yX11_isOther : MethodName := ⟨RX11, "isOther", "(I)Z"⟩
def yX11_settle : MethodName := ⟨RX11, "settle", "(I)V"⟩
def yX11_goes : MethodName := ⟨RX11, "goes", "()Z"⟩
def yX11_laysBack : MethodName := ⟨RX11, "laysBack", "()V"⟩
def yX11_undoes : MethodName := ⟨RX11, "undoes", "()V"⟩
def yJ9_min_7cf53 : MethodName := ⟨RJ9, "min", "(II)I"⟩
def yX11_wave : MethodName := ⟨RX11, "wave", "()I"⟩
def yX11_ofBatch : MethodName := ⟨RX11, "ofBatch", "(I)I"⟩
def yX11_copies : MethodName := ⟨RX11, "copies", "(II)V"⟩
def yX11_told : MethodName := ⟨RX11, "told", "(IIJI)I"⟩
def yX11_input : MethodName := ⟨RX11, "input", "(IJ)I"⟩
def yX11_isFigure : MethodName := ⟨RX11, "isFigure", "()Z"⟩
def yX11_number : MethodName := ⟨RX11, "number", "(III)I"⟩
def yX11_node : MethodName := ⟨RX11, "node", "(IIII)I"⟩
def yX11_isAt : MethodName := ⟨RX11, "isAt", "(I)Z"⟩
def yX11_takes : MethodName := ⟨RX11, "takes", "(I)Z"⟩
def yX11_need : MethodName := ⟨RX11, "need", "(I)V"⟩
def yX11_readF : MethodName := ⟨RX11, "readF", "()I"⟩
def yX11_readT : MethodName := ⟨RX11, "readT", "()I"⟩
def yX11_readS : MethodName := ⟨RX11, "readS", "()I"⟩
def yX11_readC : MethodName := ⟨RX11, "readC", "()I"⟩
def yX11_readE : MethodName := ⟨RX11, "readE", "()I"⟩
def yX11_reads : MethodName := ⟨RX11, "reads", "(I)I"⟩
def yX11_define : MethodName := ⟨RX11, "define", "(I)I"⟩
def yX11_drop : MethodName := ⟨RX11, "drop", "(I)I"⟩
def yX11_copy : MethodName := ⟨RX11, "copy", "(II)I"⟩
def yX11_freeze : MethodName := ⟨RX11, "freeze", "(I)I"⟩
def yX11_begin : MethodName := ⟨RX11, "begin", "()I"⟩
def yX11_end : MethodName := ⟨RX11, "end", "()I"⟩
def yX11_batched : MethodName := ⟨RX11, "batched", "()I"⟩
def yX11_cancel : MethodName := ⟨RX11, "cancel", "()I"⟩
def yX11_feed : MethodName := ⟨RX11, "feed", "(I)I"⟩
def yX11_clear : MethodName := ⟨RX11, "clear", "()I"⟩
def yX11_value : MethodName := ⟨RX11, "value", "(I)J"⟩
def yX11_readers : MethodName := ⟨RX11, "readers", "(I)J"⟩
def yX11_ones : MethodName := ⟨RX11, "ones", "(J)I"⟩
def yX11_below : MethodName := ⟨RX11, "below", "(I)I"⟩
def yX11_height : MethodName := ⟨RX11, "height", "(I)I"⟩
def yX11_tellHeights : MethodName := ⟨RX11, "tellHeights", "()V"⟩
def yX11_of : MethodName := ⟨RX11, "of", "(II)I"⟩
def yX11_reads_ : MethodName := ⟨RX11, "reads", "(II)I"⟩
def yX11_order : MethodName := ⟨RX11, "order", "(I)I"⟩
def yX11_why : MethodName := ⟨RX11, "why", "(II)I"⟩
def yX11_way : MethodName := ⟨RX11, "way", "(III)I"⟩
def yX11_asIf : MethodName := ⟨RX11, "asIf", "(IJI)I"⟩
def yX11_whatIf : MethodName := ⟨RX11, "whatIf", "(IJI)J"⟩
def yX11_would : MethodName := ⟨RX11, "would", "(IJ)I"⟩
def yX11_seek : MethodName := ⟨RX11, "seek", "(IJIIJ)J"⟩
def yX11_spell : MethodName := ⟨RX11, "spell", "(I)I"⟩
def yX11_paper : MethodName := ⟨RX11, "paper", "(I)I"⟩
def yX11_watch : MethodName := ⟨RX11, "watch", "(IIJ)I"⟩
def yX11_quit : MethodName := ⟨RX11, "quit", "(I)I"⟩
def yX11_log_ : MethodName := ⟨RX11, "log", "(II)I"⟩
def yX11_logged : MethodName := ⟨RX11, "logged", "(II)J"⟩
def yX11_told_ : MethodName := ⟨RX11, "told", "(I)I"⟩
def yX11_past : MethodName := ⟨RX11, "past", "(II)I"⟩
def yX11_isList : MethodName := ⟨RX11, "isList", "(I)Z"⟩
def yX11_list : MethodName := ⟨RX11, "list", "(II)I"⟩
def yX11_set : MethodName := ⟨RX11, "set", "(IIJ)I"⟩
def yX11_get : MethodName := ⟨RX11, "get", "(II)J"⟩
def yX11_move : MethodName := ⟨RX11, "move", "(IIIII)I"⟩
def yX11_fill : MethodName := ⟨RX11, "fill", "(IIII)I"⟩
def yX11_pour : MethodName := ⟨RX11, "pour", "(IIII)I"⟩
def yX11_moves : MethodName := ⟨RX11, "moves", "([IZ)V"⟩
def yX11_moves_ : MethodName := ⟨RX11, "moves", "([ZZ)V"⟩
def yX11_moves__ : MethodName := ⟨RX11, "moves", "([JZ)V"⟩
def yX11_ofImage : MethodName := ⟨RX11, "ofImage", "(I)I"⟩
def yX11_movesAll : MethodName := ⟨RX11, "movesAll", "(Z)V"⟩
def yX11_present : MethodName := ⟨RX11, "present", "()I"⟩
def yX11_image : MethodName := ⟨RX11, "image", "()I"⟩
def yX11_undo : MethodName := ⟨RX11, "undo", "()I"⟩
theorem kw_0 : Cond.selects RX10 yX10_surge yX10_surge ∈ lw_gd := lw_g (List.mem_of_getElem? (i := 0) (by decide +kernel)) rfl
theorem kw_1 : Cond.selects RX1 yX1_settle yX1_settle ∈ lw_gd := lw_g (List.mem_of_getElem? (i := 1) (by decide +kernel)) rfl
theorem kw_3 : Cond.selects RX1 yX1_run yX1_run ∈ lw_gd := lw_g (List.mem_of_getElem? (i := 3) (by decide +kernel)) rfl
theorem kw_16 : Cond.selects RX9 yX9_stirs yX9_stirs ∈ lw_gd := lw_g (List.mem_of_getElem? (i := 16) (by decide +kernel)) rfl
theorem kw_17 : Cond.selects RX9 yX9_note yX9_note ∈ lw_gd := lw_g (List.mem_of_getElem? (i := 17) (by decide +kernel)) rfl
theorem kw_18 : Cond.selects RX5 yX5_choice yX5_choice ∈ lw_gd := lw_g (List.mem_of_getElem? (i := 18) (by decide +kernel)) rfl
theorem kw_19 : Cond.selects RX5 yX5_comparison yX5_comparison ∈ lw_gd := lw_g (List.mem_of_getElem? (i := 19) (by decide +kernel)) rfl
theorem kw_20 : Cond.selects RX5 yX5_sum yX5_sum ∈ lw_gd := lw_g (List.mem_of_getElem? (i := 20) (by decide +kernel)) rfl
theorem kw_21 : Cond.selects RX5 yX5_product yX5_product ∈ lw_gd := lw_g (List.mem_of_getElem? (i := 21) (by decide +kernel)) rfl
theorem kw_22 : Cond.selects RX5 yX5_factor yX5_factor ∈ lw_gd := lw_g (List.mem_of_getElem? (i := 22) (by decide +kernel)) rfl
theorem kw_23 : Cond.selects RX5 yX5_here yX5_here ∈ lw_gd := lw_g (List.mem_of_getElem? (i := 23) (by decide +kernel)) rfl
theorem kw_24 : Cond.selects RX5 yX5_number yX5_number ∈ lw_gd := lw_g (List.mem_of_getElem? (i := 24) (by decide +kernel)) rfl
theorem kw_25 : Cond.selects RX5 yX5_fail yX5_fail ∈ lw_gd := lw_g (List.mem_of_getElem? (i := 25) (by decide +kernel)) rfl
theorem kw_26 : Cond.selects RX5 yX5_node yX5_node ∈ lw_gd := lw_g (List.mem_of_getElem? (i := 26) (by decide +kernel)) rfl
theorem kw_27 : Cond.selects RX5 yX5_skip yX5_skip ∈ lw_gd := lw_g (List.mem_of_getElem? (i := 27) (by decide +kernel)) rfl
theorem kw_28 : Cond.selects RX5 yX5_cellNumber yX5_cellNumber ∈ lw_gd := lw_g (List.mem_of_getElem? (i := 28) (by decide +kernel)) rfl
theorem kw_29 : Cond.selects RX5 yX5_expect yX5_expect ∈ lw_gd := lw_g (List.mem_of_getElem? (i := 29) (by decide +kernel)) rfl
theorem kw_30 : Cond.selects RX5 yX5_nested yX5_nested ∈ lw_gd := lw_g (List.mem_of_getElem? (i := 30) (by decide +kernel)) rfl
theorem kw_31 : Cond.selects RX5 yX5_not yX5_not ∈ lw_gd := lw_g (List.mem_of_getElem? (i := 31) (by decide +kernel)) rfl
theorem kw_32 : Cond.selects RX5 yX5_comparing yX5_comparing ∈ lw_gd := lw_g (List.mem_of_getElem? (i := 32) (by decide +kernel)) rfl
theorem kw_33 : Cond.selects RX8 yX8_stepsTo yX8_stepsTo ∈ lw_gd := lw_g (List.mem_of_getElem? (i := 33) (by decide +kernel)) rfl
theorem kw_34 : Cond.selects RX8 yX8_onward yX8_onward ∈ lw_gd := lw_g (List.mem_of_getElem? (i := 34) (by decide +kernel)) rfl
theorem kw_35 : Cond.selects RX10 yX10_supposed yX10_supposed ∈ lw_gd := lw_g (List.mem_of_getElem? (i := 35) (by decide +kernel)) rfl
theorem kw_43 : Cond.selects RX9 yX9_placeOf yX9_placeOf ∈ lw_gd := lw_g (List.mem_of_getElem? (i := 43) (by decide +kernel)) rfl
theorem kw_44 : Cond.selects RX11 yX11_told yX11_told ∈ lw_gd := lw_g (List.mem_of_getElem? (i := 44) (by decide +kernel)) rfl
theorem kw_45 : Cond.selects RX11 yX11_tellsNothing yX11_tellsNothing ∈ lw_gd := lw_g (List.mem_of_getElem? (i := 45) (by decide +kernel)) rfl
theorem kw_46 : Cond.selects RX11 yX11_tell yX11_tell ∈ lw_gd := lw_g (List.mem_of_getElem? (i := 46) (by decide +kernel)) rfl
theorem kw_47 : Cond.selects RX11 yX11_wave yX11_wave ∈ lw_gd := lw_g (List.mem_of_getElem? (i := 47) (by decide +kernel)) rfl
theorem kw_48 : Cond.selects RX11 yX11_goes yX11_goes ∈ lw_gd := lw_g (List.mem_of_getElem? (i := 48) (by decide +kernel)) rfl
theorem kw_49 : Cond.selects RX11 yX11_keepsAhead yX11_keepsAhead ∈ lw_gd := lw_g (List.mem_of_getElem? (i := 49) (by decide +kernel)) rfl
theorem kw_50 : Cond.selects RX11 yX11_swaps yX11_swaps ∈ lw_gd := lw_g (List.mem_of_getElem? (i := 50) (by decide +kernel)) rfl
theorem kw_52 : Cond.selects RX11 yX11_isOther yX11_isOther ∈ lw_gd := lw_g (List.mem_of_getElem? (i := 52) (by decide +kernel)) rfl
theorem kw_53 : Cond.selects RX11 yX11_settle yX11_settle ∈ lw_gd := lw_g (List.mem_of_getElem? (i := 53) (by decide +kernel)) rfl
theorem kw_60 : Cond.selects RX11 yX11_undoes yX11_undoes ∈ lw_gd := lw_g (List.mem_of_getElem? (i := 60) (by decide +kernel)) rfl
theorem kw_61 : Cond.selects RX11 yX11_laysBack yX11_laysBack ∈ lw_gd := lw_g (List.mem_of_getElem? (i := 61) (by decide +kernel)) rfl
theorem kw_64 : Cond.selects RX11 yX11_copies yX11_copies ∈ lw_gd := lw_g (List.mem_of_getElem? (i := 64) (by decide +kernel)) rfl
theorem kw_65 : Cond.selects RX11 yX11_reads yX11_reads ∈ lw_gd := lw_g (List.mem_of_getElem? (i := 65) (by decide +kernel)) rfl
theorem kw_66 : Cond.selects RX11 yX11_readE yX11_readE ∈ lw_gd := lw_g (List.mem_of_getElem? (i := 66) (by decide +kernel)) rfl
theorem kw_67 : Cond.selects RX11 yX11_readC yX11_readC ∈ lw_gd := lw_g (List.mem_of_getElem? (i := 67) (by decide +kernel)) rfl
theorem kw_68 : Cond.selects RX11 yX11_readS yX11_readS ∈ lw_gd := lw_g (List.mem_of_getElem? (i := 68) (by decide +kernel)) rfl
theorem kw_69 : Cond.selects RX11 yX11_readT yX11_readT ∈ lw_gd := lw_g (List.mem_of_getElem? (i := 69) (by decide +kernel)) rfl
theorem kw_70 : Cond.selects RX11 yX11_readF yX11_readF ∈ lw_gd := lw_g (List.mem_of_getElem? (i := 70) (by decide +kernel)) rfl
theorem kw_71 : Cond.selects RX11 yX11_isFigure yX11_isFigure ∈ lw_gd := lw_g (List.mem_of_getElem? (i := 71) (by decide +kernel)) rfl
theorem kw_72 : Cond.selects RX11 yX11_number yX11_number ∈ lw_gd := lw_g (List.mem_of_getElem? (i := 72) (by decide +kernel)) rfl
theorem kw_73 : Cond.selects RX11 yX11_node yX11_node ∈ lw_gd := lw_g (List.mem_of_getElem? (i := 73) (by decide +kernel)) rfl
theorem kw_74 : Cond.selects RX11 yX11_takes yX11_takes ∈ lw_gd := lw_g (List.mem_of_getElem? (i := 74) (by decide +kernel)) rfl
theorem kw_75 : Cond.selects RX11 yX11_isAt yX11_isAt ∈ lw_gd := lw_g (List.mem_of_getElem? (i := 75) (by decide +kernel)) rfl
theorem kw_76 : Cond.selects RX11 yX11_need yX11_need ∈ lw_gd := lw_g (List.mem_of_getElem? (i := 76) (by decide +kernel)) rfl
theorem kw_78 : Cond.selects RX11 yX11_batched yX11_batched ∈ lw_gd := lw_g (List.mem_of_getElem? (i := 78) (by decide +kernel)) rfl
theorem kw_79 : Cond.selects RX11 yX11_tellHeights yX11_tellHeights ∈ lw_gd := lw_g (List.mem_of_getElem? (i := 79) (by decide +kernel)) rfl
theorem kw_80 : Cond.selects RX11 yX11_height yX11_height ∈ lw_gd := lw_g (List.mem_of_getElem? (i := 80) (by decide +kernel)) rfl
theorem kw_81 : Cond.selects RX11 yX11_below yX11_below ∈ lw_gd := lw_g (List.mem_of_getElem? (i := 81) (by decide +kernel)) rfl
theorem kw_82 : Cond.selects RX11 yX11_asIf yX11_asIf ∈ lw_gd := lw_g (List.mem_of_getElem? (i := 82) (by decide +kernel)) rfl
theorem kw_86 : Cond.selects RX11 yX11_movesAll yX11_movesAll ∈ lw_gd := lw_g (List.mem_of_getElem? (i := 86) (by decide +kernel)) rfl
theorem kw_87 : Cond.selects RX11 yX11_moves yX11_moves ∈ lw_gd := lw_g (List.mem_of_getElem? (i := 87) (by decide +kernel)) rfl
theorem kw_88 : Cond.selects RX11 yX11_moves_ yX11_moves_ ∈ lw_gd := lw_g (List.mem_of_getElem? (i := 88) (by decide +kernel)) rfl
theorem kw_89 : Cond.selects RX11 yX11_moves__ yX11_moves__ ∈ lw_gd := lw_g (List.mem_of_getElem? (i := 89) (by decide +kernel)) rfl
theorem kw_90 : Cond.selects RX11 yX11_present yX11_present ∈ lw_gd := lw_g (List.mem_of_getElem? (i := 90) (by decide +kernel)) rfl
theorem kw_92 : Cond.initialized RX10 ∈ lw_gd := lw_g (List.mem_of_getElem? (i := 92) (by decide +kernel)) rfl
theorem kw_93 : Cond.initialized RX5 ∈ lw_gd := lw_g (List.mem_of_getElem? (i := 93) (by decide +kernel)) rfl
theorem kw_94 : Cond.initialized RX6 ∈ lw_gd := lw_g (List.mem_of_getElem? (i := 94) (by decide +kernel)) rfl
theorem kw_95 : Cond.initialized RX1 ∈ lw_gd := lw_g (List.mem_of_getElem? (i := 95) (by decide +kernel)) rfl
theorem kw_96 : Cond.initialized RX0 ∈ lw_gd := lw_g (List.mem_of_getElem? (i := 96) (by decide +kernel)) rfl
theorem kw_97 : Cond.initialized RX7 ∈ lw_gd := lw_g (List.mem_of_getElem? (i := 97) (by decide +kernel)) rfl
theorem kw_98 : Cond.initialized RX9 ∈ lw_gd := lw_g (List.mem_of_getElem? (i := 98) (by decide +kernel)) rfl
theorem kw_99 : Cond.initialized RX3 ∈ lw_gd := lw_g (List.mem_of_getElem? (i := 99) (by decide +kernel)) rfl
theorem kw_100 : Cond.initialized RX4 ∈ lw_gd := lw_g (List.mem_of_getElem? (i := 100) (by decide +kernel)) rfl
theorem kw_101 : Cond.initialized RX8 ∈ lw_gd := lw_g (List.mem_of_getElem? (i := 101) (by decide +kernel)) rfl
theorem kw_102 : Cond.initialized RX11 ∈ lw_gd := lw_g (List.mem_of_getElem? (i := 102) (by decide +kernel)) rfl
theorem kw_103 : Cond.initialized "java/lang/System" ∈ lw_gd := lw_g (List.mem_of_getElem? (i := 103) (by decide +kernel)) rfl
theorem kw_104 : Cond.initialized RJ7 ∈ lw_gd := lw_g (List.mem_of_getElem? (i := 104) (by decide +kernel)) rfl
theorem kw_106 : Cond.initialized RJ9 ∈ lw_gd := lw_g (List.mem_of_getElem? (i := 106) (by decide +kernel)) rfl
theorem kw_107 : Cond.initialized RJ13 ∈ lw_gd := lw_g (List.mem_of_getElem? (i := 107) (by decide +kernel)) rfl
theorem kw_122 : Cond.fieldLink RX5 9 "ReactiveSheet$Parser" "tape" "[I" ∈ lw_gd := lw_g (List.mem_of_getElem? (i := 122) (by decide +kernel)) rfl
theorem kw_123 : Cond.fieldLink RX5 15 "ReactiveSheet$Parser" "kinds" "[I" ∈ lw_gd := lw_g (List.mem_of_getElem? (i := 123) (by decide +kernel)) rfl
theorem kw_124 : Cond.fieldLink RX5 18 "ReactiveSheet$Parser" "firsts" "[I" ∈ lw_gd := lw_g (List.mem_of_getElem? (i := 124) (by decide +kernel)) rfl
theorem kw_125 : Cond.fieldLink RX5 21 "ReactiveSheet$Parser" "seconds" "[I" ∈ lw_gd := lw_g (List.mem_of_getElem? (i := 125) (by decide +kernel)) rfl
theorem kw_126 : Cond.fieldLink RX5 24 "ReactiveSheet$Parser" "thirds" "[I" ∈ lw_gd := lw_g (List.mem_of_getElem? (i := 126) (by decide +kernel)) rfl
theorem kw_127 : Cond.fieldLink RX5 27 "ReactiveSheet$Parser" "rescues" "[I" ∈ lw_gd := lw_g (List.mem_of_getElem? (i := 127) (by decide +kernel)) rfl
theorem kw_128 : Cond.fieldLink RX5 30 "ReactiveSheet$Parser" "length" "I" ∈ lw_gd := lw_g (List.mem_of_getElem? (i := 128) (by decide +kernel)) rfl
theorem kw_129 : Cond.fieldLink RX5 34 "ReactiveSheet$Parser" "place" "I" ∈ lw_gd := lw_g (List.mem_of_getElem? (i := 129) (by decide +kernel)) rfl
theorem kw_130 : Cond.fieldLink RX5 37 "ReactiveSheet$Parser" "fault" "I" ∈ lw_gd := lw_g (List.mem_of_getElem? (i := 130) (by decide +kernel)) rfl
theorem kw_131 : Cond.fieldLink RX5 40 "ReactiveSheet$Parser" "nodes" "I" ∈ lw_gd := lw_g (List.mem_of_getElem? (i := 131) (by decide +kernel)) rfl
theorem kw_160 : Cond.fieldLink RX6 11 "ReactiveSheet$Speller" "paper" "[I" ∈ lw_gd := lw_g (List.mem_of_getElem? (i := 160) (by decide +kernel)) rfl
theorem kw_162 : Cond.fieldLink RX6 18 "ReactiveSheet$Speller" "length" "I" ∈ lw_gd := lw_g (List.mem_of_getElem? (i := 162) (by decide +kernel)) rfl
theorem kw_187 : Cond.fieldLink RX0 9 "ReactiveSheet$Cells" "kinds" "[I" ∈ lw_gd := lw_g (List.mem_of_getElem? (i := 187) (by decide +kernel)) rfl
theorem kw_188 : Cond.fieldLink RX0 15 "ReactiveSheet$Cells" "numbers" "[J" ∈ lw_gd := lw_g (List.mem_of_getElem? (i := 188) (by decide +kernel)) rfl
theorem kw_189 : Cond.fieldLink RX0 19 "ReactiveSheet$Cells" "errors" "[I" ∈ lw_gd := lw_g (List.mem_of_getElem? (i := 189) (by decide +kernel)) rfl
theorem kw_190 : Cond.fieldLink RX0 24 "ReactiveSheet$Cells" "formulas" "[LReactiveSheet$Formula;" ∈ lw_gd := lw_g (List.mem_of_getElem? (i := 190) (by decide +kernel)) rfl
theorem kw_191 : Cond.fieldLink RX0 28 "ReactiveSheet$Cells" "runs" "[I" ∈ lw_gd := lw_g (List.mem_of_getElem? (i := 191) (by decide +kernel)) rfl
theorem kw_192 : Cond.fieldLink RX0 31 "ReactiveSheet$Cells" "heights" "[I" ∈ lw_gd := lw_g (List.mem_of_getElem? (i := 192) (by decide +kernel)) rfl
theorem kw_193 : Cond.fieldLink RX0 34 "ReactiveSheet$Cells" "causes" "[I" ∈ lw_gd := lw_g (List.mem_of_getElem? (i := 193) (by decide +kernel)) rfl
theorem kw_194 : Cond.fieldLink RX0 37 "ReactiveSheet$Cells" "reads" "[I" ∈ lw_gd := lw_g (List.mem_of_getElem? (i := 194) (by decide +kernel)) rfl
theorem kw_195 : Cond.fieldLink RX0 40 "ReactiveSheet$Cells" "readCounts" "[I" ∈ lw_gd := lw_g (List.mem_of_getElem? (i := 195) (by decide +kernel)) rfl
theorem kw_196 : Cond.fieldLink RX0 43 "ReactiveSheet$Cells" "readBits" "[J" ∈ lw_gd := lw_g (List.mem_of_getElem? (i := 196) (by decide +kernel)) rfl
theorem kw_197 : Cond.fieldLink RX0 46 "ReactiveSheet$Cells" "changed" "J" ∈ lw_gd := lw_g (List.mem_of_getElem? (i := 197) (by decide +kernel)) rfl
theorem kw_198 : Cond.fieldLink RX0 50 "ReactiveSheet$Cells" "ran" "J" ∈ lw_gd := lw_g (List.mem_of_getElem? (i := 198) (by decide +kernel)) rfl
theorem kw_225 : Cond.fieldLink RX1 12 "ReactiveSheet$Engine" "now" "LReactiveSheet$Cells;" ∈ lw_gd := lw_g (List.mem_of_getElem? (i := 225) (by decide +kernel)) rfl
theorem kw_226 : Cond.fieldLink RX1 18 "ReactiveSheet$Engine" "before" "LReactiveSheet$Cells;" ∈ lw_gd := lw_g (List.mem_of_getElem? (i := 226) (by decide +kernel)) rfl
theorem kw_228 : Cond.fieldLink RX1 27 "ReactiveSheet$Engine" "fresh" "J" ∈ lw_gd := lw_g (List.mem_of_getElem? (i := 228) (by decide +kernel)) rfl
theorem kw_229 : Cond.fieldLink RX1 31 "ReactiveSheet$Engine" "settled" "J" ∈ lw_gd := lw_g (List.mem_of_getElem? (i := 229) (by decide +kernel)) rfl
theorem kw_230 : Cond.fieldLink RX1 34 "ReactiveSheet$Engine" "open" "J" ∈ lw_gd := lw_g (List.mem_of_getElem? (i := 230) (by decide +kernel)) rfl
theorem kw_231 : Cond.fieldLink RX1 37 "ReactiveSheet$Engine" "ring" "Z" ∈ lw_gd := lw_g (List.mem_of_getElem? (i := 231) (by decide +kernel)) rfl
theorem kw_257 : Cond.fieldLink RX7 9 "ReactiveSheet$Telling" "kinds" "[I" ∈ lw_gd := lw_g (List.mem_of_getElem? (i := 257) (by decide +kernel)) rfl
theorem kw_258 : Cond.fieldLink RX7 15 "ReactiveSheet$Telling" "numbers" "[J" ∈ lw_gd := lw_g (List.mem_of_getElem? (i := 258) (by decide +kernel)) rfl
theorem kw_259 : Cond.fieldLink RX7 21 "ReactiveSheet$Telling" "formulas" "[LReactiveSheet$Formula;" ∈ lw_gd := lw_g (List.mem_of_getElem? (i := 259) (by decide +kernel)) rfl
theorem kw_260 : Cond.fieldLink RX7 25 "ReactiveSheet$Telling" "cells" "J" ∈ lw_gd := lw_g (List.mem_of_getElem? (i := 260) (by decide +kernel)) rfl
theorem kw_276 : Cond.fieldLink RX9 11 "ReactiveSheet$Watching" "cells" "[I" ∈ lw_gd := lw_g (List.mem_of_getElem? (i := 276) (by decide +kernel)) rfl
theorem kw_277 : Cond.fieldLink RX9 15 "ReactiveSheet$Watching" "kinds" "[I" ∈ lw_gd := lw_g (List.mem_of_getElem? (i := 277) (by decide +kernel)) rfl
theorem kw_278 : Cond.fieldLink RX9 18 "ReactiveSheet$Watching" "bounds" "[J" ∈ lw_gd := lw_g (List.mem_of_getElem? (i := 278) (by decide +kernel)) rfl
theorem kw_279 : Cond.fieldLink RX9 22 "ReactiveSheet$Watching" "joined" "I" ∈ lw_gd := lw_g (List.mem_of_getElem? (i := 279) (by decide +kernel)) rfl
theorem kw_280 : Cond.fieldLink RX9 26 "ReactiveSheet$Watching" "telling" "J" ∈ lw_gd := lw_g (List.mem_of_getElem? (i := 280) (by decide +kernel)) rfl
theorem kw_281 : Cond.fieldLink RX9 30 "ReactiveSheet$Watching" "who" "[I" ∈ lw_gd := lw_g (List.mem_of_getElem? (i := 281) (by decide +kernel)) rfl
theorem kw_282 : Cond.fieldLink RX9 33 "ReactiveSheet$Watching" "oldErrors" "[I" ∈ lw_gd := lw_g (List.mem_of_getElem? (i := 282) (by decide +kernel)) rfl
theorem kw_283 : Cond.fieldLink RX9 36 "ReactiveSheet$Watching" "newErrors" "[I" ∈ lw_gd := lw_g (List.mem_of_getElem? (i := 283) (by decide +kernel)) rfl
theorem kw_284 : Cond.fieldLink RX9 39 "ReactiveSheet$Watching" "oldNumbers" "[J" ∈ lw_gd := lw_g (List.mem_of_getElem? (i := 284) (by decide +kernel)) rfl
theorem kw_285 : Cond.fieldLink RX9 42 "ReactiveSheet$Watching" "newNumbers" "[J" ∈ lw_gd := lw_g (List.mem_of_getElem? (i := 285) (by decide +kernel)) rfl
theorem kw_286 : Cond.fieldLink RX9 45 "ReactiveSheet$Watching" "oldest" "I" ∈ lw_gd := lw_g (List.mem_of_getElem? (i := 286) (by decide +kernel)) rfl
theorem kw_287 : Cond.fieldLink RX9 48 "ReactiveSheet$Watching" "entries" "I" ∈ lw_gd := lw_g (List.mem_of_getElem? (i := 287) (by decide +kernel)) rfl
theorem kw_319 : Cond.fieldLink RX3 11 "ReactiveSheet$History" "facts" "[I" ∈ lw_gd := lw_g (List.mem_of_getElem? (i := 319) (by decide +kernel)) rfl
theorem kw_320 : Cond.fieldLink RX3 15 "ReactiveSheet$History" "waves" "I" ∈ lw_gd := lw_g (List.mem_of_getElem? (i := 320) (by decide +kernel)) rfl
theorem kw_332 : Cond.fieldLink RX4 11 "ReactiveSheet$Lists" "places" "[J" ∈ lw_gd := lw_g (List.mem_of_getElem? (i := 332) (by decide +kernel)) rfl
theorem kw_333 : Cond.fieldLink RX4 15 "ReactiveSheet$Lists" "sizes" "[I" ∈ lw_gd := lw_g (List.mem_of_getElem? (i := 333) (by decide +kernel)) rfl
theorem kw_345 : Cond.fieldLink RX8 9 "ReactiveSheet$Trail" "met" "[I" ∈ lw_gd := lw_g (List.mem_of_getElem? (i := 345) (by decide +kernel)) rfl
theorem kw_346 : Cond.fieldLink RX8 15 "ReactiveSheet$Trail" "onward" "[I" ∈ lw_gd := lw_g (List.mem_of_getElem? (i := 346) (by decide +kernel)) rfl
theorem kw_354 : Cond.fieldLink RX10 12 "ReactiveSheet" "parser" "LReactiveSheet$Parser;" ∈ lw_gd := lw_g (List.mem_of_getElem? (i := 354) (by decide +kernel)) rfl
theorem kw_355 : Cond.fieldLink RX10 21 "ReactiveSheet" "speller" "LReactiveSheet$Speller;" ∈ lw_gd := lw_g (List.mem_of_getElem? (i := 355) (by decide +kernel)) rfl
theorem kw_356 : Cond.fieldLink RX10 28 "ReactiveSheet" "engine" "LReactiveSheet$Engine;" ∈ lw_gd := lw_g (List.mem_of_getElem? (i := 356) (by decide +kernel)) rfl
theorem kw_357 : Cond.fieldLink RX10 35 "ReactiveSheet" "telling" "LReactiveSheet$Telling;" ∈ lw_gd := lw_g (List.mem_of_getElem? (i := 357) (by decide +kernel)) rfl
theorem kw_358 : Cond.fieldLink RX10 39 "ReactiveSheet" "trial" "LReactiveSheet$Telling;" ∈ lw_gd := lw_g (List.mem_of_getElem? (i := 358) (by decide +kernel)) rfl
theorem kw_359 : Cond.fieldLink RX10 45 "ReactiveSheet" "watching" "LReactiveSheet$Watching;" ∈ lw_gd := lw_g (List.mem_of_getElem? (i := 359) (by decide +kernel)) rfl
theorem kw_360 : Cond.fieldLink RX10 52 "ReactiveSheet" "history" "LReactiveSheet$History;" ∈ lw_gd := lw_g (List.mem_of_getElem? (i := 360) (by decide +kernel)) rfl
theorem kw_361 : Cond.fieldLink RX10 59 "ReactiveSheet" "lists" "LReactiveSheet$Lists;" ∈ lw_gd := lw_g (List.mem_of_getElem? (i := 361) (by decide +kernel)) rfl
theorem kw_362 : Cond.fieldLink RX10 66 "ReactiveSheet" "trail" "LReactiveSheet$Trail;" ∈ lw_gd := lw_g (List.mem_of_getElem? (i := 362) (by decide +kernel)) rfl
theorem kw_363 : Cond.fieldLink RX10 73 "ReactiveSheet" "keptCells" "LReactiveSheet$Cells;" ∈ lw_gd := lw_g (List.mem_of_getElem? (i := 363) (by decide +kernel)) rfl
theorem kw_364 : Cond.fieldLink RX10 77 "ReactiveSheet" "keptWatching" "LReactiveSheet$Watching;" ∈ lw_gd := lw_g (List.mem_of_getElem? (i := 364) (by decide +kernel)) rfl
theorem kw_365 : Cond.fieldLink RX10 80 "ReactiveSheet" "batch" "Z" ∈ lw_gd := lw_g (List.mem_of_getElem? (i := 365) (by decide +kernel)) rfl
theorem kw_366 : Cond.fieldLink RX10 84 "ReactiveSheet" "kept" "Z" ∈ lw_gd := lw_g (List.mem_of_getElem? (i := 366) (by decide +kernel)) rfl
theorem kw_398 : Cond.methodLink RX10 87 yX10_isCell ∈ lw_gd := lw_g (List.mem_of_getElem? (i := 398) (by decide +kernel)) rfl
theorem kw_399 : Cond.static yX10_isCell ∈ lw_gd := lw_g (List.mem_of_getElem? (i := 399) (by decide +kernel)) rfl
theorem kw_400 : Cond.code yX10_isCell prog_1_method_38_code 2 (some .boolean) ∈ lw_gd := lw_g (List.mem_of_getElem? (i := 400) (by decide +kernel)) rfl
theorem kw_401 : Cond.constantLong RX10 296 (32) ∈ lw_gd := lw_g (List.mem_of_getElem? (i := 401) (by decide +kernel)) rfl
theorem kw_402 : Cond.methodLink RX10 91 yX7_put ∈ lw_gd := lw_g (List.mem_of_getElem? (i := 402) (by decide +kernel)) rfl
theorem kw_403 : Cond.instanceMethod yX7_put ∈ lw_gd := lw_g (List.mem_of_getElem? (i := 403) (by decide +kernel)) rfl
theorem kw_404 : Cond.selects RX7 yX7_put yX7_put ∈ lw_gd := lw_g (List.mem_of_getElem? (i := 404) (by decide +kernel)) rfl
theorem kw_405 : Cond.code yX7_put prog_9_method_2_code 6 none ∈ lw_gd := lw_g (List.mem_of_getElem? (i := 405) (by decide +kernel)) rfl
theorem kw_406 : Cond.methodLinkNest RX7 29 yX10_isCell "ReactiveSheet" ∈ lw_ns := lw_n (List.mem_of_getElem? (i := 406) (by decide +kernel)) rfl
theorem kw_407 : Cond.methodLinkNest RX7 33 yX10_bit "ReactiveSheet" ∈ lw_ns := lw_n (List.mem_of_getElem? (i := 407) (by decide +kernel)) rfl
theorem kw_408 : Cond.static yX10_bit ∈ lw_gd := lw_g (List.mem_of_getElem? (i := 408) (by decide +kernel)) rfl
theorem kw_409 : Cond.code yX10_bit prog_1_method_39_code 1 (some .long) ∈ lw_gd := lw_g (List.mem_of_getElem? (i := 409) (by decide +kernel)) rfl
theorem kw_410 : Cond.methodLink RX10 95 yX10_surge ∈ lw_gd := lw_g (List.mem_of_getElem? (i := 410) (by decide +kernel)) rfl
theorem kw_412 : Cond.instanceMethod yX10_surge ∈ lw_gd := lw_g (List.mem_of_getElem? (i := 412) (by decide +kernel)) rfl
theorem kw_413 : Cond.code yX10_surge prog_1_method_41_code 3 (some .int) ∈ lw_gd := lw_g (List.mem_of_getElem? (i := 413) (by decide +kernel)) rfl
theorem kw_414 : Cond.methodLink RX10 298 yX1_go ∈ lw_gd := lw_g (List.mem_of_getElem? (i := 414) (by decide +kernel)) rfl
theorem kw_415 : Cond.instanceMethod yX1_go ∈ lw_gd := lw_g (List.mem_of_getElem? (i := 415) (by decide +kernel)) rfl
theorem kw_416 : Cond.selects RX1 yX1_go yX1_go ∈ lw_gd := lw_g (List.mem_of_getElem? (i := 416) (by decide +kernel)) rfl
theorem kw_417 : Cond.code yX1_go prog_3_method_5_code 3 (some .int) ∈ lw_gd := lw_g (List.mem_of_getElem? (i := 417) (by decide +kernel)) rfl
theorem kw_418 : Cond.methodLink RX1 44 yX0_takeFrom ∈ lw_gd := lw_g (List.mem_of_getElem? (i := 418) (by decide +kernel)) rfl
theorem kw_419 : Cond.instanceMethod yX0_takeFrom ∈ lw_gd := lw_g (List.mem_of_getElem? (i := 419) (by decide +kernel)) rfl
theorem kw_420 : Cond.selects RX0 yX0_takeFrom yX0_takeFrom ∈ lw_gd := lw_g (List.mem_of_getElem? (i := 420) (by decide +kernel)) rfl
theorem kw_421 : Cond.code yX0_takeFrom prog_2_method_2_code 4 none ∈ lw_gd := lw_g (List.mem_of_getElem? (i := 421) (by decide +kernel)) rfl
theorem kw_422 : Cond.methodLink RX0 53 arraycopyName ∈ lw_gd := lw_g (List.mem_of_getElem? (i := 422) (by decide +kernel)) rfl
theorem kw_423 : Cond.static arraycopyName ∈ lw_gd := lw_g (List.mem_of_getElem? (i := 423) (by decide +kernel)) rfl
theorem kw_424 : Cond.native arraycopyName ∈ lw_gd := lw_g (List.mem_of_getElem? (i := 424) (by decide +kernel)) rfl
theorem kw_425 : Cond.methodLink RX0 59 yX0_readCount ∈ lw_gd := lw_g (List.mem_of_getElem? (i := 425) (by decide +kernel)) rfl
theorem kw_426 : Cond.instanceMethod yX0_readCount ∈ lw_gd := lw_g (List.mem_of_getElem? (i := 426) (by decide +kernel)) rfl
theorem kw_427 : Cond.selects RX0 yX0_readCount yX0_readCount ∈ lw_gd := lw_g (List.mem_of_getElem? (i := 427) (by decide +kernel)) rfl
theorem kw_428 : Cond.code yX0_readCount prog_2_method_19_code 2 (some .int) ∈ lw_gd := lw_g (List.mem_of_getElem? (i := 428) (by decide +kernel)) rfl
theorem kw_429 : Cond.methodLinkNest RX0 69 yX10_isCell "ReactiveSheet" ∈ lw_ns := lw_n (List.mem_of_getElem? (i := 429) (by decide +kernel)) rfl
theorem kw_430 : Cond.methodLink RX1 48 yX0_startWave ∈ lw_gd := lw_g (List.mem_of_getElem? (i := 430) (by decide +kernel)) rfl
theorem kw_431 : Cond.instanceMethod yX0_startWave ∈ lw_gd := lw_g (List.mem_of_getElem? (i := 431) (by decide +kernel)) rfl
theorem kw_432 : Cond.selects RX0 yX0_startWave yX0_startWave ∈ lw_gd := lw_g (List.mem_of_getElem? (i := 432) (by decide +kernel)) rfl
theorem kw_433 : Cond.code yX0_startWave prog_2_method_3_code 1 none ∈ lw_gd := lw_g (List.mem_of_getElem? (i := 433) (by decide +kernel)) rfl
theorem kw_434 : Cond.methodLink RX0 63 yJ7_fill_53178 ∈ lw_gd := lw_g (List.mem_of_getElem? (i := 434) (by decide +kernel)) rfl
theorem kw_435 : Cond.static yJ7_fill_53178 ∈ lw_gd := lw_g (List.mem_of_getElem? (i := 435) (by decide +kernel)) rfl
theorem kw_436 : Cond.code yJ7_fill_53178 prog_18_method_103_code 4 none ∈ lw_gd := lw_g (List.mem_of_getElem? (i := 436) (by decide +kernel)) rfl
theorem kw_437 : Cond.methodLink RX1 51 yX7_tell ∈ lw_gd := lw_g (List.mem_of_getElem? (i := 437) (by decide +kernel)) rfl
theorem kw_438 : Cond.instanceMethod yX7_tell ∈ lw_gd := lw_g (List.mem_of_getElem? (i := 438) (by decide +kernel)) rfl
theorem kw_439 : Cond.selects RX7 yX7_tell yX7_tell ∈ lw_gd := lw_g (List.mem_of_getElem? (i := 439) (by decide +kernel)) rfl
theorem kw_440 : Cond.code yX7_tell prog_9_method_6_code 3 none ∈ lw_gd := lw_g (List.mem_of_getElem? (i := 440) (by decide +kernel)) rfl
theorem kw_441 : Cond.methodLinkNest RX7 43 yX10_has "ReactiveSheet" ∈ lw_ns := lw_n (List.mem_of_getElem? (i := 441) (by decide +kernel)) rfl
theorem kw_442 : Cond.static yX10_has ∈ lw_gd := lw_g (List.mem_of_getElem? (i := 442) (by decide +kernel)) rfl
theorem kw_443 : Cond.code yX10_has prog_1_method_40_code 3 (some .boolean) ∈ lw_gd := lw_g (List.mem_of_getElem? (i := 443) (by decide +kernel)) rfl
theorem kw_444 : Cond.methodLink RX7 47 yX0_become ∈ lw_gd := lw_g (List.mem_of_getElem? (i := 444) (by decide +kernel)) rfl
theorem kw_445 : Cond.instanceMethod yX0_become ∈ lw_gd := lw_g (List.mem_of_getElem? (i := 445) (by decide +kernel)) rfl
theorem kw_446 : Cond.selects RX0 yX0_become yX0_become ∈ lw_gd := lw_g (List.mem_of_getElem? (i := 446) (by decide +kernel)) rfl
theorem kw_447 : Cond.code yX0_become prog_2_method_4_code 6 none ∈ lw_gd := lw_g (List.mem_of_getElem? (i := 447) (by decide +kernel)) rfl
theorem kw_448 : Cond.methodLink RX1 56 yX7_cells ∈ lw_gd := lw_g (List.mem_of_getElem? (i := 448) (by decide +kernel)) rfl
theorem kw_449 : Cond.instanceMethod yX7_cells ∈ lw_gd := lw_g (List.mem_of_getElem? (i := 449) (by decide +kernel)) rfl
theorem kw_450 : Cond.selects RX7 yX7_cells yX7_cells ∈ lw_gd := lw_g (List.mem_of_getElem? (i := 450) (by decide +kernel)) rfl
theorem kw_451 : Cond.code yX7_cells prog_9_method_4_code 1 (some .long) ∈ lw_gd := lw_g (List.mem_of_getElem? (i := 451) (by decide +kernel)) rfl
theorem kw_452 : Cond.methodLink RX1 60 yX0_plain ∈ lw_gd := lw_g (List.mem_of_getElem? (i := 452) (by decide +kernel)) rfl
theorem kw_453 : Cond.instanceMethod yX0_plain ∈ lw_gd := lw_g (List.mem_of_getElem? (i := 453) (by decide +kernel)) rfl
theorem kw_454 : Cond.selects RX0 yX0_plain yX0_plain ∈ lw_gd := lw_g (List.mem_of_getElem? (i := 454) (by decide +kernel)) rfl
theorem kw_455 : Cond.code yX0_plain prog_2_method_30_code 4 (some .long) ∈ lw_gd := lw_g (List.mem_of_getElem? (i := 455) (by decide +kernel)) rfl
theorem kw_456 : Cond.methodLinkNest RX0 73 yX10_bit "ReactiveSheet" ∈ lw_ns := lw_n (List.mem_of_getElem? (i := 456) (by decide +kernel)) rfl
theorem kw_457 : Cond.methodLinkNest RX1 63 yX10_has "ReactiveSheet" ∈ lw_ns := lw_n (List.mem_of_getElem? (i := 457) (by decide +kernel)) rfl
theorem kw_458 : Cond.methodLink RX1 67 yX0_compare ∈ lw_gd := lw_g (List.mem_of_getElem? (i := 458) (by decide +kernel)) rfl
theorem kw_459 : Cond.instanceMethod yX0_compare ∈ lw_gd := lw_g (List.mem_of_getElem? (i := 459) (by decide +kernel)) rfl
theorem kw_460 : Cond.selects RX0 yX0_compare yX0_compare ∈ lw_gd := lw_g (List.mem_of_getElem? (i := 460) (by decide +kernel)) rfl
theorem kw_461 : Cond.code yX0_compare prog_2_method_8_code 3 none ∈ lw_gd := lw_g (List.mem_of_getElem? (i := 461) (by decide +kernel)) rfl
theorem kw_462 : Cond.methodLink RX1 71 yX1_settle ∈ lw_gd := lw_g (List.mem_of_getElem? (i := 462) (by decide +kernel)) rfl
theorem kw_464 : Cond.instanceMethod yX1_settle ∈ lw_gd := lw_g (List.mem_of_getElem? (i := 464) (by decide +kernel)) rfl
theorem kw_465 : Cond.code yX1_settle prog_3_method_6_code 4 none ∈ lw_gd := lw_g (List.mem_of_getElem? (i := 465) (by decide +kernel)) rfl
theorem kw_466 : Cond.methodLinkNest RX1 82 yX10_bit "ReactiveSheet" ∈ lw_ns := lw_n (List.mem_of_getElem? (i := 466) (by decide +kernel)) rfl
theorem kw_473 : Cond.instanceMethod yX0_readOf ∈ lw_gd := lw_g (List.mem_of_getElem? (i := 473) (by decide +kernel)) rfl
theorem kw_474 : Cond.selects RX0 yX0_readOf yX0_readOf ∈ lw_gd := lw_g (List.mem_of_getElem? (i := 474) (by decide +kernel)) rfl
theorem kw_475 : Cond.code yX0_readOf prog_2_method_20_code 3 (some .int) ∈ lw_gd := lw_g (List.mem_of_getElem? (i := 475) (by decide +kernel)) rfl
theorem kw_477 : Cond.instanceMethod yX0_isChanged ∈ lw_gd := lw_g (List.mem_of_getElem? (i := 477) (by decide +kernel)) rfl
theorem kw_478 : Cond.selects RX0 yX0_isChanged yX0_isChanged ∈ lw_gd := lw_g (List.mem_of_getElem? (i := 478) (by decide +kernel)) rfl
theorem kw_479 : Cond.code yX0_isChanged prog_2_method_17_code 2 (some .boolean) ∈ lw_gd := lw_g (List.mem_of_getElem? (i := 479) (by decide +kernel)) rfl
theorem kw_480 : Cond.methodLinkNest RX0 77 yX10_has "ReactiveSheet" ∈ lw_ns := lw_n (List.mem_of_getElem? (i := 480) (by decide +kernel)) rfl
theorem kw_481 : Cond.methodLink RX1 90 yX1_run ∈ lw_gd := lw_g (List.mem_of_getElem? (i := 481) (by decide +kernel)) rfl
theorem kw_483 : Cond.instanceMethod yX1_run ∈ lw_gd := lw_g (List.mem_of_getElem? (i := 483) (by decide +kernel)) rfl
theorem kw_484 : Cond.code yX1_run prog_3_method_8_code 10 none ∈ lw_gd := lw_g (List.mem_of_getElem? (i := 484) (by decide +kernel)) rfl
theorem kw_485 : Cond.methodLink RX1 111 yX0_startRun ∈ lw_gd := lw_g (List.mem_of_getElem? (i := 485) (by decide +kernel)) rfl
theorem kw_486 : Cond.instanceMethod yX0_startRun ∈ lw_gd := lw_g (List.mem_of_getElem? (i := 486) (by decide +kernel)) rfl
theorem kw_487 : Cond.selects RX0 yX0_startRun yX0_startRun ∈ lw_gd := lw_g (List.mem_of_getElem? (i := 487) (by decide +kernel)) rfl
theorem kw_488 : Cond.code yX0_startRun prog_2_method_5_code 3 none ∈ lw_gd := lw_g (List.mem_of_getElem? (i := 488) (by decide +kernel)) rfl
theorem kw_489 : Cond.methodLink RX1 114 yX0_formulaOf ∈ lw_gd := lw_g (List.mem_of_getElem? (i := 489) (by decide +kernel)) rfl
theorem kw_490 : Cond.instanceMethod yX0_formulaOf ∈ lw_gd := lw_g (List.mem_of_getElem? (i := 490) (by decide +kernel)) rfl
theorem kw_491 : Cond.selects RX0 yX0_formulaOf yX0_formulaOf ∈ lw_gd := lw_g (List.mem_of_getElem? (i := 491) (by decide +kernel)) rfl
theorem kw_492 : Cond.code yX0_formulaOf prog_2_method_13_code 2 (some (.object "ReactiveSheet$Formula")) ∈ lw_gd := lw_g (List.mem_of_getElem? (i := 492) (by decide +kernel)) rfl
theorem kw_530 : Cond.instanceMethod yX0_numberOf ∈ lw_gd := lw_g (List.mem_of_getElem? (i := 530) (by decide +kernel)) rfl
theorem kw_531 : Cond.selects RX0 yX0_numberOf yX0_numberOf ∈ lw_gd := lw_g (List.mem_of_getElem? (i := 531) (by decide +kernel)) rfl
theorem kw_532 : Cond.code yX0_numberOf prog_2_method_12_code 2 (some .long) ∈ lw_gd := lw_g (List.mem_of_getElem? (i := 532) (by decide +kernel)) rfl
theorem kw_534 : Cond.instanceMethod yX0_errorOf ∈ lw_gd := lw_g (List.mem_of_getElem? (i := 534) (by decide +kernel)) rfl
theorem kw_535 : Cond.selects RX0 yX0_errorOf yX0_errorOf ∈ lw_gd := lw_g (List.mem_of_getElem? (i := 535) (by decide +kernel)) rfl
theorem kw_536 : Cond.code yX0_errorOf prog_2_method_11_code 2 (some .int) ∈ lw_gd := lw_g (List.mem_of_getElem? (i := 536) (by decide +kernel)) rfl
theorem kw_571 : Cond.constantLong RX1 98 (-1) ∈ lw_gd := lw_g (List.mem_of_getElem? (i := 571) (by decide +kernel)) rfl
theorem kw_597 : Cond.methodLink RX1 94 yX0_measure ∈ lw_gd := lw_g (List.mem_of_getElem? (i := 597) (by decide +kernel)) rfl
theorem kw_598 : Cond.instanceMethod yX0_measure ∈ lw_gd := lw_g (List.mem_of_getElem? (i := 598) (by decide +kernel)) rfl
theorem kw_599 : Cond.selects RX0 yX0_measure yX0_measure ∈ lw_gd := lw_g (List.mem_of_getElem? (i := 599) (by decide +kernel)) rfl
theorem kw_600 : Cond.code yX0_measure prog_2_method_9_code 4 none ∈ lw_gd := lw_g (List.mem_of_getElem? (i := 600) (by decide +kernel)) rfl
theorem kw_601 : Cond.methodLink RX0 81 yX0_heightOf ∈ lw_gd := lw_g (List.mem_of_getElem? (i := 601) (by decide +kernel)) rfl
theorem kw_602 : Cond.instanceMethod yX0_heightOf ∈ lw_gd := lw_g (List.mem_of_getElem? (i := 602) (by decide +kernel)) rfl
theorem kw_603 : Cond.selects RX0 yX0_heightOf yX0_heightOf ∈ lw_gd := lw_g (List.mem_of_getElem? (i := 603) (by decide +kernel)) rfl
theorem kw_604 : Cond.code yX0_heightOf prog_2_method_14_code 2 (some .int) ∈ lw_gd := lw_g (List.mem_of_getElem? (i := 604) (by decide +kernel)) rfl
theorem kw_605 : Cond.methodLink RX0 84 yJ9_max_7cf53 ∈ lw_gd := lw_g (List.mem_of_getElem? (i := 605) (by decide +kernel)) rfl
theorem kw_606 : Cond.static yJ9_max_7cf53 ∈ lw_gd := lw_g (List.mem_of_getElem? (i := 606) (by decide +kernel)) rfl
theorem kw_607 : Cond.code yJ9_max_7cf53 prog_16_method_65_code 2 (some .int) ∈ lw_gd := lw_g (List.mem_of_getElem? (i := 607) (by decide +kernel)) rfl
theorem kw_608 : Cond.methodLink RX1 75 yX1_back ∈ lw_gd := lw_g (List.mem_of_getElem? (i := 608) (by decide +kernel)) rfl
theorem kw_609 : Cond.instanceMethod yX1_back ∈ lw_gd := lw_g (List.mem_of_getElem? (i := 609) (by decide +kernel)) rfl
theorem kw_610 : Cond.selects RX1 yX1_back yX1_back ∈ lw_gd := lw_g (List.mem_of_getElem? (i := 610) (by decide +kernel)) rfl
theorem kw_611 : Cond.code yX1_back prog_3_method_4_code 1 none ∈ lw_gd := lw_g (List.mem_of_getElem? (i := 611) (by decide +kernel)) rfl
theorem kw_612 : Cond.methodLink RX1 78 yX0_ranCount ∈ lw_gd := lw_g (List.mem_of_getElem? (i := 612) (by decide +kernel)) rfl
theorem kw_613 : Cond.instanceMethod yX0_ranCount ∈ lw_gd := lw_g (List.mem_of_getElem? (i := 613) (by decide +kernel)) rfl
theorem kw_614 : Cond.selects RX0 yX0_ranCount yX0_ranCount ∈ lw_gd := lw_g (List.mem_of_getElem? (i := 614) (by decide +kernel)) rfl
theorem kw_615 : Cond.code yX0_ranCount prog_2_method_31_code 1 (some .int) ∈ lw_gd := lw_g (List.mem_of_getElem? (i := 615) (by decide +kernel)) rfl
theorem kw_616 : Cond.methodLink RX0 111 yJ13_bitCount_95d88 ∈ lw_gd := lw_g (List.mem_of_getElem? (i := 616) (by decide +kernel)) rfl
theorem kw_617 : Cond.static yJ13_bitCount_95d88 ∈ lw_gd := lw_g (List.mem_of_getElem? (i := 617) (by decide +kernel)) rfl
theorem kw_618 : Cond.code yJ13_bitCount_95d88 prog_15_method_50_code 2 (some .int) ∈ lw_gd := lw_g (List.mem_of_getElem? (i := 618) (by decide +kernel)) rfl
theorem kw_619 : Cond.constantLong RJ13 314 (6148914691236517205) ∈ lw_gd := lw_g (List.mem_of_getElem? (i := 619) (by decide +kernel)) rfl
theorem kw_620 : Cond.constantLong RJ13 316 (3689348814741910323) ∈ lw_gd := lw_g (List.mem_of_getElem? (i := 620) (by decide +kernel)) rfl
theorem kw_621 : Cond.constantLong RJ13 318 (1085102592571150095) ∈ lw_gd := lw_g (List.mem_of_getElem? (i := 621) (by decide +kernel)) rfl
theorem kw_622 : Cond.methodLink RX10 302 yX1_before ∈ lw_gd := lw_g (List.mem_of_getElem? (i := 622) (by decide +kernel)) rfl
theorem kw_623 : Cond.instanceMethod yX1_before ∈ lw_gd := lw_g (List.mem_of_getElem? (i := 623) (by decide +kernel)) rfl
theorem kw_624 : Cond.selects RX1 yX1_before yX1_before ∈ lw_gd := lw_g (List.mem_of_getElem? (i := 624) (by decide +kernel)) rfl
theorem kw_625 : Cond.code yX1_before prog_3_method_3_code 1 (some (.object "ReactiveSheet$Cells")) ∈ lw_gd := lw_g (List.mem_of_getElem? (i := 625) (by decide +kernel)) rfl
theorem kw_626 : Cond.methodLink RX10 106 yX1_now ∈ lw_gd := lw_g (List.mem_of_getElem? (i := 626) (by decide +kernel)) rfl
theorem kw_627 : Cond.instanceMethod yX1_now ∈ lw_gd := lw_g (List.mem_of_getElem? (i := 627) (by decide +kernel)) rfl
theorem kw_628 : Cond.selects RX1 yX1_now yX1_now ∈ lw_gd := lw_g (List.mem_of_getElem? (i := 628) (by decide +kernel)) rfl
theorem kw_629 : Cond.code yX1_now prog_3_method_2_code 1 (some (.object "ReactiveSheet$Cells")) ∈ lw_gd := lw_g (List.mem_of_getElem? (i := 629) (by decide +kernel)) rfl
theorem kw_630 : Cond.methodLink RX10 305 yX9_ask ∈ lw_gd := lw_g (List.mem_of_getElem? (i := 630) (by decide +kernel)) rfl
theorem kw_631 : Cond.instanceMethod yX9_ask ∈ lw_gd := lw_g (List.mem_of_getElem? (i := 631) (by decide +kernel)) rfl
theorem kw_632 : Cond.selects RX9 yX9_ask yX9_ask ∈ lw_gd := lw_g (List.mem_of_getElem? (i := 632) (by decide +kernel)) rfl
theorem kw_633 : Cond.code yX9_ask prog_11_method_7_code 5 (some .int) ∈ lw_gd := lw_g (List.mem_of_getElem? (i := 633) (by decide +kernel)) rfl
theorem kw_634 : Cond.methodLinkNest RX9 61 yX10_has "ReactiveSheet" ∈ lw_ns := lw_n (List.mem_of_getElem? (i := 634) (by decide +kernel)) rfl
theorem kw_635 : Cond.methodLink RX9 67 yX0_isChanged ∈ lw_gd := lw_g (List.mem_of_getElem? (i := 635) (by decide +kernel)) rfl
theorem kw_636 : Cond.methodLink RX9 73 yX9_stirs ∈ lw_gd := lw_g (List.mem_of_getElem? (i := 636) (by decide +kernel)) rfl
theorem kw_638 : Cond.instanceMethod yX9_stirs ∈ lw_gd := lw_g (List.mem_of_getElem? (i := 638) (by decide +kernel)) rfl
theorem kw_639 : Cond.code yX9_stirs prog_11_method_8_code 11 (some .boolean) ∈ lw_gd := lw_g (List.mem_of_getElem? (i := 639) (by decide +kernel)) rfl
theorem kw_640 : Cond.methodLink RX9 81 yX0_errorOf ∈ lw_gd := lw_g (List.mem_of_getElem? (i := 640) (by decide +kernel)) rfl
theorem kw_641 : Cond.methodLink RX9 85 yX0_numberOf ∈ lw_gd := lw_g (List.mem_of_getElem? (i := 641) (by decide +kernel)) rfl
theorem kw_642 : Cond.methodLink RX9 77 yX9_note ∈ lw_gd := lw_g (List.mem_of_getElem? (i := 642) (by decide +kernel)) rfl
theorem kw_644 : Cond.instanceMethod yX9_note ∈ lw_gd := lw_g (List.mem_of_getElem? (i := 644) (by decide +kernel)) rfl
theorem kw_645 : Cond.code yX9_note prog_11_method_9_code 6 none ∈ lw_gd := lw_g (List.mem_of_getElem? (i := 645) (by decide +kernel)) rfl
theorem kw_646 : Cond.methodLink RX9 88 yX0_known ∈ lw_gd := lw_g (List.mem_of_getElem? (i := 646) (by decide +kernel)) rfl
theorem kw_647 : Cond.instanceMethod yX0_known ∈ lw_gd := lw_g (List.mem_of_getElem? (i := 647) (by decide +kernel)) rfl
theorem kw_648 : Cond.selects RX0 yX0_known yX0_known ∈ lw_gd := lw_g (List.mem_of_getElem? (i := 648) (by decide +kernel)) rfl
theorem kw_649 : Cond.code yX0_known prog_2_method_22_code 2 (some .long) ∈ lw_gd := lw_g (List.mem_of_getElem? (i := 649) (by decide +kernel)) rfl
theorem kw_650 : Cond.methodLink RX0 90 yX0_errorOf ∈ lw_gd := lw_g (List.mem_of_getElem? (i := 650) (by decide +kernel)) rfl
theorem kw_651 : Cond.methodLink RX0 93 yX0_numberOf ∈ lw_gd := lw_g (List.mem_of_getElem? (i := 651) (by decide +kernel)) rfl
theorem kw_652 : Cond.constantLong RX0 96 (-9223372036854775808) ∈ lw_gd := lw_g (List.mem_of_getElem? (i := 652) (by decide +kernel)) rfl
theorem kw_653 : Cond.methodLink RX10 130 yX7_count ∈ lw_gd := lw_g (List.mem_of_getElem? (i := 653) (by decide +kernel)) rfl
theorem kw_654 : Cond.instanceMethod yX7_count ∈ lw_gd := lw_g (List.mem_of_getElem? (i := 654) (by decide +kernel)) rfl
theorem kw_655 : Cond.selects RX7 yX7_count yX7_count ∈ lw_gd := lw_g (List.mem_of_getElem? (i := 655) (by decide +kernel)) rfl
theorem kw_656 : Cond.code yX7_count prog_9_method_5_code 1 (some .int) ∈ lw_gd := lw_g (List.mem_of_getElem? (i := 656) (by decide +kernel)) rfl
theorem kw_657 : Cond.methodLink RX7 37 yJ13_bitCount_95d88 ∈ lw_gd := lw_g (List.mem_of_getElem? (i := 657) (by decide +kernel)) rfl
theorem kw_658 : Cond.methodLink RX10 237 yX0_changedCount ∈ lw_gd := lw_g (List.mem_of_getElem? (i := 658) (by decide +kernel)) rfl
theorem kw_659 : Cond.instanceMethod yX0_changedCount ∈ lw_gd := lw_g (List.mem_of_getElem? (i := 659) (by decide +kernel)) rfl
theorem kw_660 : Cond.selects RX0 yX0_changedCount yX0_changedCount ∈ lw_gd := lw_g (List.mem_of_getElem? (i := 660) (by decide +kernel)) rfl
theorem kw_661 : Cond.code yX0_changedCount prog_2_method_32_code 1 (some .int) ∈ lw_gd := lw_g (List.mem_of_getElem? (i := 661) (by decide +kernel)) rfl
theorem kw_662 : Cond.methodLink RX10 309 yX3_add ∈ lw_gd := lw_g (List.mem_of_getElem? (i := 662) (by decide +kernel)) rfl
theorem kw_663 : Cond.instanceMethod yX3_add ∈ lw_gd := lw_g (List.mem_of_getElem? (i := 663) (by decide +kernel)) rfl
theorem kw_664 : Cond.selects RX3 yX3_add yX3_add ∈ lw_gd := lw_g (List.mem_of_getElem? (i := 664) (by decide +kernel)) rfl
theorem kw_665 : Cond.code yX3_add prog_5_method_3_code 6 none ∈ lw_gd := lw_g (List.mem_of_getElem? (i := 665) (by decide +kernel)) rfl
theorem kw_666 : Cond.methodLink RX3 19 yJ9_floorMod_7cf53 ∈ lw_gd := lw_g (List.mem_of_getElem? (i := 666) (by decide +kernel)) rfl
theorem kw_667 : Cond.static yJ9_floorMod_7cf53 ∈ lw_gd := lw_g (List.mem_of_getElem? (i := 667) (by decide +kernel)) rfl
theorem kw_668 : Cond.code yJ9_floorMod_7cf53 prog_16_method_50_code 3 (some .int) ∈ lw_gd := lw_g (List.mem_of_getElem? (i := 668) (by decide +kernel)) rfl
theorem kw_669 : Cond.methodLink RX10 133 yX7_forget ∈ lw_gd := lw_g (List.mem_of_getElem? (i := 669) (by decide +kernel)) rfl
theorem kw_670 : Cond.instanceMethod yX7_forget ∈ lw_gd := lw_g (List.mem_of_getElem? (i := 670) (by decide +kernel)) rfl
theorem kw_671 : Cond.selects RX7 yX7_forget yX7_forget ∈ lw_gd := lw_g (List.mem_of_getElem? (i := 671) (by decide +kernel)) rfl
theorem kw_672 : Cond.code yX7_forget prog_9_method_3_code 1 none ∈ lw_gd := lw_g (List.mem_of_getElem? (i := 672) (by decide +kernel)) rfl
theorem kw_677 : Cond.methodLink RX10 99 yX5_take ∈ lw_gd := lw_g (List.mem_of_getElem? (i := 677) (by decide +kernel)) rfl
theorem kw_678 : Cond.instanceMethod yX5_take ∈ lw_gd := lw_g (List.mem_of_getElem? (i := 678) (by decide +kernel)) rfl
theorem kw_679 : Cond.selects RX5 yX5_take yX5_take ∈ lw_gd := lw_g (List.mem_of_getElem? (i := 679) (by decide +kernel)) rfl
theorem kw_680 : Cond.code yX5_take prog_7_method_6_code 2 (some (.object "ReactiveSheet$Formula")) ∈ lw_gd := lw_g (List.mem_of_getElem? (i := 680) (by decide +kernel)) rfl
theorem kw_681 : Cond.methodLink RX5 43 yX5_choice ∈ lw_gd := lw_g (List.mem_of_getElem? (i := 681) (by decide +kernel)) rfl
theorem kw_683 : Cond.instanceMethod yX5_choice ∈ lw_gd := lw_g (List.mem_of_getElem? (i := 683) (by decide +kernel)) rfl
theorem kw_684 : Cond.code yX5_choice prog_7_method_12_code 9 (some .int) ∈ lw_gd := lw_g (List.mem_of_getElem? (i := 684) (by decide +kernel)) rfl
theorem kw_685 : Cond.methodLink RX5 68 yX5_comparison ∈ lw_gd := lw_g (List.mem_of_getElem? (i := 685) (by decide +kernel)) rfl
theorem kw_687 : Cond.instanceMethod yX5_comparison ∈ lw_gd := lw_g (List.mem_of_getElem? (i := 687) (by decide +kernel)) rfl
theorem kw_688 : Cond.code yX5_comparison prog_7_method_14_code 4 (some .int) ∈ lw_gd := lw_g (List.mem_of_getElem? (i := 688) (by decide +kernel)) rfl
theorem kw_689 : Cond.methodLink RX5 83 yX5_sum ∈ lw_gd := lw_g (List.mem_of_getElem? (i := 689) (by decide +kernel)) rfl
theorem kw_691 : Cond.instanceMethod yX5_sum ∈ lw_gd := lw_g (List.mem_of_getElem? (i := 691) (by decide +kernel)) rfl
theorem kw_692 : Cond.code yX5_sum prog_7_method_16_code 5 (some .int) ∈ lw_gd := lw_g (List.mem_of_getElem? (i := 692) (by decide +kernel)) rfl
theorem kw_693 : Cond.methodLink RX5 89 yX5_product ∈ lw_gd := lw_g (List.mem_of_getElem? (i := 693) (by decide +kernel)) rfl
theorem kw_695 : Cond.instanceMethod yX5_product ∈ lw_gd := lw_g (List.mem_of_getElem? (i := 695) (by decide +kernel)) rfl
theorem kw_696 : Cond.code yX5_product prog_7_method_17_code 5 (some .int) ∈ lw_gd := lw_g (List.mem_of_getElem? (i := 696) (by decide +kernel)) rfl
theorem kw_697 : Cond.methodLink RX5 92 yX5_factor ∈ lw_gd := lw_g (List.mem_of_getElem? (i := 697) (by decide +kernel)) rfl
theorem kw_699 : Cond.instanceMethod yX5_factor ∈ lw_gd := lw_g (List.mem_of_getElem? (i := 699) (by decide +kernel)) rfl
theorem kw_700 : Cond.code yX5_factor prog_7_method_18_code 4 (some .int) ∈ lw_gd := lw_g (List.mem_of_getElem? (i := 700) (by decide +kernel)) rfl
theorem kw_701 : Cond.methodLink RX5 60 yX5_here ∈ lw_gd := lw_g (List.mem_of_getElem? (i := 701) (by decide +kernel)) rfl
theorem kw_703 : Cond.instanceMethod yX5_here ∈ lw_gd := lw_g (List.mem_of_getElem? (i := 703) (by decide +kernel)) rfl
theorem kw_704 : Cond.code yX5_here prog_7_method_7_code 1 (some .int) ∈ lw_gd := lw_g (List.mem_of_getElem? (i := 704) (by decide +kernel)) rfl
theorem kw_705 : Cond.methodLink RX5 95 yX5_isFigure ∈ lw_gd := lw_g (List.mem_of_getElem? (i := 705) (by decide +kernel)) rfl
theorem kw_706 : Cond.static yX5_isFigure ∈ lw_gd := lw_g (List.mem_of_getElem? (i := 706) (by decide +kernel)) rfl
theorem kw_707 : Cond.code yX5_isFigure prog_7_method_21_code 1 (some .boolean) ∈ lw_gd := lw_g (List.mem_of_getElem? (i := 707) (by decide +kernel)) rfl
theorem kw_708 : Cond.methodLink RX5 98 yX5_number ∈ lw_gd := lw_g (List.mem_of_getElem? (i := 708) (by decide +kernel)) rfl
theorem kw_710 : Cond.instanceMethod yX5_number ∈ lw_gd := lw_g (List.mem_of_getElem? (i := 710) (by decide +kernel)) rfl
theorem kw_711 : Cond.code yX5_number prog_7_method_23_code 4 (some .int) ∈ lw_gd := lw_g (List.mem_of_getElem? (i := 711) (by decide +kernel)) rfl
theorem kw_712 : Cond.methodLink RX5 47 yX5_fail ∈ lw_gd := lw_g (List.mem_of_getElem? (i := 712) (by decide +kernel)) rfl
theorem kw_714 : Cond.instanceMethod yX5_fail ∈ lw_gd := lw_g (List.mem_of_getElem? (i := 714) (by decide +kernel)) rfl
theorem kw_715 : Cond.code yX5_fail prog_7_method_8_code 2 (some .int) ∈ lw_gd := lw_g (List.mem_of_getElem? (i := 715) (by decide +kernel)) rfl
theorem kw_716 : Cond.methodLink RX5 71 yX5_node ∈ lw_gd := lw_g (List.mem_of_getElem? (i := 716) (by decide +kernel)) rfl
theorem kw_718 : Cond.instanceMethod yX5_node ∈ lw_gd := lw_g (List.mem_of_getElem? (i := 718) (by decide +kernel)) rfl
theorem kw_719 : Cond.code yX5_node prog_7_method_11_code 5 (some .int) ∈ lw_gd := lw_g (List.mem_of_getElem? (i := 719) (by decide +kernel)) rfl
theorem kw_720 : Cond.methodLink RX5 64 yX5_skip ∈ lw_gd := lw_g (List.mem_of_getElem? (i := 720) (by decide +kernel)) rfl
theorem kw_722 : Cond.instanceMethod yX5_skip ∈ lw_gd := lw_g (List.mem_of_getElem? (i := 722) (by decide +kernel)) rfl
theorem kw_723 : Cond.code yX5_skip prog_7_method_9_code 2 (some .boolean) ∈ lw_gd := lw_g (List.mem_of_getElem? (i := 723) (by decide +kernel)) rfl
theorem kw_724 : Cond.methodLink RX5 101 yX5_cellNumber ∈ lw_gd := lw_g (List.mem_of_getElem? (i := 724) (by decide +kernel)) rfl
theorem kw_726 : Cond.instanceMethod yX5_cellNumber ∈ lw_gd := lw_g (List.mem_of_getElem? (i := 726) (by decide +kernel)) rfl
theorem kw_727 : Cond.code yX5_cellNumber prog_7_method_22_code 4 (some .int) ∈ lw_gd := lw_g (List.mem_of_getElem? (i := 727) (by decide +kernel)) rfl
theorem kw_728 : Cond.methodLinkNest RX5 110 yX10_isCell "ReactiveSheet" ∈ lw_ns := lw_n (List.mem_of_getElem? (i := 728) (by decide +kernel)) rfl
theorem kw_729 : Cond.methodLink RX5 75 yX5_expect ∈ lw_gd := lw_g (List.mem_of_getElem? (i := 729) (by decide +kernel)) rfl
theorem kw_731 : Cond.instanceMethod yX5_expect ∈ lw_gd := lw_g (List.mem_of_getElem? (i := 731) (by decide +kernel)) rfl
theorem kw_732 : Cond.code yX5_expect prog_7_method_10_code 2 none ∈ lw_gd := lw_g (List.mem_of_getElem? (i := 732) (by decide +kernel)) rfl
theorem kw_733 : Cond.methodLink RX5 104 yX5_nested ∈ lw_gd := lw_g (List.mem_of_getElem? (i := 733) (by decide +kernel)) rfl
theorem kw_735 : Cond.instanceMethod yX5_nested ∈ lw_gd := lw_g (List.mem_of_getElem? (i := 735) (by decide +kernel)) rfl
theorem kw_736 : Cond.code yX5_nested prog_7_method_19_code 5 (some .int) ∈ lw_gd := lw_g (List.mem_of_getElem? (i := 736) (by decide +kernel)) rfl
theorem kw_737 : Cond.methodLink RX5 107 yX5_not ∈ lw_gd := lw_g (List.mem_of_getElem? (i := 737) (by decide +kernel)) rfl
theorem kw_739 : Cond.instanceMethod yX5_not ∈ lw_gd := lw_g (List.mem_of_getElem? (i := 739) (by decide +kernel)) rfl
theorem kw_740 : Cond.code yX5_not prog_7_method_20_code 6 (some .int) ∈ lw_gd := lw_g (List.mem_of_getElem? (i := 740) (by decide +kernel)) rfl
theorem kw_741 : Cond.methodLink RX5 86 yX5_comparing ∈ lw_gd := lw_g (List.mem_of_getElem? (i := 741) (by decide +kernel)) rfl
theorem kw_743 : Cond.instanceMethod yX5_comparing ∈ lw_gd := lw_g (List.mem_of_getElem? (i := 743) (by decide +kernel)) rfl
theorem kw_744 : Cond.code yX5_comparing prog_7_method_15_code 2 (some .int) ∈ lw_gd := lw_g (List.mem_of_getElem? (i := 744) (by decide +kernel)) rfl
theorem kw_761 : Cond.static yJ9_min_7cf53 ∈ lw_gd := lw_g (List.mem_of_getElem? (i := 761) (by decide +kernel)) rfl
theorem kw_762 : Cond.code yJ9_min_7cf53 prog_16_method_69_code 2 (some .int) ∈ lw_gd := lw_g (List.mem_of_getElem? (i := 762) (by decide +kernel)) rfl
theorem kw_787 : Cond.methodLink RX10 103 yX5_fault ∈ lw_gd := lw_g (List.mem_of_getElem? (i := 787) (by decide +kernel)) rfl
theorem kw_788 : Cond.instanceMethod yX5_fault ∈ lw_gd := lw_g (List.mem_of_getElem? (i := 788) (by decide +kernel)) rfl
theorem kw_789 : Cond.selects RX5 yX5_fault yX5_fault ∈ lw_gd := lw_g (List.mem_of_getElem? (i := 789) (by decide +kernel)) rfl
theorem kw_790 : Cond.code yX5_fault prog_7_method_5_code 1 (some .int) ∈ lw_gd := lw_g (List.mem_of_getElem? (i := 790) (by decide +kernel)) rfl
theorem kw_799 : Cond.methodLink RX10 110 yX0_formulaOf ∈ lw_gd := lw_g (List.mem_of_getElem? (i := 799) (by decide +kernel)) rfl
theorem kw_814 : Cond.methodLink RX10 119 yX0_kindOf ∈ lw_gd := lw_g (List.mem_of_getElem? (i := 814) (by decide +kernel)) rfl
theorem kw_815 : Cond.instanceMethod yX0_kindOf ∈ lw_gd := lw_g (List.mem_of_getElem? (i := 815) (by decide +kernel)) rfl
theorem kw_816 : Cond.selects RX0 yX0_kindOf yX0_kindOf ∈ lw_gd := lw_g (List.mem_of_getElem? (i := 816) (by decide +kernel)) rfl
theorem kw_817 : Cond.code yX0_kindOf prog_2_method_10_code 2 (some .int) ∈ lw_gd := lw_g (List.mem_of_getElem? (i := 817) (by decide +kernel)) rfl
theorem kw_818 : Cond.methodLink RX10 123 yX0_errorOf ∈ lw_gd := lw_g (List.mem_of_getElem? (i := 818) (by decide +kernel)) rfl
theorem kw_819 : Cond.methodLink RX10 126 yX0_numberOf ∈ lw_gd := lw_g (List.mem_of_getElem? (i := 819) (by decide +kernel)) rfl
theorem kw_836 : Cond.methodLink RX10 136 yX5_add ∈ lw_gd := lw_g (List.mem_of_getElem? (i := 836) (by decide +kernel)) rfl
theorem kw_837 : Cond.instanceMethod yX5_add ∈ lw_gd := lw_g (List.mem_of_getElem? (i := 837) (by decide +kernel)) rfl
theorem kw_838 : Cond.selects RX5 yX5_add yX5_add ∈ lw_gd := lw_g (List.mem_of_getElem? (i := 838) (by decide +kernel)) rfl
theorem kw_839 : Cond.code yX5_add prog_7_method_2_code 2 (some .boolean) ∈ lw_gd := lw_g (List.mem_of_getElem? (i := 839) (by decide +kernel)) rfl
theorem kw_840 : Cond.methodLink RX10 140 yX5_length ∈ lw_gd := lw_g (List.mem_of_getElem? (i := 840) (by decide +kernel)) rfl
theorem kw_841 : Cond.instanceMethod yX5_length ∈ lw_gd := lw_g (List.mem_of_getElem? (i := 841) (by decide +kernel)) rfl
theorem kw_842 : Cond.selects RX5 yX5_length yX5_length ∈ lw_gd := lw_g (List.mem_of_getElem? (i := 842) (by decide +kernel)) rfl
theorem kw_843 : Cond.code yX5_length prog_7_method_4_code 1 (some .int) ∈ lw_gd := lw_g (List.mem_of_getElem? (i := 843) (by decide +kernel)) rfl
theorem kw_848 : Cond.methodLink RX10 143 yX5_wipe ∈ lw_gd := lw_g (List.mem_of_getElem? (i := 848) (by decide +kernel)) rfl
theorem kw_849 : Cond.instanceMethod yX5_wipe ∈ lw_gd := lw_g (List.mem_of_getElem? (i := 849) (by decide +kernel)) rfl
theorem kw_850 : Cond.selects RX5 yX5_wipe yX5_wipe ∈ lw_gd := lw_g (List.mem_of_getElem? (i := 850) (by decide +kernel)) rfl
theorem kw_851 : Cond.code yX5_wipe prog_7_method_3_code 2 (some .int) ∈ lw_gd := lw_g (List.mem_of_getElem? (i := 851) (by decide +kernel)) rfl
theorem kw_856 : Cond.methodLink RX10 146 yX0_known ∈ lw_gd := lw_g (List.mem_of_getElem? (i := 856) (by decide +kernel)) rfl
theorem kw_861 : Cond.methodLink RX10 149 yX0_heightOf ∈ lw_gd := lw_g (List.mem_of_getElem? (i := 861) (by decide +kernel)) rfl
theorem kw_862 : Cond.methodLink RX10 152 yX0_runsOf ∈ lw_gd := lw_g (List.mem_of_getElem? (i := 862) (by decide +kernel)) rfl
theorem kw_863 : Cond.instanceMethod yX0_runsOf ∈ lw_gd := lw_g (List.mem_of_getElem? (i := 863) (by decide +kernel)) rfl
theorem kw_864 : Cond.selects RX0 yX0_runsOf yX0_runsOf ∈ lw_gd := lw_g (List.mem_of_getElem? (i := 864) (by decide +kernel)) rfl
theorem kw_865 : Cond.code yX0_runsOf prog_2_method_15_code 2 (some .int) ∈ lw_gd := lw_g (List.mem_of_getElem? (i := 865) (by decide +kernel)) rfl
theorem kw_866 : Cond.methodLink RX10 155 yX0_readCount ∈ lw_gd := lw_g (List.mem_of_getElem? (i := 866) (by decide +kernel)) rfl
theorem kw_867 : Cond.methodLink RX10 158 yX0_readersOf ∈ lw_gd := lw_g (List.mem_of_getElem? (i := 867) (by decide +kernel)) rfl
theorem kw_868 : Cond.instanceMethod yX0_readersOf ∈ lw_gd := lw_g (List.mem_of_getElem? (i := 868) (by decide +kernel)) rfl
theorem kw_869 : Cond.selects RX0 yX0_readersOf yX0_readersOf ∈ lw_gd := lw_g (List.mem_of_getElem? (i := 869) (by decide +kernel)) rfl
theorem kw_870 : Cond.code yX0_readersOf prog_2_method_24_code 5 (some .long) ∈ lw_gd := lw_g (List.mem_of_getElem? (i := 870) (by decide +kernel)) rfl
theorem kw_871 : Cond.methodLink RX10 161 yJ13_bitCount_95d88 ∈ lw_gd := lw_g (List.mem_of_getElem? (i := 871) (by decide +kernel)) rfl
theorem kw_872 : Cond.methodLink RX10 165 yX0_isChanged ∈ lw_gd := lw_g (List.mem_of_getElem? (i := 872) (by decide +kernel)) rfl
theorem kw_873 : Cond.methodLink RX10 168 yX0_hasRun ∈ lw_gd := lw_g (List.mem_of_getElem? (i := 873) (by decide +kernel)) rfl
theorem kw_874 : Cond.instanceMethod yX0_hasRun ∈ lw_gd := lw_g (List.mem_of_getElem? (i := 874) (by decide +kernel)) rfl
theorem kw_875 : Cond.selects RX0 yX0_hasRun yX0_hasRun ∈ lw_gd := lw_g (List.mem_of_getElem? (i := 875) (by decide +kernel)) rfl
theorem kw_876 : Cond.code yX0_hasRun prog_2_method_18_code 2 (some .boolean) ∈ lw_gd := lw_g (List.mem_of_getElem? (i := 876) (by decide +kernel)) rfl
theorem kw_877 : Cond.methodLink RX10 171 yX0_causeOf ∈ lw_gd := lw_g (List.mem_of_getElem? (i := 877) (by decide +kernel)) rfl
theorem kw_878 : Cond.instanceMethod yX0_causeOf ∈ lw_gd := lw_g (List.mem_of_getElem? (i := 878) (by decide +kernel)) rfl
theorem kw_879 : Cond.selects RX0 yX0_causeOf yX0_causeOf ∈ lw_gd := lw_g (List.mem_of_getElem? (i := 879) (by decide +kernel)) rfl
theorem kw_880 : Cond.code yX0_causeOf prog_2_method_16_code 2 (some .int) ∈ lw_gd := lw_g (List.mem_of_getElem? (i := 880) (by decide +kernel)) rfl
theorem kw_881 : Cond.methodLink RX10 174 yX0_below ∈ lw_gd := lw_g (List.mem_of_getElem? (i := 881) (by decide +kernel)) rfl
theorem kw_882 : Cond.instanceMethod yX0_below ∈ lw_gd := lw_g (List.mem_of_getElem? (i := 882) (by decide +kernel)) rfl
theorem kw_883 : Cond.selects RX0 yX0_below yX0_below ∈ lw_gd := lw_g (List.mem_of_getElem? (i := 883) (by decide +kernel)) rfl
theorem kw_884 : Cond.code yX0_below prog_2_method_25_code 8 (some .long) ∈ lw_gd := lw_g (List.mem_of_getElem? (i := 884) (by decide +kernel)) rfl
theorem kw_885 : Cond.methodLink RX0 98 yX0_readersOf ∈ lw_gd := lw_g (List.mem_of_getElem? (i := 885) (by decide +kernel)) rfl
theorem kw_890 : Cond.methodLink RX10 177 yX0_readOf ∈ lw_gd := lw_g (List.mem_of_getElem? (i := 890) (by decide +kernel)) rfl
theorem kw_895 : Cond.constantLong RX10 181 (-9223372036854775808) ∈ lw_gd := lw_g (List.mem_of_getElem? (i := 895) (by decide +kernel)) rfl
theorem kw_900 : Cond.methodLink RX10 183 yX0_inOrder ∈ lw_gd := lw_g (List.mem_of_getElem? (i := 900) (by decide +kernel)) rfl
theorem kw_901 : Cond.instanceMethod yX0_inOrder ∈ lw_gd := lw_g (List.mem_of_getElem? (i := 901) (by decide +kernel)) rfl
theorem kw_902 : Cond.selects RX0 yX0_inOrder yX0_inOrder ∈ lw_gd := lw_g (List.mem_of_getElem? (i := 902) (by decide +kernel)) rfl
theorem kw_903 : Cond.code yX0_inOrder prog_2_method_26_code 5 (some .int) ∈ lw_gd := lw_g (List.mem_of_getElem? (i := 903) (by decide +kernel)) rfl
theorem kw_904 : Cond.methodLink RX0 101 yX0_present ∈ lw_gd := lw_g (List.mem_of_getElem? (i := 904) (by decide +kernel)) rfl
theorem kw_905 : Cond.instanceMethod yX0_present ∈ lw_gd := lw_g (List.mem_of_getElem? (i := 905) (by decide +kernel)) rfl
theorem kw_906 : Cond.selects RX0 yX0_present yX0_present ∈ lw_gd := lw_g (List.mem_of_getElem? (i := 906) (by decide +kernel)) rfl
theorem kw_907 : Cond.code yX0_present prog_2_method_29_code 1 (some .int) ∈ lw_gd := lw_g (List.mem_of_getElem? (i := 907) (by decide +kernel)) rfl
theorem kw_908 : Cond.methodLink RX0 108 yX0_countOf ∈ lw_gd := lw_g (List.mem_of_getElem? (i := 908) (by decide +kernel)) rfl
theorem kw_909 : Cond.instanceMethod yX0_countOf ∈ lw_gd := lw_g (List.mem_of_getElem? (i := 909) (by decide +kernel)) rfl
theorem kw_910 : Cond.selects RX0 yX0_countOf yX0_countOf ∈ lw_gd := lw_g (List.mem_of_getElem? (i := 910) (by decide +kernel)) rfl
theorem kw_911 : Cond.code yX0_countOf prog_2_method_28_code 4 (some .int) ∈ lw_gd := lw_g (List.mem_of_getElem? (i := 911) (by decide +kernel)) rfl
theorem kw_916 : Cond.methodLink RX10 186 yX0_causeAbove ∈ lw_gd := lw_g (List.mem_of_getElem? (i := 916) (by decide +kernel)) rfl
theorem kw_917 : Cond.instanceMethod yX0_causeAbove ∈ lw_gd := lw_g (List.mem_of_getElem? (i := 917) (by decide +kernel)) rfl
theorem kw_918 : Cond.selects RX0 yX0_causeAbove yX0_causeAbove ∈ lw_gd := lw_g (List.mem_of_getElem? (i := 918) (by decide +kernel)) rfl
theorem kw_919 : Cond.code yX0_causeAbove prog_2_method_27_code 5 (some .int) ∈ lw_gd := lw_g (List.mem_of_getElem? (i := 919) (by decide +kernel)) rfl
theorem kw_920 : Cond.methodLink RX0 105 yX0_causeOf ∈ lw_gd := lw_g (List.mem_of_getElem? (i := 920) (by decide +kernel)) rfl
theorem kw_925 : Cond.methodLink RX10 189 yX8_trace ∈ lw_gd := lw_g (List.mem_of_getElem? (i := 925) (by decide +kernel)) rfl
theorem kw_926 : Cond.instanceMethod yX8_trace ∈ lw_gd := lw_g (List.mem_of_getElem? (i := 926) (by decide +kernel)) rfl
theorem kw_927 : Cond.selects RX8 yX8_trace yX8_trace ∈ lw_gd := lw_g (List.mem_of_getElem? (i := 927) (by decide +kernel)) rfl
theorem kw_928 : Cond.code yX8_trace prog_10_method_2_code 11 (some .int) ∈ lw_gd := lw_g (List.mem_of_getElem? (i := 928) (by decide +kernel)) rfl
theorem kw_929 : Cond.methodLinkNest RX8 18 yX10_isCell "ReactiveSheet" ∈ lw_ns := lw_n (List.mem_of_getElem? (i := 929) (by decide +kernel)) rfl
theorem kw_930 : Cond.methodLinkNest RX8 22 yX10_bit "ReactiveSheet" ∈ lw_ns := lw_n (List.mem_of_getElem? (i := 930) (by decide +kernel)) rfl
theorem kw_931 : Cond.methodLink RX8 26 yX0_readCount ∈ lw_gd := lw_g (List.mem_of_getElem? (i := 931) (by decide +kernel)) rfl
theorem kw_932 : Cond.methodLink RX8 32 yX0_readOf ∈ lw_gd := lw_g (List.mem_of_getElem? (i := 932) (by decide +kernel)) rfl
theorem kw_933 : Cond.methodLinkNest RX8 36 yX10_has "ReactiveSheet" ∈ lw_ns := lw_n (List.mem_of_getElem? (i := 933) (by decide +kernel)) rfl
theorem kw_934 : Cond.methodLink RX8 40 yX8_stepsTo ∈ lw_gd := lw_g (List.mem_of_getElem? (i := 934) (by decide +kernel)) rfl
theorem kw_936 : Cond.instanceMethod yX8_stepsTo ∈ lw_gd := lw_g (List.mem_of_getElem? (i := 936) (by decide +kernel)) rfl
theorem kw_937 : Cond.code yX8_stepsTo prog_10_method_3_code 5 (some .int) ∈ lw_gd := lw_g (List.mem_of_getElem? (i := 937) (by decide +kernel)) rfl
theorem kw_938 : Cond.methodLink RX8 43 yX8_onward ∈ lw_gd := lw_g (List.mem_of_getElem? (i := 938) (by decide +kernel)) rfl
theorem kw_940 : Cond.instanceMethod yX8_onward ∈ lw_gd := lw_g (List.mem_of_getElem? (i := 940) (by decide +kernel)) rfl
theorem kw_941 : Cond.code yX8_onward prog_10_method_4_code 2 (some .int) ∈ lw_gd := lw_g (List.mem_of_getElem? (i := 941) (by decide +kernel)) rfl
theorem kw_942 : Cond.methodLink RX10 193 yX8_cellAt ∈ lw_gd := lw_g (List.mem_of_getElem? (i := 942) (by decide +kernel)) rfl
theorem kw_943 : Cond.instanceMethod yX8_cellAt ∈ lw_gd := lw_g (List.mem_of_getElem? (i := 943) (by decide +kernel)) rfl
theorem kw_944 : Cond.selects RX8 yX8_cellAt yX8_cellAt ∈ lw_gd := lw_g (List.mem_of_getElem? (i := 944) (by decide +kernel)) rfl
theorem kw_945 : Cond.code yX8_cellAt prog_10_method_5_code 5 (some .int) ∈ lw_gd := lw_g (List.mem_of_getElem? (i := 945) (by decide +kernel)) rfl
theorem kw_950 : Cond.methodLink RX10 196 yX10_supposed ∈ lw_gd := lw_g (List.mem_of_getElem? (i := 950) (by decide +kernel)) rfl
theorem kw_952 : Cond.instanceMethod yX10_supposed ∈ lw_gd := lw_g (List.mem_of_getElem? (i := 952) (by decide +kernel)) rfl
theorem kw_953 : Cond.code yX10_supposed prog_1_method_42_code 4 (some .int) ∈ lw_gd := lw_g (List.mem_of_getElem? (i := 953) (by decide +kernel)) rfl
theorem kw_954 : Cond.methodLink RX10 200 yX1_back ∈ lw_gd := lw_g (List.mem_of_getElem? (i := 954) (by decide +kernel)) rfl
theorem kw_963 : Cond.constantLong RX10 203 (9223372036854775807) ∈ lw_gd := lw_g (List.mem_of_getElem? (i := 963) (by decide +kernel)) rfl
theorem kw_964 : Cond.methodLink RX10 205 yX0_reaches ∈ lw_gd := lw_g (List.mem_of_getElem? (i := 964) (by decide +kernel)) rfl
theorem kw_965 : Cond.instanceMethod yX0_reaches ∈ lw_gd := lw_g (List.mem_of_getElem? (i := 965) (by decide +kernel)) rfl
theorem kw_966 : Cond.selects RX0 yX0_reaches yX0_reaches ∈ lw_gd := lw_g (List.mem_of_getElem? (i := 966) (by decide +kernel)) rfl
theorem kw_967 : Cond.code yX0_reaches prog_2_method_21_code 4 (some .boolean) ∈ lw_gd := lw_g (List.mem_of_getElem? (i := 967) (by decide +kernel)) rfl
theorem kw_1013 : Cond.methodLink RX10 213 yX6_length ∈ lw_gd := lw_g (List.mem_of_getElem? (i := 1013) (by decide +kernel)) rfl
theorem kw_1014 : Cond.instanceMethod yX6_length ∈ lw_gd := lw_g (List.mem_of_getElem? (i := 1014) (by decide +kernel)) rfl
theorem kw_1015 : Cond.selects RX6 yX6_length yX6_length ∈ lw_gd := lw_g (List.mem_of_getElem? (i := 1015) (by decide +kernel)) rfl
theorem kw_1016 : Cond.code yX6_length prog_8_method_2_code 1 (some .int) ∈ lw_gd := lw_g (List.mem_of_getElem? (i := 1016) (by decide +kernel)) rfl
theorem kw_1021 : Cond.methodLink RX10 214 yX6_letter ∈ lw_gd := lw_g (List.mem_of_getElem? (i := 1021) (by decide +kernel)) rfl
theorem kw_1022 : Cond.instanceMethod yX6_letter ∈ lw_gd := lw_g (List.mem_of_getElem? (i := 1022) (by decide +kernel)) rfl
theorem kw_1023 : Cond.selects RX6 yX6_letter yX6_letter ∈ lw_gd := lw_g (List.mem_of_getElem? (i := 1023) (by decide +kernel)) rfl
theorem kw_1024 : Cond.code yX6_letter prog_8_method_3_code 2 (some .int) ∈ lw_gd := lw_g (List.mem_of_getElem? (i := 1024) (by decide +kernel)) rfl
theorem kw_1029 : Cond.methodLink RX10 217 yX9_join ∈ lw_gd := lw_g (List.mem_of_getElem? (i := 1029) (by decide +kernel)) rfl
theorem kw_1030 : Cond.instanceMethod yX9_join ∈ lw_gd := lw_g (List.mem_of_getElem? (i := 1030) (by decide +kernel)) rfl
theorem kw_1031 : Cond.selects RX9 yX9_join yX9_join ∈ lw_gd := lw_g (List.mem_of_getElem? (i := 1031) (by decide +kernel)) rfl
theorem kw_1032 : Cond.code yX9_join prog_11_method_3_code 5 (some .int) ∈ lw_gd := lw_g (List.mem_of_getElem? (i := 1032) (by decide +kernel)) rfl
theorem kw_1033 : Cond.methodLinkNest RX9 57 yX10_bit "ReactiveSheet" ∈ lw_ns := lw_n (List.mem_of_getElem? (i := 1033) (by decide +kernel)) rfl
theorem kw_1038 : Cond.methodLink RX10 221 yX9_leave ∈ lw_gd := lw_g (List.mem_of_getElem? (i := 1038) (by decide +kernel)) rfl
theorem kw_1039 : Cond.instanceMethod yX9_leave ∈ lw_gd := lw_g (List.mem_of_getElem? (i := 1039) (by decide +kernel)) rfl
theorem kw_1040 : Cond.selects RX9 yX9_leave yX9_leave ∈ lw_gd := lw_g (List.mem_of_getElem? (i := 1040) (by decide +kernel)) rfl
theorem kw_1041 : Cond.code yX9_leave prog_11_method_4_code 3 (some .int) ∈ lw_gd := lw_g (List.mem_of_getElem? (i := 1041) (by decide +kernel)) rfl
theorem kw_1042 : Cond.constantLong RX9 65 (-1) ∈ lw_gd := lw_g (List.mem_of_getElem? (i := 1042) (by decide +kernel)) rfl
theorem kw_1047 : Cond.methodLink RX10 224 yX9_entry ∈ lw_gd := lw_g (List.mem_of_getElem? (i := 1047) (by decide +kernel)) rfl
theorem kw_1048 : Cond.instanceMethod yX9_entry ∈ lw_gd := lw_g (List.mem_of_getElem? (i := 1048) (by decide +kernel)) rfl
theorem kw_1049 : Cond.selects RX9 yX9_entry yX9_entry ∈ lw_gd := lw_g (List.mem_of_getElem? (i := 1049) (by decide +kernel)) rfl
theorem kw_1050 : Cond.code yX9_entry prog_11_method_11_code 4 (some .int) ∈ lw_gd := lw_g (List.mem_of_getElem? (i := 1050) (by decide +kernel)) rfl
theorem kw_1051 : Cond.methodLink RX9 97 yX9_placeOf ∈ lw_gd := lw_g (List.mem_of_getElem? (i := 1051) (by decide +kernel)) rfl
theorem kw_1053 : Cond.instanceMethod yX9_placeOf ∈ lw_gd := lw_g (List.mem_of_getElem? (i := 1053) (by decide +kernel)) rfl
theorem kw_1054 : Cond.code yX9_placeOf prog_11_method_10_code 2 (some .int) ∈ lw_gd := lw_g (List.mem_of_getElem? (i := 1054) (by decide +kernel)) rfl
theorem kw_1055 : Cond.methodLink RX9 91 yJ9_floorMod_7cf53 ∈ lw_gd := lw_g (List.mem_of_getElem? (i := 1055) (by decide +kernel)) rfl
theorem kw_1060 : Cond.methodLink RX10 227 yX9_number ∈ lw_gd := lw_g (List.mem_of_getElem? (i := 1060) (by decide +kernel)) rfl
theorem kw_1061 : Cond.instanceMethod yX9_number ∈ lw_gd := lw_g (List.mem_of_getElem? (i := 1061) (by decide +kernel)) rfl
theorem kw_1062 : Cond.selects RX9 yX9_number yX9_number ∈ lw_gd := lw_g (List.mem_of_getElem? (i := 1062) (by decide +kernel)) rfl
theorem kw_1063 : Cond.code yX9_number prog_11_method_12_code 4 (some .long) ∈ lw_gd := lw_g (List.mem_of_getElem? (i := 1063) (by decide +kernel)) rfl
theorem kw_1064 : Cond.constantLong RX9 100 (-9223372036854775808) ∈ lw_gd := lw_g (List.mem_of_getElem? (i := 1064) (by decide +kernel)) rfl
theorem kw_1069 : Cond.methodLink RX10 231 yX0_countOf ∈ lw_gd := lw_g (List.mem_of_getElem? (i := 1069) (by decide +kernel)) rfl
theorem kw_1070 : Cond.methodLink RX10 234 yX0_ranCount ∈ lw_gd := lw_g (List.mem_of_getElem? (i := 1070) (by decide +kernel)) rfl
theorem kw_1071 : Cond.methodLink RX10 240 yX0_allRuns ∈ lw_gd := lw_g (List.mem_of_getElem? (i := 1071) (by decide +kernel)) rfl
theorem kw_1072 : Cond.instanceMethod yX0_allRuns ∈ lw_gd := lw_g (List.mem_of_getElem? (i := 1072) (by decide +kernel)) rfl
theorem kw_1073 : Cond.selects RX0 yX0_allRuns yX0_allRuns ∈ lw_gd := lw_g (List.mem_of_getElem? (i := 1073) (by decide +kernel)) rfl
theorem kw_1074 : Cond.code yX0_allRuns prog_2_method_33_code 3 (some .int) ∈ lw_gd := lw_g (List.mem_of_getElem? (i := 1074) (by decide +kernel)) rfl
theorem kw_1075 : Cond.methodLink RX10 243 yX3_waves ∈ lw_gd := lw_g (List.mem_of_getElem? (i := 1075) (by decide +kernel)) rfl
theorem kw_1076 : Cond.instanceMethod yX3_waves ∈ lw_gd := lw_g (List.mem_of_getElem? (i := 1076) (by decide +kernel)) rfl
theorem kw_1077 : Cond.selects RX3 yX3_waves yX3_waves ∈ lw_gd := lw_g (List.mem_of_getElem? (i := 1077) (by decide +kernel)) rfl
theorem kw_1078 : Cond.code yX3_waves prog_5_method_2_code 1 (some .int) ∈ lw_gd := lw_g (List.mem_of_getElem? (i := 1078) (by decide +kernel)) rfl
theorem kw_1079 : Cond.methodLink RX10 246 yX9_joined ∈ lw_gd := lw_g (List.mem_of_getElem? (i := 1079) (by decide +kernel)) rfl
theorem kw_1080 : Cond.instanceMethod yX9_joined ∈ lw_gd := lw_g (List.mem_of_getElem? (i := 1080) (by decide +kernel)) rfl
theorem kw_1081 : Cond.selects RX9 yX9_joined yX9_joined ∈ lw_gd := lw_g (List.mem_of_getElem? (i := 1081) (by decide +kernel)) rfl
theorem kw_1082 : Cond.code yX9_joined prog_11_method_5_code 1 (some .int) ∈ lw_gd := lw_g (List.mem_of_getElem? (i := 1082) (by decide +kernel)) rfl
theorem kw_1083 : Cond.methodLink RX10 249 yX9_entries ∈ lw_gd := lw_g (List.mem_of_getElem? (i := 1083) (by decide +kernel)) rfl
theorem kw_1084 : Cond.instanceMethod yX9_entries ∈ lw_gd := lw_g (List.mem_of_getElem? (i := 1084) (by decide +kernel)) rfl
theorem kw_1085 : Cond.selects RX9 yX9_entries yX9_entries ∈ lw_gd := lw_g (List.mem_of_getElem? (i := 1085) (by decide +kernel)) rfl
theorem kw_1086 : Cond.code yX9_entries prog_11_method_6_code 1 (some .int) ∈ lw_gd := lw_g (List.mem_of_getElem? (i := 1086) (by decide +kernel)) rfl
theorem kw_1087 : Cond.methodLink RX10 252 yX0_greatestHeight ∈ lw_gd := lw_g (List.mem_of_getElem? (i := 1087) (by decide +kernel)) rfl
theorem kw_1088 : Cond.instanceMethod yX0_greatestHeight ∈ lw_gd := lw_g (List.mem_of_getElem? (i := 1088) (by decide +kernel)) rfl
theorem kw_1089 : Cond.selects RX0 yX0_greatestHeight yX0_greatestHeight ∈ lw_gd := lw_g (List.mem_of_getElem? (i := 1089) (by decide +kernel)) rfl
theorem kw_1090 : Cond.code yX0_greatestHeight prog_2_method_34_code 3 (some .int) ∈ lw_gd := lw_g (List.mem_of_getElem? (i := 1090) (by decide +kernel)) rfl
theorem kw_1095 : Cond.methodLink RX10 255 yX3_entry ∈ lw_gd := lw_g (List.mem_of_getElem? (i := 1095) (by decide +kernel)) rfl
theorem kw_1096 : Cond.instanceMethod yX3_entry ∈ lw_gd := lw_g (List.mem_of_getElem? (i := 1096) (by decide +kernel)) rfl
theorem kw_1097 : Cond.selects RX3 yX3_entry yX3_entry ∈ lw_gd := lw_g (List.mem_of_getElem? (i := 1097) (by decide +kernel)) rfl
theorem kw_1098 : Cond.code yX3_entry prog_5_method_4_code 3 (some .int) ∈ lw_gd := lw_g (List.mem_of_getElem? (i := 1098) (by decide +kernel)) rfl
theorem kw_1103 : Cond.methodLink RX10 256 yX4_isList ∈ lw_gd := lw_g (List.mem_of_getElem? (i := 1103) (by decide +kernel)) rfl
theorem kw_1104 : Cond.instanceMethod yX4_isList ∈ lw_gd := lw_g (List.mem_of_getElem? (i := 1104) (by decide +kernel)) rfl
theorem kw_1105 : Cond.selects RX4 yX4_isList yX4_isList ∈ lw_gd := lw_g (List.mem_of_getElem? (i := 1105) (by decide +kernel)) rfl
theorem kw_1106 : Cond.code yX4_isList prog_6_method_2_code 2 (some .boolean) ∈ lw_gd := lw_g (List.mem_of_getElem? (i := 1106) (by decide +kernel)) rfl
theorem kw_1107 : Cond.methodLink RX10 259 yX4_make ∈ lw_gd := lw_g (List.mem_of_getElem? (i := 1107) (by decide +kernel)) rfl
theorem kw_1108 : Cond.instanceMethod yX4_make ∈ lw_gd := lw_g (List.mem_of_getElem? (i := 1108) (by decide +kernel)) rfl
theorem kw_1109 : Cond.selects RX4 yX4_make yX4_make ∈ lw_gd := lw_g (List.mem_of_getElem? (i := 1109) (by decide +kernel)) rfl
theorem kw_1110 : Cond.code yX4_make prog_6_method_6_code 3 none ∈ lw_gd := lw_g (List.mem_of_getElem? (i := 1110) (by decide +kernel)) rfl
theorem kw_1111 : Cond.methodLink RX4 19 yX4_isList ∈ lw_gd := lw_g (List.mem_of_getElem? (i := 1111) (by decide +kernel)) rfl
theorem kw_1112 : Cond.methodLink RX4 25 yJ7_fill_bad5a ∈ lw_gd := lw_g (List.mem_of_getElem? (i := 1112) (by decide +kernel)) rfl
theorem kw_1113 : Cond.static yJ7_fill_bad5a ∈ lw_gd := lw_g (List.mem_of_getElem? (i := 1113) (by decide +kernel)) rfl
theorem kw_1114 : Cond.code yJ7_fill_bad5a prog_18_method_102_code 6 none ∈ lw_gd := lw_g (List.mem_of_getElem? (i := 1114) (by decide +kernel)) rfl
theorem kw_1115 : Cond.methodLink RJ7 13 yJ7_rangeCheck_23922 ∈ lw_gd := lw_g (List.mem_of_getElem? (i := 1115) (by decide +kernel)) rfl
theorem kw_1116 : Cond.static yJ7_rangeCheck_23922 ∈ lw_gd := lw_g (List.mem_of_getElem? (i := 1116) (by decide +kernel)) rfl
theorem kw_1117 : Cond.code yJ7_rangeCheck_23922 prog_18_method_30_code 3 none ∈ lw_gd := lw_g (List.mem_of_getElem? (i := 1117) (by decide +kernel)) rfl
theorem kw_1122 : Cond.methodLink RX10 263 yX4_isMade ∈ lw_gd := lw_g (List.mem_of_getElem? (i := 1122) (by decide +kernel)) rfl
theorem kw_1123 : Cond.instanceMethod yX4_isMade ∈ lw_gd := lw_g (List.mem_of_getElem? (i := 1123) (by decide +kernel)) rfl
theorem kw_1124 : Cond.selects RX4 yX4_isMade yX4_isMade ∈ lw_gd := lw_g (List.mem_of_getElem? (i := 1124) (by decide +kernel)) rfl
theorem kw_1125 : Cond.code yX4_isMade prog_6_method_3_code 2 (some .boolean) ∈ lw_gd := lw_g (List.mem_of_getElem? (i := 1125) (by decide +kernel)) rfl
theorem kw_1126 : Cond.methodLink RX10 266 yX4_hasPlace ∈ lw_gd := lw_g (List.mem_of_getElem? (i := 1126) (by decide +kernel)) rfl
theorem kw_1127 : Cond.instanceMethod yX4_hasPlace ∈ lw_gd := lw_g (List.mem_of_getElem? (i := 1127) (by decide +kernel)) rfl
theorem kw_1128 : Cond.selects RX4 yX4_hasPlace yX4_hasPlace ∈ lw_gd := lw_g (List.mem_of_getElem? (i := 1128) (by decide +kernel)) rfl
theorem kw_1129 : Cond.code yX4_hasPlace prog_6_method_4_code 4 (some .boolean) ∈ lw_gd := lw_g (List.mem_of_getElem? (i := 1129) (by decide +kernel)) rfl
theorem kw_1130 : Cond.constantLong RX4 23 (40) ∈ lw_gd := lw_g (List.mem_of_getElem? (i := 1130) (by decide +kernel)) rfl
theorem kw_1131 : Cond.methodLink RX10 269 yX4_put ∈ lw_gd := lw_g (List.mem_of_getElem? (i := 1131) (by decide +kernel)) rfl
theorem kw_1132 : Cond.instanceMethod yX4_put ∈ lw_gd := lw_g (List.mem_of_getElem? (i := 1132) (by decide +kernel)) rfl
theorem kw_1133 : Cond.selects RX4 yX4_put yX4_put ∈ lw_gd := lw_g (List.mem_of_getElem? (i := 1133) (by decide +kernel)) rfl
theorem kw_1134 : Cond.code yX4_put prog_6_method_7_code 5 none ∈ lw_gd := lw_g (List.mem_of_getElem? (i := 1134) (by decide +kernel)) rfl
theorem kw_1135 : Cond.methodLink RX4 31 yX4_hasPlace ∈ lw_gd := lw_g (List.mem_of_getElem? (i := 1135) (by decide +kernel)) rfl
theorem kw_1140 : Cond.methodLink RX10 272 yX4_at ∈ lw_gd := lw_g (List.mem_of_getElem? (i := 1140) (by decide +kernel)) rfl
theorem kw_1141 : Cond.instanceMethod yX4_at ∈ lw_gd := lw_g (List.mem_of_getElem? (i := 1141) (by decide +kernel)) rfl
theorem kw_1142 : Cond.selects RX4 yX4_at yX4_at ∈ lw_gd := lw_g (List.mem_of_getElem? (i := 1142) (by decide +kernel)) rfl
theorem kw_1143 : Cond.code yX4_at prog_6_method_8_code 3 (some .long) ∈ lw_gd := lw_g (List.mem_of_getElem? (i := 1143) (by decide +kernel)) rfl
theorem kw_1144 : Cond.constantLong RX4 35 (-9223372036854775808) ∈ lw_gd := lw_g (List.mem_of_getElem? (i := 1144) (by decide +kernel)) rfl
theorem kw_1149 : Cond.methodLink RX10 275 yX4_hasRow ∈ lw_gd := lw_g (List.mem_of_getElem? (i := 1149) (by decide +kernel)) rfl
theorem kw_1150 : Cond.instanceMethod yX4_hasRow ∈ lw_gd := lw_g (List.mem_of_getElem? (i := 1150) (by decide +kernel)) rfl
theorem kw_1151 : Cond.selects RX4 yX4_hasRow yX4_hasRow ∈ lw_gd := lw_g (List.mem_of_getElem? (i := 1151) (by decide +kernel)) rfl
theorem kw_1152 : Cond.code yX4_hasRow prog_6_method_5_code 4 (some .boolean) ∈ lw_gd := lw_g (List.mem_of_getElem? (i := 1152) (by decide +kernel)) rfl
theorem kw_1153 : Cond.methodLink RX10 279 yX4_carry ∈ lw_gd := lw_g (List.mem_of_getElem? (i := 1153) (by decide +kernel)) rfl
theorem kw_1154 : Cond.instanceMethod yX4_carry ∈ lw_gd := lw_g (List.mem_of_getElem? (i := 1154) (by decide +kernel)) rfl
theorem kw_1155 : Cond.selects RX4 yX4_carry yX4_carry ∈ lw_gd := lw_g (List.mem_of_getElem? (i := 1155) (by decide +kernel)) rfl
theorem kw_1156 : Cond.code yX4_carry prog_6_method_9_code 6 none ∈ lw_gd := lw_g (List.mem_of_getElem? (i := 1156) (by decide +kernel)) rfl
theorem kw_1157 : Cond.methodLink RX4 37 yX4_hasRow ∈ lw_gd := lw_g (List.mem_of_getElem? (i := 1157) (by decide +kernel)) rfl
theorem kw_1158 : Cond.methodLink RX4 41 arraycopyName ∈ lw_gd := lw_g (List.mem_of_getElem? (i := 1158) (by decide +kernel)) rfl
theorem kw_1163 : Cond.methodLink RX10 283 yX0_listed ∈ lw_gd := lw_g (List.mem_of_getElem? (i := 1163) (by decide +kernel)) rfl
theorem kw_1164 : Cond.instanceMethod yX0_listed ∈ lw_gd := lw_g (List.mem_of_getElem? (i := 1164) (by decide +kernel)) rfl
theorem kw_1165 : Cond.selects RX0 yX0_listed yX0_listed ∈ lw_gd := lw_g (List.mem_of_getElem? (i := 1165) (by decide +kernel)) rfl
theorem kw_1166 : Cond.code yX0_listed prog_2_method_23_code 2 (some .long) ∈ lw_gd := lw_g (List.mem_of_getElem? (i := 1166) (by decide +kernel)) rfl
theorem kw_1175 : Cond.methodLink RX10 286 yX0_takeFrom ∈ lw_gd := lw_g (List.mem_of_getElem? (i := 1175) (by decide +kernel)) rfl
theorem kw_1176 : Cond.methodLink RX10 290 yX9_takeFrom ∈ lw_gd := lw_g (List.mem_of_getElem? (i := 1176) (by decide +kernel)) rfl
theorem kw_1177 : Cond.instanceMethod yX9_takeFrom ∈ lw_gd := lw_g (List.mem_of_getElem? (i := 1177) (by decide +kernel)) rfl
theorem kw_1178 : Cond.selects RX9 yX9_takeFrom yX9_takeFrom ∈ lw_gd := lw_g (List.mem_of_getElem? (i := 1178) (by decide +kernel)) rfl
theorem kw_1179 : Cond.code yX9_takeFrom prog_11_method_2_code 2 none ∈ lw_gd := lw_g (List.mem_of_getElem? (i := 1179) (by decide +kernel)) rfl
theorem kw_1180 : Cond.methodLink RX9 51 arraycopyName ∈ lw_gd := lw_g (List.mem_of_getElem? (i := 1180) (by decide +kernel)) rfl
theorem kw_1181 : Cond.methodLink RX10 293 yX0_present ∈ lw_gd := lw_g (List.mem_of_getElem? (i := 1181) (by decide +kernel)) rfl
theorem kw_1192 : Cond.fieldLink RX11 11 "ReactiveSheetModel" "kind" "[I" ∈ lw_gd := lw_g (List.mem_of_getElem? (i := 1192) (by decide +kernel)) rfl
theorem kw_1193 : Cond.fieldLink RX11 15 "ReactiveSheetModel" "error" "[I" ∈ lw_gd := lw_g (List.mem_of_getElem? (i := 1193) (by decide +kernel)) rfl
theorem kw_1194 : Cond.fieldLink RX11 18 "ReactiveSheetModel" "runs" "[I" ∈ lw_gd := lw_g (List.mem_of_getElem? (i := 1194) (by decide +kernel)) rfl
theorem kw_1195 : Cond.fieldLink RX11 21 "ReactiveSheetModel" "many" "[I" ∈ lw_gd := lw_g (List.mem_of_getElem? (i := 1195) (by decide +kernel)) rfl
theorem kw_1196 : Cond.fieldLink RX11 24 "ReactiveSheetModel" "cause" "[I" ∈ lw_gd := lw_g (List.mem_of_getElem? (i := 1196) (by decide +kernel)) rfl
theorem kw_1197 : Cond.fieldLink RX11 27 "ReactiveSheetModel" "root" "[I" ∈ lw_gd := lw_g (List.mem_of_getElem? (i := 1197) (by decide +kernel)) rfl
theorem kw_1198 : Cond.fieldLink RX11 30 "ReactiveSheetModel" "value" "[J" ∈ lw_gd := lw_g (List.mem_of_getElem? (i := 1198) (by decide +kernel)) rfl
theorem kw_1199 : Cond.fieldLink RX11 34 "ReactiveSheetModel" "reads" "[I" ∈ lw_gd := lw_g (List.mem_of_getElem? (i := 1199) (by decide +kernel)) rfl
theorem kw_1200 : Cond.fieldLink RX11 37 "ReactiveSheetModel" "changed" "[Z" ∈ lw_gd := lw_g (List.mem_of_getElem? (i := 1200) (by decide +kernel)) rfl
theorem kw_1201 : Cond.fieldLink RX11 41 "ReactiveSheetModel" "ran" "[Z" ∈ lw_gd := lw_g (List.mem_of_getElem? (i := 1201) (by decide +kernel)) rfl
theorem kw_1202 : Cond.fieldLink RX11 44 "ReactiveSheetModel" "sign" "[I" ∈ lw_gd := lw_g (List.mem_of_getElem? (i := 1202) (by decide +kernel)) rfl
theorem kw_1203 : Cond.fieldLink RX11 47 "ReactiveSheetModel" "one" "[I" ∈ lw_gd := lw_g (List.mem_of_getElem? (i := 1203) (by decide +kernel)) rfl
theorem kw_1204 : Cond.fieldLink RX11 50 "ReactiveSheetModel" "two" "[I" ∈ lw_gd := lw_g (List.mem_of_getElem? (i := 1204) (by decide +kernel)) rfl
theorem kw_1205 : Cond.fieldLink RX11 53 "ReactiveSheetModel" "three" "[I" ∈ lw_gd := lw_g (List.mem_of_getElem? (i := 1205) (by decide +kernel)) rfl
theorem kw_1206 : Cond.fieldLink RX11 56 "ReactiveSheetModel" "isTold" "[Z" ∈ lw_gd := lw_g (List.mem_of_getElem? (i := 1206) (by decide +kernel)) rfl
theorem kw_1207 : Cond.fieldLink RX11 59 "ReactiveSheetModel" "isBatched" "[Z" ∈ lw_gd := lw_g (List.mem_of_getElem? (i := 1207) (by decide +kernel)) rfl
theorem kw_1208 : Cond.fieldLink RX11 62 "ReactiveSheetModel" "toldKind" "[I" ∈ lw_gd := lw_g (List.mem_of_getElem? (i := 1208) (by decide +kernel)) rfl
theorem kw_1209 : Cond.fieldLink RX11 65 "ReactiveSheetModel" "toldRoot" "[I" ∈ lw_gd := lw_g (List.mem_of_getElem? (i := 1209) (by decide +kernel)) rfl
theorem kw_1210 : Cond.fieldLink RX11 68 "ReactiveSheetModel" "batchKind" "[I" ∈ lw_gd := lw_g (List.mem_of_getElem? (i := 1210) (by decide +kernel)) rfl
theorem kw_1211 : Cond.fieldLink RX11 71 "ReactiveSheetModel" "batchRoot" "[I" ∈ lw_gd := lw_g (List.mem_of_getElem? (i := 1211) (by decide +kernel)) rfl
theorem kw_1212 : Cond.fieldLink RX11 74 "ReactiveSheetModel" "toldValue" "[J" ∈ lw_gd := lw_g (List.mem_of_getElem? (i := 1212) (by decide +kernel)) rfl
theorem kw_1213 : Cond.fieldLink RX11 77 "ReactiveSheetModel" "batchValue" "[J" ∈ lw_gd := lw_g (List.mem_of_getElem? (i := 1213) (by decide +kernel)) rfl
theorem kw_1214 : Cond.fieldLink RX11 342 "ReactiveSheetModel" "isBatch" "Z" ∈ lw_gd := lw_g (List.mem_of_getElem? (i := 1214) (by decide +kernel)) rfl
theorem kw_1215 : Cond.fieldLink RX11 80 "ReactiveSheetModel" "wasKind" "[I" ∈ lw_gd := lw_g (List.mem_of_getElem? (i := 1215) (by decide +kernel)) rfl
theorem kw_1216 : Cond.fieldLink RX11 83 "ReactiveSheetModel" "wasError" "[I" ∈ lw_gd := lw_g (List.mem_of_getElem? (i := 1216) (by decide +kernel)) rfl
theorem kw_1217 : Cond.fieldLink RX11 86 "ReactiveSheetModel" "wasRuns" "[I" ∈ lw_gd := lw_g (List.mem_of_getElem? (i := 1217) (by decide +kernel)) rfl
theorem kw_1218 : Cond.fieldLink RX11 89 "ReactiveSheetModel" "wasMany" "[I" ∈ lw_gd := lw_g (List.mem_of_getElem? (i := 1218) (by decide +kernel)) rfl
theorem kw_1219 : Cond.fieldLink RX11 92 "ReactiveSheetModel" "wasCause" "[I" ∈ lw_gd := lw_g (List.mem_of_getElem? (i := 1219) (by decide +kernel)) rfl
theorem kw_1220 : Cond.fieldLink RX11 95 "ReactiveSheetModel" "wasRoot" "[I" ∈ lw_gd := lw_g (List.mem_of_getElem? (i := 1220) (by decide +kernel)) rfl
theorem kw_1221 : Cond.fieldLink RX11 98 "ReactiveSheetModel" "wasReads" "[I" ∈ lw_gd := lw_g (List.mem_of_getElem? (i := 1221) (by decide +kernel)) rfl
theorem kw_1222 : Cond.fieldLink RX11 101 "ReactiveSheetModel" "wasValue" "[J" ∈ lw_gd := lw_g (List.mem_of_getElem? (i := 1222) (by decide +kernel)) rfl
theorem kw_1223 : Cond.fieldLink RX11 104 "ReactiveSheetModel" "wasChanged" "[Z" ∈ lw_gd := lw_g (List.mem_of_getElem? (i := 1223) (by decide +kernel)) rfl
theorem kw_1224 : Cond.fieldLink RX11 107 "ReactiveSheetModel" "wasRan" "[Z" ∈ lw_gd := lw_g (List.mem_of_getElem? (i := 1224) (by decide +kernel)) rfl
theorem kw_1225 : Cond.fieldLink RX11 110 "ReactiveSheetModel" "settled" "[I" ∈ lw_gd := lw_g (List.mem_of_getElem? (i := 1225) (by decide +kernel)) rfl
theorem kw_1226 : Cond.fieldLink RX11 242 "ReactiveSheetModel" "ring" "Z" ∈ lw_gd := lw_g (List.mem_of_getElem? (i := 1226) (by decide +kernel)) rfl
theorem kw_1227 : Cond.fieldLink RX11 250 "ReactiveSheetModel" "running" "I" ∈ lw_gd := lw_g (List.mem_of_getElem? (i := 1227) (by decide +kernel)) rfl
theorem kw_1228 : Cond.fieldLink RX11 290 "ReactiveSheetModel" "ranInWave" "I" ∈ lw_gd := lw_g (List.mem_of_getElem? (i := 1228) (by decide +kernel)) rfl
theorem kw_1229 : Cond.fieldLink RX11 236 "ReactiveSheetModel" "fails" "I" ∈ lw_gd := lw_g (List.mem_of_getElem? (i := 1229) (by decide +kernel)) rfl
theorem kw_1230 : Cond.fieldLink RX11 113 "ReactiveSheetModel" "tape" "[I" ∈ lw_gd := lw_g (List.mem_of_getElem? (i := 1230) (by decide +kernel)) rfl
theorem kw_1231 : Cond.fieldLink RX11 116 "ReactiveSheetModel" "paper" "[I" ∈ lw_gd := lw_g (List.mem_of_getElem? (i := 1231) (by decide +kernel)) rfl
theorem kw_1232 : Cond.fieldLink RX11 177 "ReactiveSheetModel" "tapeSize" "I" ∈ lw_gd := lw_g (List.mem_of_getElem? (i := 1232) (by decide +kernel)) rfl
theorem kw_1233 : Cond.fieldLink RX11 407 "ReactiveSheetModel" "paperSize" "I" ∈ lw_gd := lw_g (List.mem_of_getElem? (i := 1233) (by decide +kernel)) rfl
theorem kw_1234 : Cond.fieldLink RX11 184 "ReactiveSheetModel" "at" "I" ∈ lw_gd := lw_g (List.mem_of_getElem? (i := 1234) (by decide +kernel)) rfl
theorem kw_1235 : Cond.fieldLink RX11 181 "ReactiveSheetModel" "fault" "I" ∈ lw_gd := lw_g (List.mem_of_getElem? (i := 1235) (by decide +kernel)) rfl
theorem kw_1236 : Cond.fieldLink RX11 233 "ReactiveSheetModel" "within" "I" ∈ lw_gd := lw_g (List.mem_of_getElem? (i := 1236) (by decide +kernel)) rfl
theorem kw_1237 : Cond.fieldLink RX11 198 "ReactiveSheetModel" "base" "I" ∈ lw_gd := lw_g (List.mem_of_getElem? (i := 1237) (by decide +kernel)) rfl
theorem kw_1238 : Cond.fieldLink RX11 201 "ReactiveSheetModel" "nodes" "I" ∈ lw_gd := lw_g (List.mem_of_getElem? (i := 1238) (by decide +kernel)) rfl
theorem kw_1239 : Cond.fieldLink RX11 327 "ReactiveSheetModel" "watchers" "I" ∈ lw_gd := lw_g (List.mem_of_getElem? (i := 1239) (by decide +kernel)) rfl
theorem kw_1240 : Cond.fieldLink RX11 309 "ReactiveSheetModel" "logs" "I" ∈ lw_gd := lw_g (List.mem_of_getElem? (i := 1240) (by decide +kernel)) rfl
theorem kw_1241 : Cond.fieldLink RX11 324 "ReactiveSheetModel" "waves" "I" ∈ lw_gd := lw_g (List.mem_of_getElem? (i := 1241) (by decide +kernel)) rfl
theorem kw_1242 : Cond.fieldLink RX11 336 "ReactiveSheetModel" "pasts" "I" ∈ lw_gd := lw_g (List.mem_of_getElem? (i := 1242) (by decide +kernel)) rfl
theorem kw_1243 : Cond.fieldLink RX11 321 "ReactiveSheetModel" "lastRan" "I" ∈ lw_gd := lw_g (List.mem_of_getElem? (i := 1243) (by decide +kernel)) rfl
theorem kw_1244 : Cond.fieldLink RX11 318 "ReactiveSheetModel" "lastChanged" "I" ∈ lw_gd := lw_g (List.mem_of_getElem? (i := 1244) (by decide +kernel)) rfl
theorem kw_1245 : Cond.fieldLink RX11 119 "ReactiveSheetModel" "watched" "[I" ∈ lw_gd := lw_g (List.mem_of_getElem? (i := 1245) (by decide +kernel)) rfl
theorem kw_1246 : Cond.fieldLink RX11 122 "ReactiveSheetModel" "watchKind" "[I" ∈ lw_gd := lw_g (List.mem_of_getElem? (i := 1246) (by decide +kernel)) rfl
theorem kw_1247 : Cond.fieldLink RX11 125 "ReactiveSheetModel" "logBy" "[I" ∈ lw_gd := lw_g (List.mem_of_getElem? (i := 1247) (by decide +kernel)) rfl
theorem kw_1248 : Cond.fieldLink RX11 128 "ReactiveSheetModel" "logWas" "[I" ∈ lw_gd := lw_g (List.mem_of_getElem? (i := 1248) (by decide +kernel)) rfl
theorem kw_1249 : Cond.fieldLink RX11 131 "ReactiveSheetModel" "logIs" "[I" ∈ lw_gd := lw_g (List.mem_of_getElem? (i := 1249) (by decide +kernel)) rfl
theorem kw_1250 : Cond.fieldLink RX11 134 "ReactiveSheetModel" "quit" "[Z" ∈ lw_gd := lw_g (List.mem_of_getElem? (i := 1250) (by decide +kernel)) rfl
theorem kw_1251 : Cond.fieldLink RX11 137 "ReactiveSheetModel" "bound" "[J" ∈ lw_gd := lw_g (List.mem_of_getElem? (i := 1251) (by decide +kernel)) rfl
theorem kw_1252 : Cond.fieldLink RX11 140 "ReactiveSheetModel" "logWasValue" "[J" ∈ lw_gd := lw_g (List.mem_of_getElem? (i := 1252) (by decide +kernel)) rfl
theorem kw_1253 : Cond.fieldLink RX11 143 "ReactiveSheetModel" "logIsValue" "[J" ∈ lw_gd := lw_g (List.mem_of_getElem? (i := 1253) (by decide +kernel)) rfl
theorem kw_1254 : Cond.fieldLink RX11 146 "ReactiveSheetModel" "past" "[I" ∈ lw_gd := lw_g (List.mem_of_getElem? (i := 1254) (by decide +kernel)) rfl
theorem kw_1255 : Cond.fieldLink RX11 149 "ReactiveSheetModel" "lists" "[J" ∈ lw_gd := lw_g (List.mem_of_getElem? (i := 1255) (by decide +kernel)) rfl
theorem kw_1256 : Cond.fieldLink RX11 152 "ReactiveSheetModel" "listSize" "[I" ∈ lw_gd := lw_g (List.mem_of_getElem? (i := 1256) (by decide +kernel)) rfl
theorem kw_1257 : Cond.fieldLink RX11 445 "ReactiveSheetModel" "isKept" "Z" ∈ lw_gd := lw_g (List.mem_of_getElem? (i := 1257) (by decide +kernel)) rfl
theorem kw_1258 : Cond.fieldLink RX11 155 "ReactiveSheetModel" "kept" "[I" ∈ lw_gd := lw_g (List.mem_of_getElem? (i := 1258) (by decide +kernel)) rfl
theorem kw_1259 : Cond.fieldLink RX11 158 "ReactiveSheetModel" "keptLongs" "[J" ∈ lw_gd := lw_g (List.mem_of_getElem? (i := 1259) (by decide +kernel)) rfl
theorem kw_1260 : Cond.fieldLink RX11 426 "ReactiveSheetModel" "keptAt" "I" ∈ lw_gd := lw_g (List.mem_of_getElem? (i := 1260) (by decide +kernel)) rfl
theorem kw_1261 : Cond.fieldLink RX11 429 "ReactiveSheetModel" "keptLongAt" "I" ∈ lw_gd := lw_g (List.mem_of_getElem? (i := 1261) (by decide +kernel)) rfl
theorem kw_1262 : Cond.fieldLink RX11 161 "ReactiveSheetModel" "heights" "[I" ∈ lw_gd := lw_g (List.mem_of_getElem? (i := 1262) (by decide +kernel)) rfl
theorem kw_1263 : Cond.fieldLink RX11 164 "ReactiveSheetModel" "met" "[I" ∈ lw_gd := lw_g (List.mem_of_getElem? (i := 1263) (by decide +kernel)) rfl
theorem kw_1264 : Cond.fieldLink RX11 167 "ReactiveSheetModel" "by" "[I" ∈ lw_gd := lw_g (List.mem_of_getElem? (i := 1264) (by decide +kernel)) rfl
theorem kw_1265 : Cond.fieldLink RX11 394 "ReactiveSheetModel" "sought" "J" ∈ lw_gd := lw_g (List.mem_of_getElem? (i := 1265) (by decide +kernel)) rfl
theorem kw_1266 : Cond.fieldLink RX11 398 "ReactiveSheetModel" "soughtError" "I" ∈ lw_gd := lw_g (List.mem_of_getElem? (i := 1266) (by decide +kernel)) rfl
theorem kw_1267 : Cond.fieldLink RX11 170 "ReactiveSheetModel" "counts" "[I" ∈ lw_gd := lw_g (List.mem_of_getElem? (i := 1267) (by decide +kernel)) rfl
theorem kw_1426 : Cond.methodLink RX11 173 yX11_isIn ∈ lw_gd := lw_g (List.mem_of_getElem? (i := 1426) (by decide +kernel)) rfl
theorem kw_1427 : Cond.static yX11_isIn ∈ lw_gd := lw_g (List.mem_of_getElem? (i := 1427) (by decide +kernel)) rfl
theorem kw_1428 : Cond.code yX11_isIn prog_13_method_2_code 3 (some .boolean) ∈ lw_gd := lw_g (List.mem_of_getElem? (i := 1428) (by decide +kernel)) rfl
theorem kw_1437 : Cond.methodLink RX11 361 yX11_isCell ∈ lw_gd := lw_g (List.mem_of_getElem? (i := 1437) (by decide +kernel)) rfl
theorem kw_1438 : Cond.static yX11_isCell ∈ lw_gd := lw_g (List.mem_of_getElem? (i := 1438) (by decide +kernel)) rfl
theorem kw_1439 : Cond.code yX11_isCell prog_13_method_3_code 1 (some .boolean) ∈ lw_gd := lw_g (List.mem_of_getElem? (i := 1439) (by decide +kernel)) rfl
theorem kw_1440 : Cond.methodLink RX11 364 yX11_told ∈ lw_gd := lw_g (List.mem_of_getElem? (i := 1440) (by decide +kernel)) rfl
theorem kw_1442 : Cond.instanceMethod yX11_told ∈ lw_gd := lw_g (List.mem_of_getElem? (i := 1442) (by decide +kernel)) rfl
theorem kw_1443 : Cond.code yX11_told prog_13_method_42_code 6 (some .int) ∈ lw_gd := lw_g (List.mem_of_getElem? (i := 1443) (by decide +kernel)) rfl
theorem kw_1444 : Cond.methodLink RX11 345 yX11_tellsNothing ∈ lw_gd := lw_g (List.mem_of_getElem? (i := 1444) (by decide +kernel)) rfl
theorem kw_1446 : Cond.instanceMethod yX11_tellsNothing ∈ lw_gd := lw_g (List.mem_of_getElem? (i := 1446) (by decide +kernel)) rfl
theorem kw_1447 : Cond.code yX11_tellsNothing prog_13_method_37_code 2 none ∈ lw_gd := lw_g (List.mem_of_getElem? (i := 1447) (by decide +kernel)) rfl
theorem kw_1448 : Cond.methodLink RX11 348 yX11_tell ∈ lw_gd := lw_g (List.mem_of_getElem? (i := 1448) (by decide +kernel)) rfl
theorem kw_1450 : Cond.instanceMethod yX11_tell ∈ lw_gd := lw_g (List.mem_of_getElem? (i := 1450) (by decide +kernel)) rfl
theorem kw_1451 : Cond.code yX11_tell prog_13_method_38_code 6 none ∈ lw_gd := lw_g (List.mem_of_getElem? (i := 1451) (by decide +kernel)) rfl
theorem kw_1452 : Cond.methodLink RX11 352 yX11_wave ∈ lw_gd := lw_g (List.mem_of_getElem? (i := 1452) (by decide +kernel)) rfl
theorem kw_1454 : Cond.instanceMethod yX11_wave ∈ lw_gd := lw_g (List.mem_of_getElem? (i := 1454) (by decide +kernel)) rfl
theorem kw_1455 : Cond.code yX11_wave prog_13_method_41_code 4 (some .int) ∈ lw_gd := lw_g (List.mem_of_getElem? (i := 1455) (by decide +kernel)) rfl
theorem kw_1456 : Cond.methodLink RX11 312 yX11_goes ∈ lw_gd := lw_g (List.mem_of_getElem? (i := 1456) (by decide +kernel)) rfl
theorem kw_1458 : Cond.instanceMethod yX11_goes ∈ lw_gd := lw_g (List.mem_of_getElem? (i := 1458) (by decide +kernel)) rfl
theorem kw_1459 : Cond.code yX11_goes prog_13_method_35_code 2 (some .boolean) ∈ lw_gd := lw_g (List.mem_of_getElem? (i := 1459) (by decide +kernel)) rfl
theorem kw_1460 : Cond.methodLink RX11 300 yX11_keepsAhead ∈ lw_gd := lw_g (List.mem_of_getElem? (i := 1460) (by decide +kernel)) rfl
theorem kw_1462 : Cond.instanceMethod yX11_keepsAhead ∈ lw_gd := lw_g (List.mem_of_getElem? (i := 1462) (by decide +kernel)) rfl
theorem kw_1463 : Cond.code yX11_keepsAhead prog_13_method_31_code 2 none ∈ lw_gd := lw_g (List.mem_of_getElem? (i := 1463) (by decide +kernel)) rfl
theorem kw_1464 : Cond.methodLink RX11 303 yX11_swaps ∈ lw_gd := lw_g (List.mem_of_getElem? (i := 1464) (by decide +kernel)) rfl
theorem kw_1466 : Cond.instanceMethod yX11_swaps ∈ lw_gd := lw_g (List.mem_of_getElem? (i := 1466) (by decide +kernel)) rfl
theorem kw_1467 : Cond.code yX11_swaps prog_13_method_34_code 2 none ∈ lw_gd := lw_g (List.mem_of_getElem? (i := 1467) (by decide +kernel)) rfl
theorem kw_1468 : Cond.methodLink RX11 283 yX11_ofCell ∈ lw_gd := lw_g (List.mem_of_getElem? (i := 1468) (by decide +kernel)) rfl
theorem kw_1469 : Cond.static yX11_ofCell ∈ lw_gd := lw_g (List.mem_of_getElem? (i := 1469) (by decide +kernel)) rfl
theorem kw_1470 : Cond.code yX11_ofCell prog_13_method_19_code 1 (some .int) ∈ lw_gd := lw_g (List.mem_of_getElem? (i := 1470) (by decide +kernel)) rfl
theorem kw_1471 : Cond.methodLink RX11 293 yX11_ofTold ∈ lw_gd := lw_g (List.mem_of_getElem? (i := 1471) (by decide +kernel)) rfl
theorem kw_1472 : Cond.static yX11_ofTold ∈ lw_gd := lw_g (List.mem_of_getElem? (i := 1472) (by decide +kernel)) rfl
theorem kw_1473 : Cond.code yX11_ofTold prog_13_method_21_code 1 (some .int) ∈ lw_gd := lw_g (List.mem_of_getElem? (i := 1473) (by decide +kernel)) rfl
theorem kw_1478 : Cond.methodLink RX11 287 yX11_isOther ∈ lw_gd := lw_g (List.mem_of_getElem? (i := 1478) (by decide +kernel)) rfl
theorem kw_1480 : Cond.instanceMethod yX11_isOther ∈ lw_gd := lw_g (List.mem_of_getElem? (i := 1480) (by decide +kernel)) rfl
theorem kw_1481 : Cond.code yX11_isOther prog_13_method_30_code 2 (some .boolean) ∈ lw_gd := lw_g (List.mem_of_getElem? (i := 1481) (by decide +kernel)) rfl
theorem kw_1482 : Cond.methodLink RX11 239 yX11_settle ∈ lw_gd := lw_g (List.mem_of_getElem? (i := 1482) (by decide +kernel)) rfl
theorem kw_1484 : Cond.instanceMethod yX11_settle ∈ lw_gd := lw_g (List.mem_of_getElem? (i := 1484) (by decide +kernel)) rfl
theorem kw_1485 : Cond.code yX11_settle prog_13_method_28_code 5 none ∈ lw_gd := lw_g (List.mem_of_getElem? (i := 1485) (by decide +kernel)) rfl
theorem kw_1506 : Cond.constantLong RX11 255 (-9223372036854775808) ∈ lw_gd := lw_g (List.mem_of_getElem? (i := 1506) (by decide +kernel)) rfl
theorem kw_1515 : Cond.methodLink RX11 315 yX11_undoes ∈ lw_gd := lw_g (List.mem_of_getElem? (i := 1515) (by decide +kernel)) rfl
theorem kw_1517 : Cond.instanceMethod yX11_undoes ∈ lw_gd := lw_g (List.mem_of_getElem? (i := 1517) (by decide +kernel)) rfl
theorem kw_1518 : Cond.code yX11_undoes prog_13_method_36_code 1 none ∈ lw_gd := lw_g (List.mem_of_getElem? (i := 1518) (by decide +kernel)) rfl
theorem kw_1519 : Cond.methodLink RX11 306 yX11_laysBack ∈ lw_gd := lw_g (List.mem_of_getElem? (i := 1519) (by decide +kernel)) rfl
theorem kw_1521 : Cond.instanceMethod yX11_laysBack ∈ lw_gd := lw_g (List.mem_of_getElem? (i := 1521) (by decide +kernel)) rfl
theorem kw_1522 : Cond.code yX11_laysBack prog_13_method_32_code 2 none ∈ lw_gd := lw_g (List.mem_of_getElem? (i := 1522) (by decide +kernel)) rfl
theorem kw_1531 : Cond.methodLink RX11 339 yJ9_min_7cf53 ∈ lw_gd := lw_g (List.mem_of_getElem? (i := 1531) (by decide +kernel)) rfl
theorem kw_1532 : Cond.methodLink RX11 355 yX11_ofBatch ∈ lw_gd := lw_g (List.mem_of_getElem? (i := 1532) (by decide +kernel)) rfl
theorem kw_1533 : Cond.static yX11_ofBatch ∈ lw_gd := lw_g (List.mem_of_getElem? (i := 1533) (by decide +kernel)) rfl
theorem kw_1534 : Cond.code yX11_ofBatch prog_13_method_20_code 1 (some .int) ∈ lw_gd := lw_g (List.mem_of_getElem? (i := 1534) (by decide +kernel)) rfl
theorem kw_1535 : Cond.methodLink RX11 358 yX11_copies ∈ lw_gd := lw_g (List.mem_of_getElem? (i := 1535) (by decide +kernel)) rfl
theorem kw_1537 : Cond.instanceMethod yX11_copies ∈ lw_gd := lw_g (List.mem_of_getElem? (i := 1537) (by decide +kernel)) rfl
theorem kw_1538 : Cond.code yX11_copies prog_13_method_18_code 4 none ∈ lw_gd := lw_g (List.mem_of_getElem? (i := 1538) (by decide +kernel)) rfl
theorem kw_1543 : Cond.methodLink RX11 368 yX11_reads ∈ lw_gd := lw_g (List.mem_of_getElem? (i := 1543) (by decide +kernel)) rfl
theorem kw_1545 : Cond.instanceMethod yX11_reads ∈ lw_gd := lw_g (List.mem_of_getElem? (i := 1545) (by decide +kernel)) rfl
theorem kw_1546 : Cond.code yX11_reads prog_13_method_17_code 3 (some .int) ∈ lw_gd := lw_g (List.mem_of_getElem? (i := 1546) (by decide +kernel)) rfl
theorem kw_1547 : Cond.methodLink RX11 212 yX11_readE ∈ lw_gd := lw_g (List.mem_of_getElem? (i := 1547) (by decide +kernel)) rfl
theorem kw_1549 : Cond.instanceMethod yX11_readE ∈ lw_gd := lw_g (List.mem_of_getElem? (i := 1549) (by decide +kernel)) rfl
theorem kw_1550 : Cond.code yX11_readE prog_13_method_12_code 4 (some .int) ∈ lw_gd := lw_g (List.mem_of_getElem? (i := 1550) (by decide +kernel)) rfl
theorem kw_1551 : Cond.methodLink RX11 204 yX11_readC ∈ lw_gd := lw_g (List.mem_of_getElem? (i := 1551) (by decide +kernel)) rfl
theorem kw_1553 : Cond.instanceMethod yX11_readC ∈ lw_gd := lw_g (List.mem_of_getElem? (i := 1553) (by decide +kernel)) rfl
theorem kw_1554 : Cond.code yX11_readC prog_13_method_13_code 4 (some .int) ∈ lw_gd := lw_g (List.mem_of_getElem? (i := 1554) (by decide +kernel)) rfl
theorem kw_1555 : Cond.methodLink RX11 219 yX11_readS ∈ lw_gd := lw_g (List.mem_of_getElem? (i := 1555) (by decide +kernel)) rfl
theorem kw_1557 : Cond.instanceMethod yX11_readS ∈ lw_gd := lw_g (List.mem_of_getElem? (i := 1557) (by decide +kernel)) rfl
theorem kw_1558 : Cond.code yX11_readS prog_13_method_14_code 4 (some .int) ∈ lw_gd := lw_g (List.mem_of_getElem? (i := 1558) (by decide +kernel)) rfl
theorem kw_1559 : Cond.methodLink RX11 222 yX11_readT ∈ lw_gd := lw_g (List.mem_of_getElem? (i := 1559) (by decide +kernel)) rfl
theorem kw_1561 : Cond.instanceMethod yX11_readT ∈ lw_gd := lw_g (List.mem_of_getElem? (i := 1561) (by decide +kernel)) rfl
theorem kw_1562 : Cond.code yX11_readT prog_13_method_15_code 4 (some .int) ∈ lw_gd := lw_g (List.mem_of_getElem? (i := 1562) (by decide +kernel)) rfl
theorem kw_1563 : Cond.methodLink RX11 225 yX11_readF ∈ lw_gd := lw_g (List.mem_of_getElem? (i := 1563) (by decide +kernel)) rfl
theorem kw_1565 : Cond.instanceMethod yX11_readF ∈ lw_gd := lw_g (List.mem_of_getElem? (i := 1565) (by decide +kernel)) rfl
theorem kw_1566 : Cond.code yX11_readF prog_13_method_16_code 4 (some .int) ∈ lw_gd := lw_g (List.mem_of_getElem? (i := 1566) (by decide +kernel)) rfl
theorem kw_1567 : Cond.methodLink RX11 194 yX11_isFigure ∈ lw_gd := lw_g (List.mem_of_getElem? (i := 1567) (by decide +kernel)) rfl
theorem kw_1569 : Cond.instanceMethod yX11_isFigure ∈ lw_gd := lw_g (List.mem_of_getElem? (i := 1569) (by decide +kernel)) rfl
theorem kw_1570 : Cond.code yX11_isFigure prog_13_method_7_code 1 (some .boolean) ∈ lw_gd := lw_g (List.mem_of_getElem? (i := 1570) (by decide +kernel)) rfl
theorem kw_1571 : Cond.constant RX11 228 (999999999) ∈ lw_gd := lw_g (List.mem_of_getElem? (i := 1571) (by decide +kernel)) rfl
theorem kw_1572 : Cond.methodLink RX11 229 yX11_number ∈ lw_gd := lw_g (List.mem_of_getElem? (i := 1572) (by decide +kernel)) rfl
theorem kw_1574 : Cond.instanceMethod yX11_number ∈ lw_gd := lw_g (List.mem_of_getElem? (i := 1574) (by decide +kernel)) rfl
theorem kw_1575 : Cond.code yX11_number prog_13_method_10_code 6 (some .int) ∈ lw_gd := lw_g (List.mem_of_getElem? (i := 1575) (by decide +kernel)) rfl
theorem kw_1576 : Cond.methodLink RX11 215 yX11_node ∈ lw_gd := lw_g (List.mem_of_getElem? (i := 1576) (by decide +kernel)) rfl
theorem kw_1578 : Cond.instanceMethod yX11_node ∈ lw_gd := lw_g (List.mem_of_getElem? (i := 1578) (by decide +kernel)) rfl
theorem kw_1579 : Cond.code yX11_node prog_13_method_11_code 5 (some .int) ∈ lw_gd := lw_g (List.mem_of_getElem? (i := 1579) (by decide +kernel)) rfl
theorem kw_1580 : Cond.methodLink RX11 191 yX11_takes ∈ lw_gd := lw_g (List.mem_of_getElem? (i := 1580) (by decide +kernel)) rfl
theorem kw_1582 : Cond.instanceMethod yX11_takes ∈ lw_gd := lw_g (List.mem_of_getElem? (i := 1582) (by decide +kernel)) rfl
theorem kw_1583 : Cond.code yX11_takes prog_13_method_8_code 2 (some .boolean) ∈ lw_gd := lw_g (List.mem_of_getElem? (i := 1583) (by decide +kernel)) rfl
theorem kw_1584 : Cond.methodLink RX11 187 yX11_isAt ∈ lw_gd := lw_g (List.mem_of_getElem? (i := 1584) (by decide +kernel)) rfl
theorem kw_1586 : Cond.instanceMethod yX11_isAt ∈ lw_gd := lw_g (List.mem_of_getElem? (i := 1586) (by decide +kernel)) rfl
theorem kw_1587 : Cond.code yX11_isAt prog_13_method_6_code 2 (some .boolean) ∈ lw_gd := lw_g (List.mem_of_getElem? (i := 1587) (by decide +kernel)) rfl
theorem kw_1588 : Cond.methodLink RX11 208 yX11_need ∈ lw_gd := lw_g (List.mem_of_getElem? (i := 1588) (by decide +kernel)) rfl
theorem kw_1590 : Cond.instanceMethod yX11_need ∈ lw_gd := lw_g (List.mem_of_getElem? (i := 1590) (by decide +kernel)) rfl
theorem kw_1591 : Cond.code yX11_need prog_13_method_9_code 2 none ∈ lw_gd := lw_g (List.mem_of_getElem? (i := 1591) (by decide +kernel)) rfl
theorem kw_1620 : Cond.methodLink RX11 373 yX11_batched ∈ lw_gd := lw_g (List.mem_of_getElem? (i := 1620) (by decide +kernel)) rfl
theorem kw_1622 : Cond.instanceMethod yX11_batched ∈ lw_gd := lw_g (List.mem_of_getElem? (i := 1622) (by decide +kernel)) rfl
theorem kw_1623 : Cond.code yX11_batched prog_13_method_51_code 3 (some .int) ∈ lw_gd := lw_g (List.mem_of_getElem? (i := 1623) (by decide +kernel)) rfl
theorem kw_1629 : Cond.instanceMethod yX11_readers ∈ lw_gd := lw_g (List.mem_of_getElem? (i := 1629) (by decide +kernel)) rfl
theorem kw_1630 : Cond.selects RX11 yX11_readers yX11_readers ∈ lw_gd := lw_g (List.mem_of_getElem? (i := 1630) (by decide +kernel)) rfl
theorem kw_1631 : Cond.code yX11_readers prog_13_method_56_code 6 (some .long) ∈ lw_gd := lw_g (List.mem_of_getElem? (i := 1631) (by decide +kernel)) rfl
theorem kw_1636 : Cond.methodLink RX11 388 yX11_tellHeights ∈ lw_gd := lw_g (List.mem_of_getElem? (i := 1636) (by decide +kernel)) rfl
theorem kw_1638 : Cond.instanceMethod yX11_tellHeights ∈ lw_gd := lw_g (List.mem_of_getElem? (i := 1638) (by decide +kernel)) rfl
theorem kw_1639 : Cond.code yX11_tellHeights prog_13_method_55_code 3 none ∈ lw_gd := lw_g (List.mem_of_getElem? (i := 1639) (by decide +kernel)) rfl
theorem kw_1640 : Cond.methodLink RX11 378 yX11_height ∈ lw_gd := lw_g (List.mem_of_getElem? (i := 1640) (by decide +kernel)) rfl
theorem kw_1642 : Cond.instanceMethod yX11_height ∈ lw_gd := lw_g (List.mem_of_getElem? (i := 1642) (by decide +kernel)) rfl
theorem kw_1643 : Cond.code yX11_height prog_13_method_54_code 4 (some .int) ∈ lw_gd := lw_g (List.mem_of_getElem? (i := 1643) (by decide +kernel)) rfl
theorem kw_1644 : Cond.methodLink RX11 376 yJ9_max_7cf53 ∈ lw_gd := lw_g (List.mem_of_getElem? (i := 1644) (by decide +kernel)) rfl
theorem kw_1645 : Cond.methodLink RX11 381 yX11_readers ∈ lw_gd := lw_g (List.mem_of_getElem? (i := 1645) (by decide +kernel)) rfl
theorem kw_1646 : Cond.methodLink RX11 384 yX11_ones ∈ lw_gd := lw_g (List.mem_of_getElem? (i := 1646) (by decide +kernel)) rfl
theorem kw_1647 : Cond.static yX11_ones ∈ lw_gd := lw_g (List.mem_of_getElem? (i := 1647) (by decide +kernel)) rfl
theorem kw_1648 : Cond.code yX11_ones prog_13_method_57_code 4 (some .int) ∈ lw_gd := lw_g (List.mem_of_getElem? (i := 1648) (by decide +kernel)) rfl
theorem kw_1649 : Cond.methodLink RX11 391 yX11_below ∈ lw_gd := lw_g (List.mem_of_getElem? (i := 1649) (by decide +kernel)) rfl
theorem kw_1651 : Cond.instanceMethod yX11_below ∈ lw_gd := lw_g (List.mem_of_getElem? (i := 1651) (by decide +kernel)) rfl
theorem kw_1652 : Cond.code yX11_below prog_13_method_58_code 6 (some .int) ∈ lw_gd := lw_g (List.mem_of_getElem? (i := 1652) (by decide +kernel)) rfl
theorem kw_1673 : Cond.methodLink RX11 401 yX11_asIf ∈ lw_gd := lw_g (List.mem_of_getElem? (i := 1673) (by decide +kernel)) rfl
theorem kw_1675 : Cond.instanceMethod yX11_asIf ∈ lw_gd := lw_g (List.mem_of_getElem? (i := 1675) (by decide +kernel)) rfl
theorem kw_1676 : Cond.code yX11_asIf prog_13_method_64_code 7 (some .int) ∈ lw_gd := lw_g (List.mem_of_getElem? (i := 1676) (by decide +kernel)) rfl
theorem kw_1685 : Cond.constantLong RX11 405 (9223372036854775807) ∈ lw_gd := lw_g (List.mem_of_getElem? (i := 1685) (by decide +kernel)) rfl
theorem kw_1737 : Cond.methodLink RX11 423 yX11_isList ∈ lw_gd := lw_g (List.mem_of_getElem? (i := 1737) (by decide +kernel)) rfl
theorem kw_1738 : Cond.static yX11_isList ∈ lw_gd := lw_g (List.mem_of_getElem? (i := 1738) (by decide +kernel)) rfl
theorem kw_1739 : Cond.code yX11_isList prog_13_method_80_code 1 (some .boolean) ∈ lw_gd := lw_g (List.mem_of_getElem? (i := 1739) (by decide +kernel)) rfl
theorem kw_1764 : Cond.methodLink RX11 448 yX11_movesAll ∈ lw_gd := lw_g (List.mem_of_getElem? (i := 1764) (by decide +kernel)) rfl
theorem kw_1766 : Cond.instanceMethod yX11_movesAll ∈ lw_gd := lw_g (List.mem_of_getElem? (i := 1766) (by decide +kernel)) rfl
theorem kw_1767 : Cond.code yX11_movesAll prog_13_method_91_code 3 none ∈ lw_gd := lw_g (List.mem_of_getElem? (i := 1767) (by decide +kernel)) rfl
theorem kw_1768 : Cond.methodLink RX11 432 yX11_moves ∈ lw_gd := lw_g (List.mem_of_getElem? (i := 1768) (by decide +kernel)) rfl
theorem kw_1770 : Cond.instanceMethod yX11_moves ∈ lw_gd := lw_g (List.mem_of_getElem? (i := 1770) (by decide +kernel)) rfl
theorem kw_1771 : Cond.code yX11_moves prog_13_method_88_code 4 none ∈ lw_gd := lw_g (List.mem_of_getElem? (i := 1771) (by decide +kernel)) rfl
theorem kw_1772 : Cond.methodLink RX11 436 yX11_moves_ ∈ lw_gd := lw_g (List.mem_of_getElem? (i := 1772) (by decide +kernel)) rfl
theorem kw_1774 : Cond.instanceMethod yX11_moves_ ∈ lw_gd := lw_g (List.mem_of_getElem? (i := 1774) (by decide +kernel)) rfl
theorem kw_1775 : Cond.code yX11_moves_ prog_13_method_89_code 4 none ∈ lw_gd := lw_g (List.mem_of_getElem? (i := 1775) (by decide +kernel)) rfl
theorem kw_1776 : Cond.methodLink RX11 439 yX11_moves__ ∈ lw_gd := lw_g (List.mem_of_getElem? (i := 1776) (by decide +kernel)) rfl
theorem kw_1778 : Cond.instanceMethod yX11_moves__ ∈ lw_gd := lw_g (List.mem_of_getElem? (i := 1778) (by decide +kernel)) rfl
theorem kw_1779 : Cond.code yX11_moves__ prog_13_method_90_code 4 none ∈ lw_gd := lw_g (List.mem_of_getElem? (i := 1779) (by decide +kernel)) rfl
theorem kw_1780 : Cond.methodLink RX11 442 yX11_ofImage ∈ lw_gd := lw_g (List.mem_of_getElem? (i := 1780) (by decide +kernel)) rfl
theorem kw_1781 : Cond.static yX11_ofImage ∈ lw_gd := lw_g (List.mem_of_getElem? (i := 1781) (by decide +kernel)) rfl
theorem kw_1782 : Cond.code yX11_ofImage prog_13_method_22_code 1 (some .int) ∈ lw_gd := lw_g (List.mem_of_getElem? (i := 1782) (by decide +kernel)) rfl
theorem kw_1783 : Cond.methodLink RX11 452 yX11_present ∈ lw_gd := lw_g (List.mem_of_getElem? (i := 1783) (by decide +kernel)) rfl
theorem kw_1785 : Cond.instanceMethod yX11_present ∈ lw_gd := lw_g (List.mem_of_getElem? (i := 1785) (by decide +kernel)) rfl
theorem kw_1786 : Cond.code yX11_present prog_13_method_87_code 3 (some .int) ∈ lw_gd := lw_g (List.mem_of_getElem? (i := 1786) (by decide +kernel)) rfl
