abbrev y_CaseLayout_apart : MethodName := ⟨"CaseLayout", "apart", "(III)I"⟩
abbrev y_CaseLayout_at : MethodName := ⟨"CaseLayout", "at", "(II)I"⟩
abbrev y_CaseLayout_cellOf : MethodName := ⟨"CaseLayout", "cellOf", "(II)I"⟩
abbrev y_CaseLayout_count : MethodName := ⟨"CaseLayout", "count", "(I)I"⟩
abbrev y_CaseLayout_escape : MethodName := ⟨"CaseLayout", "escape", "(II)I"⟩
abbrev y_CaseLayout_exit : MethodName := ⟨"CaseLayout", "exit", "(II)I"⟩
abbrev y_CaseLayout_most : MethodName := ⟨"CaseLayout", "most", "(I)I"⟩
abbrev y_CaseLayout_needCell : MethodName := ⟨"CaseLayout", "needCell", "(II)V"⟩
abbrev y_CaseLayout_needFound : MethodName := ⟨"CaseLayout", "needFound", "()V"⟩
abbrev y_CaseLayout_needPair : MethodName := ⟨"CaseLayout", "needPair", "(II)V"⟩
abbrev y_CaseLayout_needPlace : MethodName := ⟨"CaseLayout", "needPlace", "(I)V"⟩
abbrev y_CaseLayout_needThing : MethodName := ⟨"CaseLayout", "needThing", "(I)V"⟩
abbrev y_CaseLayout_needWithin : MethodName := ⟨"CaseLayout", "needWithin", "(III)V"⟩
abbrev y_CaseLayout_nodes : MethodName := ⟨"CaseLayout", "nodes", "()I"⟩
abbrev y_CaseLayout_pairOf : MethodName := ⟨"CaseLayout", "pairOf", "(II)I"⟩
abbrev y_CaseLayout_place : MethodName := ⟨"CaseLayout", "place", "(II)I"⟩
abbrev y_CaseLayout_run : MethodName := ⟨"CaseLayout", "run", "(I)I"⟩
abbrev y_CaseLayout_sees : MethodName := ⟨"CaseLayout", "sees", "(IIZ)Z"⟩
abbrev y_CaseLayout_setBoth : MethodName := ⟨"CaseLayout", "setBoth", "([IIII)I"⟩
abbrev y_CaseLayout_sight : MethodName := ⟨"CaseLayout", "sight", "(II)Z"⟩
abbrev y_CaseLayout_sightOf : MethodName := ⟨"CaseLayout", "sightOf", "(II)I"⟩
abbrev y_CaseLayout_thing : MethodName := ⟨"CaseLayout", "thing", "(III)I"⟩
abbrev y_CaseLayout_wall : MethodName := ⟨"CaseLayout", "wall", "(IIZ)Z"⟩
abbrev y_CaseLayout_wish : MethodName := ⟨"CaseLayout", "wish", "(III)I"⟩
abbrev y_CaseLayout_worth : MethodName := ⟨"CaseLayout", "worth", "()I"⟩
abbrev y_CaseLayout_zone : MethodName := ⟨"CaseLayout", "zone", "(III)I"⟩
abbrev y_Exits_add : MethodName := ⟨"CaseLayout$Exits", "add", "(I)I"⟩
abbrev y_Exits_standOn : MethodName := ⟨"CaseLayout$Exits", "standOn", "(I)Z"⟩
abbrev y_Floor_cover : MethodName := ⟨"CaseLayout$Floor", "cover", "(LCaseLayout$Layout;I)V"⟩
abbrev y_Floor_hasEscape : MethodName := ⟨"CaseLayout$Floor", "hasEscape", "(LCaseLayout$Layout;II)Z"⟩
abbrev y_Floor_hides : MethodName := ⟨"CaseLayout$Floor", "hides", "(III)Z"⟩
abbrev y_Floor_isCrossed : MethodName := ⟨"CaseLayout$Floor", "isCrossed", "(IIII)Z"⟩
abbrev y_Floor_isNear : MethodName := ⟨"CaseLayout$Floor", "isNear", "(III)Z"⟩
abbrev y_Floor_isSeen : MethodName := ⟨"CaseLayout$Floor", "isSeen", "(LCaseLayout$Layout;III)Z"⟩
abbrev y_Floor_lay : MethodName := ⟨"CaseLayout$Floor", "lay", "(LCaseLayout$Layout;)V"⟩
abbrev y_Floor_measure : MethodName := ⟨"CaseLayout$Floor", "measure", "(LCaseLayout$Exits;)V"⟩
abbrev y_Floor_reach : MethodName := ⟨"CaseLayout$Floor", "reach", "(III)V"⟩
abbrev y_Grid_carries : MethodName := ⟨"CaseLayout$Grid", "carries", "(IIIII)Z"⟩
abbrev y_Grid_holds : MethodName := ⟨"CaseLayout$Grid", "holds", "(II)Z"⟩
abbrev y_Grid_setWall : MethodName := ⟨"CaseLayout$Grid", "setWall", "(IZ)V"⟩
abbrev y_Layout_between : MethodName := ⟨"CaseLayout$Layout", "between", "(IIII)I"⟩
abbrev y_Layout_copyFrom : MethodName := ⟨"CaseLayout$Layout", "copyFrom", "(LCaseLayout$Layout;)V"⟩
abbrev y_Layout_gapOf : MethodName := ⟨"CaseLayout$Layout", "gapOf", "(II)I"⟩
abbrev y_Places_add : MethodName := ⟨"CaseLayout$Places", "add", "(II)I"⟩
abbrev y_Places_standOn : MethodName := ⟨"CaseLayout$Places", "standOn", "(I)Z"⟩
abbrev y_Search_allEscape : MethodName := ⟨"CaseLayout$Search", "allEscape", "()Z"⟩
abbrev y_Search_allSeen : MethodName := ⟨"CaseLayout$Search", "allSeen", "()Z"⟩
abbrev y_Search_begin : MethodName := ⟨"CaseLayout$Search", "begin", "(I)V"⟩
abbrev y_Search_forget : MethodName := ⟨"CaseLayout$Search", "forget", "()V"⟩
abbrev y_Search_gainOf : MethodName := ⟨"CaseLayout$Search", "gainOf", "(I)I"⟩
abbrev y_Search_hasFound : MethodName := ⟨"CaseLayout$Search", "hasFound", "()Z"⟩
abbrev y_Search_judge : MethodName := ⟨"CaseLayout$Search", "judge", "(I)V"⟩
abbrev y_Search_keepsApart : MethodName := ⟨"CaseLayout$Search", "keepsApart", "(I)Z"⟩
abbrev y_Search_listSpots : MethodName := ⟨"CaseLayout$Search", "listSpots", "(I)V"⟩
abbrev y_Search_tryThing : MethodName := ⟨"CaseLayout$Search", "tryThing", "(II)Z"⟩
abbrev y_Things_add : MethodName := ⟨"CaseLayout$Things", "add", "(III)I"⟩
abbrev y_Mod_apart : MethodName := ⟨"CaseLayoutModel", "apart", "(III)I"⟩
abbrev y_Mod_at : MethodName := ⟨"CaseLayoutModel", "at", "(II)I"⟩
abbrev y_Mod_between : MethodName := ⟨"CaseLayoutModel", "between", "(IIII)I"⟩
abbrev y_Mod_count : MethodName := ⟨"CaseLayoutModel", "count", "(I)I"⟩
abbrev y_Mod_covers : MethodName := ⟨"CaseLayoutModel", "covers", "(III)Z"⟩
abbrev y_Mod_cross : MethodName := ⟨"CaseLayoutModel", "cross", "(IIII)I"⟩
abbrev y_Mod_escape : MethodName := ⟨"CaseLayoutModel", "escape", "(II)I"⟩
abbrev y_Mod_escapes : MethodName := ⟨"CaseLayoutModel", "escapes", "(I)Z"⟩
abbrev y_Mod_exit : MethodName := ⟨"CaseLayoutModel", "exit", "(II)I"⟩
abbrev y_Mod_forget : MethodName := ⟨"CaseLayoutModel", "forget", "()V"⟩
abbrev y_Mod_gap : MethodName := ⟨"CaseLayoutModel", "gap", "(II)I"⟩
abbrev y_Mod_goesThrough : MethodName := ⟨"CaseLayoutModel", "goesThrough", "(IIIIII)Z"⟩
abbrev y_Mod_in : MethodName := ⟨"CaseLayoutModel", "in", "(III)Z"⟩
abbrev y_Mod_isCell : MethodName := ⟨"CaseLayoutModel", "isCell", "(II)Z"⟩
abbrev y_Mod_isExit : MethodName := ⟨"CaseLayoutModel", "isExit", "(II)Z"⟩
abbrev y_Mod_isFree : MethodName := ⟨"CaseLayoutModel", "isFree", "(II)Z"⟩
abbrev y_Mod_isLayout : MethodName := ⟨"CaseLayoutModel", "isLayout", "()Z"⟩
abbrev y_Mod_isPlace : MethodName := ⟨"CaseLayoutModel", "isPlace", "(II)Z"⟩
abbrev y_Mod_isSeen : MethodName := ⟨"CaseLayoutModel", "isSeen", "(II)Z"⟩
abbrev y_Mod_isThing : MethodName := ⟨"CaseLayoutModel", "isThing", "(I)Z"⟩
abbrev y_Mod_keep : MethodName := ⟨"CaseLayoutModel", "keep", "()V"⟩
abbrev y_Mod_layBest : MethodName := ⟨"CaseLayoutModel", "layBest", "()V"⟩
abbrev y_Mod_lies : MethodName := ⟨"CaseLayoutModel", "lies", "(I)Z"⟩
abbrev y_Mod_measure : MethodName := ⟨"CaseLayoutModel", "measure", "()V"⟩
abbrev y_Mod_meets : MethodName := ⟨"CaseLayoutModel", "meets", "(II)Z"⟩
abbrev y_Mod_most : MethodName := ⟨"CaseLayoutModel", "most", "(I)I"⟩
abbrev y_Mod_nodes : MethodName := ⟨"CaseLayoutModel", "nodes", "()I"⟩
abbrev y_Mod_place : MethodName := ⟨"CaseLayoutModel", "place", "(II)I"⟩
abbrev y_Mod_run : MethodName := ⟨"CaseLayoutModel", "run", "(I)I"⟩
abbrev y_Mod_search : MethodName := ⟨"CaseLayoutModel", "search", "(I)Z"⟩
abbrev y_Mod_sees : MethodName := ⟨"CaseLayoutModel", "sees", "(IIZ)Z"⟩
abbrev y_Mod_sight : MethodName := ⟨"CaseLayoutModel", "sight", "(II)Z"⟩
abbrev y_Mod_stepsFrom : MethodName := ⟨"CaseLayoutModel", "stepsFrom", "(II)I"⟩
abbrev y_Mod_thing : MethodName := ⟨"CaseLayoutModel", "thing", "(III)I"⟩
abbrev y_Mod_throwing : MethodName := ⟨"CaseLayoutModel", "throwing", "(ZZZ)Z"⟩
abbrev y_Mod_thrown : MethodName := ⟨"CaseLayoutModel", "thrown", "()I"⟩
abbrev y_Mod_wall : MethodName := ⟨"CaseLayoutModel", "wall", "(IIZ)Z"⟩
abbrev y_Mod_wallCount : MethodName := ⟨"CaseLayoutModel", "wallCount", "()I"⟩
abbrev y_Mod_wish : MethodName := ⟨"CaseLayoutModel", "wish", "(III)I"⟩
abbrev y_Mod_worth : MethodName := ⟨"CaseLayoutModel", "worth", "()I"⟩
abbrev y_Mod_worthNow : MethodName := ⟨"CaseLayoutModel", "worthNow", "()I"⟩
abbrev y_Mod_zone : MethodName := ⟨"CaseLayoutModel", "zone", "(III)I"⟩
abbrev y_Arrays_fill : MethodName := ⟨"java/util/Arrays", "fill", "([II)V"⟩
theorem gw_42 : Cond.fieldLink "CaseLayout$Grid" 23 "CaseLayout$Grid" "width" "I" ∈ gx_T := List.mem_filter.mpr ⟨List.mem_append_right _ (List.mem_of_getElem? (i := 42) (by decide +kernel)), by decide +kernel⟩
theorem gw_44 : Cond.fieldLink "CaseLayout$Grid" 26 "CaseLayout$Grid" "height" "I" ∈ gx_T := List.mem_filter.mpr ⟨List.mem_append_right _ (List.mem_of_getElem? (i := 44) (by decide +kernel)), by decide +kernel⟩
theorem gw_46 : Cond.fieldLink "CaseLayout$Grid" 9 "CaseLayout$Grid" "walls" "[Z" ∈ gx_T := List.mem_filter.mpr ⟨List.mem_append_right _ (List.mem_of_getElem? (i := 46) (by decide +kernel)), by decide +kernel⟩
theorem gw_51 : Cond.fieldLink "CaseLayout$Grid" 19 "CaseLayout$Grid" "wallCount" "I" ∈ gx_T := List.mem_filter.mpr ⟨List.mem_append_right _ (List.mem_of_getElem? (i := 51) (by decide +kernel)), by decide +kernel⟩
theorem gw_88 : Cond.fieldLink "CaseLayout$Things" 27 "CaseLayout$Things" "size" "I" ∈ gx_T := List.mem_filter.mpr ⟨List.mem_append_right _ (List.mem_of_getElem? (i := 88) (by decide +kernel)), by decide +kernel⟩
theorem gw_72 : Cond.fieldLink "CaseLayout$Things" 9 "CaseLayout$Things" "widths" "[I" ∈ gx_T := List.mem_filter.mpr ⟨List.mem_append_right _ (List.mem_of_getElem? (i := 72) (by decide +kernel)), by decide +kernel⟩
theorem gw_76 : Cond.fieldLink "CaseLayout$Things" 15 "CaseLayout$Things" "heights" "[I" ∈ gx_T := List.mem_filter.mpr ⟨List.mem_append_right _ (List.mem_of_getElem? (i := 76) (by decide +kernel)), by decide +kernel⟩
theorem gw_80 : Cond.fieldLink "CaseLayout$Things" 18 "CaseLayout$Things" "classes" "[I" ∈ gx_T := List.mem_filter.mpr ⟨List.mem_append_right _ (List.mem_of_getElem? (i := 80) (by decide +kernel)), by decide +kernel⟩
theorem gw_120 : Cond.fieldLink "CaseLayout$Places" 22 "CaseLayout$Places" "size" "I" ∈ gx_T := List.mem_filter.mpr ⟨List.mem_append_right _ (List.mem_of_getElem? (i := 120) (by decide +kernel)), by decide +kernel⟩
theorem gw_111 : Cond.fieldLink "CaseLayout$Places" 9 "CaseLayout$Places" "xs" "[I" ∈ gx_T := List.mem_filter.mpr ⟨List.mem_append_right _ (List.mem_of_getElem? (i := 111) (by decide +kernel)), by decide +kernel⟩
theorem gw_114 : Cond.fieldLink "CaseLayout$Places" 15 "CaseLayout$Places" "ys" "[I" ∈ gx_T := List.mem_filter.mpr ⟨List.mem_append_right _ (List.mem_of_getElem? (i := 114) (by decide +kernel)), by decide +kernel⟩
theorem gw_1 : Cond.initialized "CaseLayout" ∈ gx_T := List.mem_filter.mpr ⟨List.mem_append_right _ (List.mem_of_getElem? (i := 1) (by decide +kernel)), by decide +kernel⟩
theorem gw_362 : Cond.code ⟨"CaseLayout", "cellOf", "(II)I"⟩ prog_1_method_25_code 2 (some .int) ∈ gx_T := List.mem_filter.mpr ⟨List.mem_append_right _ (List.mem_of_getElem? (i := 362) (by decide +kernel)), by decide +kernel⟩
theorem gw_361 : Cond.static ⟨"CaseLayout", "cellOf", "(II)I"⟩ ∈ gx_T := List.mem_filter.mpr ⟨List.mem_append_right _ (List.mem_of_getElem? (i := 361) (by decide +kernel)), by decide +kernel⟩
theorem gw_140 : Cond.fieldLink "CaseLayout$Exits" 15 "CaseLayout$Exits" "size" "I" ∈ gx_T := List.mem_filter.mpr ⟨List.mem_append_right _ (List.mem_of_getElem? (i := 140) (by decide +kernel)), by decide +kernel⟩
theorem gw_138 : Cond.fieldLink "CaseLayout$Exits" 9 "CaseLayout$Exits" "cells" "[I" ∈ gx_T := List.mem_filter.mpr ⟨List.mem_append_right _ (List.mem_of_getElem? (i := 138) (by decide +kernel)), by decide +kernel⟩
theorem gw_2 : Cond.initialized "CaseLayout$Grid" ∈ gx_T := List.mem_filter.mpr ⟨List.mem_append_right _ (List.mem_of_getElem? (i := 2) (by decide +kernel)), by decide +kernel⟩
theorem gw_533 : Cond.methodLink "CaseLayout$Grid" 29 ⟨"CaseLayout$Grid", "holds", "(II)Z"⟩ ∈ gx_T := List.mem_filter.mpr ⟨List.mem_append_right _ (List.mem_of_getElem? (i := 533) (by decide +kernel)), by decide +kernel⟩
theorem gw_289 : Cond.instanceMethod ⟨"CaseLayout$Grid", "holds", "(II)Z"⟩ ∈ gx_T := List.mem_filter.mpr ⟨List.mem_append_right _ (List.mem_of_getElem? (i := 289) (by decide +kernel)), by decide +kernel⟩
theorem gw_290 : Cond.selects "CaseLayout$Grid" ⟨"CaseLayout$Grid", "holds", "(II)Z"⟩ ⟨"CaseLayout$Grid", "holds", "(II)Z"⟩ ∈ gx_T := List.mem_filter.mpr ⟨List.mem_append_right _ (List.mem_of_getElem? (i := 290) (by decide +kernel)), by decide +kernel⟩
theorem gw_291 : Cond.code ⟨"CaseLayout$Grid", "holds", "(II)Z"⟩ prog_4_method_2_code 3 (some .boolean) ∈ gx_T := List.mem_filter.mpr ⟨List.mem_append_right _ (List.mem_of_getElem? (i := 291) (by decide +kernel)), by decide +kernel⟩
theorem gw_49 : Cond.fieldLink "CaseLayout$Grid" 15 "CaseLayout$Grid" "classes" "[I" ∈ gx_T := List.mem_filter.mpr ⟨List.mem_append_right _ (List.mem_of_getElem? (i := 49) (by decide +kernel)), by decide +kernel⟩
theorem gw_217 : Cond.fieldLink "CaseLayout$Search" 22 "CaseLayout$Search" "nodeCount" "I" ∈ gx_T := List.mem_filter.mpr ⟨List.mem_append_right _ (List.mem_of_getElem? (i := 217) (by decide +kernel)), by decide +kernel⟩
theorem gw_219 : Cond.fieldLink "CaseLayout$Search" 25 "CaseLayout$Search" "bestWorth" "I" ∈ gx_T := List.mem_filter.mpr ⟨List.mem_append_right _ (List.mem_of_getElem? (i := 219) (by decide +kernel)), by decide +kernel⟩
theorem gw_8 : Cond.initialized "CaseLayout$Search" ∈ gx_T := List.mem_filter.mpr ⟨List.mem_append_right _ (List.mem_of_getElem? (i := 8) (by decide +kernel)), by decide +kernel⟩
theorem gw_524 : Cond.methodLink "CaseLayout$Search" 60 ⟨"CaseLayout$Search", "forget", "()V"⟩ ∈ gx_T := List.mem_filter.mpr ⟨List.mem_append_right _ (List.mem_of_getElem? (i := 524) (by decide +kernel)), by decide +kernel⟩
theorem gw_377 : Cond.instanceMethod ⟨"CaseLayout$Search", "forget", "()V"⟩ ∈ gx_T := List.mem_filter.mpr ⟨List.mem_append_right _ (List.mem_of_getElem? (i := 377) (by decide +kernel)), by decide +kernel⟩
theorem gw_378 : Cond.selects "CaseLayout$Search" ⟨"CaseLayout$Search", "forget", "()V"⟩ ⟨"CaseLayout$Search", "forget", "()V"⟩ ∈ gx_T := List.mem_filter.mpr ⟨List.mem_append_right _ (List.mem_of_getElem? (i := 378) (by decide +kernel)), by decide +kernel⟩
theorem gw_379 : Cond.code ⟨"CaseLayout$Search", "forget", "()V"⟩ prog_7_method_2_code 1 none ∈ gx_T := List.mem_filter.mpr ⟨List.mem_append_right _ (List.mem_of_getElem? (i := 379) (by decide +kernel)), by decide +kernel⟩
theorem gw_216 : Cond.fieldLink "CaseLayout$Search" 18 "CaseLayout$Search" "limit" "I" ∈ gx_T := List.mem_filter.mpr ⟨List.mem_append_right _ (List.mem_of_getElem? (i := 216) (by decide +kernel)), by decide +kernel⟩
theorem gw_207 : Cond.fieldLink "CaseLayout$Search" 32 "CaseLayout$Search" "things" "LCaseLayout$Things;" ∈ gx_T := List.mem_filter.mpr ⟨List.mem_append_right _ (List.mem_of_getElem? (i := 207) (by decide +kernel)), by decide +kernel⟩
theorem gw_206 : Cond.fieldLink "CaseLayout$Search" 28 "CaseLayout$Search" "grid" "LCaseLayout$Grid;" ∈ gx_T := List.mem_filter.mpr ⟨List.mem_append_right _ (List.mem_of_getElem? (i := 206) (by decide +kernel)), by decide +kernel⟩
theorem gw_529 : Cond.methodLink "CaseLayout$Search" 89 ⟨"CaseLayout$Grid", "carries", "(IIIII)Z"⟩ ∈ gx_T := List.mem_filter.mpr ⟨List.mem_append_right _ (List.mem_of_getElem? (i := 529) (by decide +kernel)), by decide +kernel⟩
theorem gw_530 : Cond.instanceMethod ⟨"CaseLayout$Grid", "carries", "(IIIII)Z"⟩ ∈ gx_T := List.mem_filter.mpr ⟨List.mem_append_right _ (List.mem_of_getElem? (i := 530) (by decide +kernel)), by decide +kernel⟩
theorem gw_531 : Cond.selects "CaseLayout$Grid" ⟨"CaseLayout$Grid", "carries", "(IIIII)Z"⟩ ⟨"CaseLayout$Grid", "carries", "(IIIII)Z"⟩ ∈ gx_T := List.mem_filter.mpr ⟨List.mem_append_right _ (List.mem_of_getElem? (i := 531) (by decide +kernel)), by decide +kernel⟩
theorem gw_532 : Cond.code ⟨"CaseLayout$Grid", "carries", "(IIIII)Z"⟩ prog_4_method_4_code 9 (some .boolean) ∈ gx_T := List.mem_filter.mpr ⟨List.mem_append_right _ (List.mem_of_getElem? (i := 532) (by decide +kernel)), by decide +kernel⟩
theorem gw_214 : Cond.fieldLink "CaseLayout$Search" 9 "CaseLayout$Search" "spots" "[I" ∈ gx_T := List.mem_filter.mpr ⟨List.mem_append_right _ (List.mem_of_getElem? (i := 214) (by decide +kernel)), by decide +kernel⟩
theorem gw_215 : Cond.fieldLink "CaseLayout$Search" 15 "CaseLayout$Search" "spotCounts" "[I" ∈ gx_T := List.mem_filter.mpr ⟨List.mem_append_right _ (List.mem_of_getElem? (i := 215) (by decide +kernel)), by decide +kernel⟩
theorem gw_525 : Cond.methodLink "CaseLayout$Search" 68 ⟨"CaseLayout$Search", "listSpots", "(I)V"⟩ ∈ gx_T := List.mem_filter.mpr ⟨List.mem_append_right _ (List.mem_of_getElem? (i := 525) (by decide +kernel)), by decide +kernel⟩
theorem gw_527 : Cond.instanceMethod ⟨"CaseLayout$Search", "listSpots", "(I)V"⟩ ∈ gx_T := List.mem_filter.mpr ⟨List.mem_append_right _ (List.mem_of_getElem? (i := 527) (by decide +kernel)), by decide +kernel⟩
theorem gs_5 : Cond.selects "CaseLayout$Search" ⟨"CaseLayout$Search", "listSpots", "(I)V"⟩ ⟨"CaseLayout$Search", "listSpots", "(I)V"⟩ ∈ gx_T := List.mem_filter.mpr ⟨List.mem_append_left _ (List.mem_of_getElem? (i := 5) (by decide +kernel)), by decide +kernel⟩
theorem gw_528 : Cond.code ⟨"CaseLayout$Search", "listSpots", "(I)V"⟩ prog_7_method_5_code 5 none ∈ gx_T := List.mem_filter.mpr ⟨List.mem_append_right _ (List.mem_of_getElem? (i := 528) (by decide +kernel)), by decide +kernel⟩
theorem gw_211 : Cond.fieldLink "CaseLayout$Search" 53 "CaseLayout$Search" "trial" "LCaseLayout$Layout;" ∈ gx_T := List.mem_filter.mpr ⟨List.mem_append_right _ (List.mem_of_getElem? (i := 211) (by decide +kernel)), by decide +kernel⟩
theorem gw_191 : Cond.fieldLink "CaseLayout$Layout" 9 "CaseLayout$Layout" "xs" "[I" ∈ gx_T := List.mem_filter.mpr ⟨List.mem_append_right _ (List.mem_of_getElem? (i := 191) (by decide +kernel)), by decide +kernel⟩
theorem gw_189 : Cond.fieldLink "CaseLayout$Layout" 18 "CaseLayout$Layout" "things" "LCaseLayout$Things;" ∈ gx_T := List.mem_filter.mpr ⟨List.mem_append_right _ (List.mem_of_getElem? (i := 189) (by decide +kernel)), by decide +kernel⟩
theorem gw_616 : Cond.methodLink "CaseLayout$Layout" 34 ⟨"java/lang/Math", "max", "(II)I"⟩ ∈ gx_T := List.mem_filter.mpr ⟨List.mem_append_right _ (List.mem_of_getElem? (i := 616) (by decide +kernel)), by decide +kernel⟩
theorem gw_36 : Cond.static ⟨"java/lang/Math", "max", "(II)I"⟩ ∈ gx_T := List.mem_filter.mpr ⟨List.mem_append_right _ (List.mem_of_getElem? (i := 36) (by decide +kernel)), by decide +kernel⟩
theorem gw_3 : Cond.initialized "java/lang/Math" ∈ gx_T := List.mem_filter.mpr ⟨List.mem_append_right _ (List.mem_of_getElem? (i := 3) (by decide +kernel)), by decide +kernel⟩
theorem gw_37 : Cond.code ⟨"java/lang/Math", "max", "(II)I"⟩ prog_15_method_65_code 2 (some .int) ∈ gx_T := List.mem_filter.mpr ⟨List.mem_append_right _ (List.mem_of_getElem? (i := 37) (by decide +kernel)), by decide +kernel⟩
theorem gw_9 : Cond.initialized "CaseLayout$Layout" ∈ gx_T := List.mem_filter.mpr ⟨List.mem_append_right _ (List.mem_of_getElem? (i := 9) (by decide +kernel)), by decide +kernel⟩
theorem gw_613 : Cond.methodLink "CaseLayout$Layout" 27 ⟨"CaseLayout$Layout", "between", "(IIII)I"⟩ ∈ gx_T := List.mem_filter.mpr ⟨List.mem_append_right _ (List.mem_of_getElem? (i := 613) (by decide +kernel)), by decide +kernel⟩
theorem gw_614 : Cond.static ⟨"CaseLayout$Layout", "between", "(IIII)I"⟩ ∈ gx_T := List.mem_filter.mpr ⟨List.mem_append_right _ (List.mem_of_getElem? (i := 614) (by decide +kernel)), by decide +kernel⟩
theorem gw_615 : Cond.code ⟨"CaseLayout$Layout", "between", "(IIII)I"⟩ prog_5_method_4_code 4 (some .int) ∈ gx_T := List.mem_filter.mpr ⟨List.mem_append_right _ (List.mem_of_getElem? (i := 615) (by decide +kernel)), by decide +kernel⟩
theorem gw_195 : Cond.fieldLink "CaseLayout$Layout" 15 "CaseLayout$Layout" "ys" "[I" ∈ gx_T := List.mem_filter.mpr ⟨List.mem_append_right _ (List.mem_of_getElem? (i := 195) (by decide +kernel)), by decide +kernel⟩
theorem gw_609 : Cond.methodLink "CaseLayout$Search" 118 ⟨"CaseLayout$Layout", "gapOf", "(II)I"⟩ ∈ gx_T := List.mem_filter.mpr ⟨List.mem_append_right _ (List.mem_of_getElem? (i := 609) (by decide +kernel)), by decide +kernel⟩
theorem gw_610 : Cond.instanceMethod ⟨"CaseLayout$Layout", "gapOf", "(II)I"⟩ ∈ gx_T := List.mem_filter.mpr ⟨List.mem_append_right _ (List.mem_of_getElem? (i := 610) (by decide +kernel)), by decide +kernel⟩
theorem gw_611 : Cond.selects "CaseLayout$Layout" ⟨"CaseLayout$Layout", "gapOf", "(II)I"⟩ ⟨"CaseLayout$Layout", "gapOf", "(II)I"⟩ ∈ gx_T := List.mem_filter.mpr ⟨List.mem_append_right _ (List.mem_of_getElem? (i := 611) (by decide +kernel)), by decide +kernel⟩
theorem gw_612 : Cond.code ⟨"CaseLayout$Layout", "gapOf", "(II)I"⟩ prog_5_method_2_code 5 (some .int) ∈ gx_T := List.mem_filter.mpr ⟨List.mem_append_right _ (List.mem_of_getElem? (i := 612) (by decide +kernel)), by decide +kernel⟩
theorem gw_457 : Cond.code ⟨"CaseLayout", "pairOf", "(II)I"⟩ prog_1_method_26_code 2 (some .int) ∈ gx_T := List.mem_filter.mpr ⟨List.mem_append_right _ (List.mem_of_getElem? (i := 457) (by decide +kernel)), by decide +kernel⟩
theorem gw_456 : Cond.static ⟨"CaseLayout", "pairOf", "(II)I"⟩ ∈ gx_T := List.mem_filter.mpr ⟨List.mem_append_right _ (List.mem_of_getElem? (i := 456) (by decide +kernel)), by decide +kernel⟩
theorem gw_161 : Cond.fieldLink "CaseLayout$Floor" 9 "CaseLayout$Floor" "owners" "[I" ∈ gx_T := List.mem_filter.mpr ⟨List.mem_append_right _ (List.mem_of_getElem? (i := 161) (by decide +kernel)), by decide +kernel⟩
theorem gw_160 : Cond.fieldLink "CaseLayout$Floor" 25 "CaseLayout$Floor" "grid" "LCaseLayout$Grid;" ∈ gx_T := List.mem_filter.mpr ⟨List.mem_append_right _ (List.mem_of_getElem? (i := 160) (by decide +kernel)), by decide +kernel⟩
theorem gw_552 : Cond.methodLink "CaseLayout$Floor" 62 ⟨"CaseLayout$Grid", "holds", "(II)Z"⟩ ∈ gx_T := List.mem_filter.mpr ⟨List.mem_append_right _ (List.mem_of_getElem? (i := 552) (by decide +kernel)), by decide +kernel⟩
theorem gw_7 : Cond.initialized "CaseLayout$Floor" ∈ gx_T := List.mem_filter.mpr ⟨List.mem_append_right _ (List.mem_of_getElem? (i := 7) (by decide +kernel)), by decide +kernel⟩
theorem gw_548 : Cond.methodLink "CaseLayout$Floor" 46 ⟨"CaseLayout$Floor", "cover", "(LCaseLayout$Layout;I)V"⟩ ∈ gx_T := List.mem_filter.mpr ⟨List.mem_append_right _ (List.mem_of_getElem? (i := 548) (by decide +kernel)), by decide +kernel⟩
theorem gw_550 : Cond.instanceMethod ⟨"CaseLayout$Floor", "cover", "(LCaseLayout$Layout;I)V"⟩ ∈ gx_T := List.mem_filter.mpr ⟨List.mem_append_right _ (List.mem_of_getElem? (i := 550) (by decide +kernel)), by decide +kernel⟩
theorem gs_7 : Cond.selects "CaseLayout$Floor" ⟨"CaseLayout$Floor", "cover", "(LCaseLayout$Layout;I)V"⟩ ⟨"CaseLayout$Floor", "cover", "(LCaseLayout$Layout;I)V"⟩ ∈ gx_T := List.mem_filter.mpr ⟨List.mem_append_left _ (List.mem_of_getElem? (i := 7) (by decide +kernel)), by decide +kernel⟩
theorem gw_551 : Cond.code ⟨"CaseLayout$Floor", "cover", "(LCaseLayout$Layout;I)V"⟩ prog_3_method_3_code 7 none ∈ gx_T := List.mem_filter.mpr ⟨List.mem_append_right _ (List.mem_of_getElem? (i := 551) (by decide +kernel)), by decide +kernel⟩
theorem gw_563 : Cond.methodLink "CaseLayout$Floor" 70 ⟨"java/lang/Math", "min", "(II)I"⟩ ∈ gx_T := List.mem_filter.mpr ⟨List.mem_append_right _ (List.mem_of_getElem? (i := 563) (by decide +kernel)), by decide +kernel⟩
theorem gw_33 : Cond.static ⟨"java/lang/Math", "min", "(II)I"⟩ ∈ gx_T := List.mem_filter.mpr ⟨List.mem_append_right _ (List.mem_of_getElem? (i := 33) (by decide +kernel)), by decide +kernel⟩
theorem gw_34 : Cond.code ⟨"java/lang/Math", "min", "(II)I"⟩ prog_15_method_69_code 2 (some .int) ∈ gx_T := List.mem_filter.mpr ⟨List.mem_append_right _ (List.mem_of_getElem? (i := 34) (by decide +kernel)), by decide +kernel⟩
theorem gw_564 : Cond.methodLink "CaseLayout$Floor" 75 ⟨"java/lang/Math", "max", "(II)I"⟩ ∈ gx_T := List.mem_filter.mpr ⟨List.mem_append_right _ (List.mem_of_getElem? (i := 564) (by decide +kernel)), by decide +kernel⟩
theorem gw_565 : Cond.methodLink "CaseLayout$Floor" 78 ⟨"CaseLayout$Floor", "hides", "(III)Z"⟩ ∈ gx_T := List.mem_filter.mpr ⟨List.mem_append_right _ (List.mem_of_getElem? (i := 565) (by decide +kernel)), by decide +kernel⟩
theorem gw_567 : Cond.instanceMethod ⟨"CaseLayout$Floor", "hides", "(III)Z"⟩ ∈ gx_T := List.mem_filter.mpr ⟨List.mem_append_right _ (List.mem_of_getElem? (i := 567) (by decide +kernel)), by decide +kernel⟩
theorem gs_9 : Cond.selects "CaseLayout$Floor" ⟨"CaseLayout$Floor", "hides", "(III)Z"⟩ ⟨"CaseLayout$Floor", "hides", "(III)Z"⟩ ∈ gx_T := List.mem_filter.mpr ⟨List.mem_append_left _ (List.mem_of_getElem? (i := 9) (by decide +kernel)), by decide +kernel⟩
theorem gw_568 : Cond.code ⟨"CaseLayout$Floor", "hides", "(III)Z"⟩ prog_3_method_5_code 5 (some .boolean) ∈ gx_T := List.mem_filter.mpr ⟨List.mem_append_right _ (List.mem_of_getElem? (i := 568) (by decide +kernel)), by decide +kernel⟩
theorem gw_572 : Cond.methodLink "CaseLayout$Floor" 86 ⟨"java/lang/Math", "abs", "(I)I"⟩ ∈ gx_T := List.mem_filter.mpr ⟨List.mem_append_right _ (List.mem_of_getElem? (i := 572) (by decide +kernel)), by decide +kernel⟩
theorem gw_573 : Cond.static ⟨"java/lang/Math", "abs", "(I)I"⟩ ∈ gx_T := List.mem_filter.mpr ⟨List.mem_append_right _ (List.mem_of_getElem? (i := 573) (by decide +kernel)), by decide +kernel⟩
theorem gw_574 : Cond.code ⟨"java/lang/Math", "abs", "(I)I"⟩ prog_15_method_59_code 1 (some .int) ∈ gx_T := List.mem_filter.mpr ⟨List.mem_append_right _ (List.mem_of_getElem? (i := 574) (by decide +kernel)), by decide +kernel⟩
theorem gw_569 : Cond.methodLink "CaseLayout$Floor" 82 ⟨"CaseLayout$Floor", "isCrossed", "(IIII)Z"⟩ ∈ gx_T := List.mem_filter.mpr ⟨List.mem_append_right _ (List.mem_of_getElem? (i := 569) (by decide +kernel)), by decide +kernel⟩
theorem gw_570 : Cond.static ⟨"CaseLayout$Floor", "isCrossed", "(IIII)Z"⟩ ∈ gx_T := List.mem_filter.mpr ⟨List.mem_append_right _ (List.mem_of_getElem? (i := 570) (by decide +kernel)), by decide +kernel⟩
theorem gw_571 : Cond.code ⟨"CaseLayout$Floor", "isCrossed", "(IIII)Z"⟩ prog_3_method_6_code 4 (some .boolean) ∈ gx_T := List.mem_filter.mpr ⟨List.mem_append_right _ (List.mem_of_getElem? (i := 571) (by decide +kernel)), by decide +kernel⟩
theorem gw_162 : Cond.fieldLink "CaseLayout$Floor" 15 "CaseLayout$Floor" "steps" "[I" ∈ gx_T := List.mem_filter.mpr ⟨List.mem_append_right _ (List.mem_of_getElem? (i := 162) (by decide +kernel)), by decide +kernel⟩
theorem gw_17 : Cond.initialized "java/util/Arrays" ∈ gx_T := List.mem_filter.mpr ⟨List.mem_append_right _ (List.mem_of_getElem? (i := 17) (by decide +kernel)), by decide +kernel⟩
theorem gw_583 : Cond.methodLink "CaseLayout$Floor" 90 ⟨"java/util/Arrays", "fill", "([II)V"⟩ ∈ gx_T := List.mem_filter.mpr ⟨List.mem_append_right _ (List.mem_of_getElem? (i := 583) (by decide +kernel)), by decide +kernel⟩
theorem gw_584 : Cond.static ⟨"java/util/Arrays", "fill", "([II)V"⟩ ∈ gx_T := List.mem_filter.mpr ⟨List.mem_append_right _ (List.mem_of_getElem? (i := 584) (by decide +kernel)), by decide +kernel⟩
theorem gw_585 : Cond.code ⟨"java/util/Arrays", "fill", "([II)V"⟩ prog_20_method_103_code 4 none ∈ gx_T := List.mem_filter.mpr ⟨List.mem_append_right _ (List.mem_of_getElem? (i := 585) (by decide +kernel)), by decide +kernel⟩
theorem gw_165 : Cond.fieldLink "CaseLayout$Floor" 21 "CaseLayout$Floor" "reachedCount" "I" ∈ gx_T := List.mem_filter.mpr ⟨List.mem_append_right _ (List.mem_of_getElem? (i := 165) (by decide +kernel)), by decide +kernel⟩
theorem gw_164 : Cond.fieldLink "CaseLayout$Floor" 18 "CaseLayout$Floor" "reached" "[I" ∈ gx_T := List.mem_filter.mpr ⟨List.mem_append_right _ (List.mem_of_getElem? (i := 164) (by decide +kernel)), by decide +kernel⟩
theorem gw_586 : Cond.methodLink "CaseLayout$Floor" 102 ⟨"CaseLayout$Floor", "reach", "(III)V"⟩ ∈ gx_T := List.mem_filter.mpr ⟨List.mem_append_right _ (List.mem_of_getElem? (i := 586) (by decide +kernel)), by decide +kernel⟩
theorem gw_588 : Cond.instanceMethod ⟨"CaseLayout$Floor", "reach", "(III)V"⟩ ∈ gx_T := List.mem_filter.mpr ⟨List.mem_append_right _ (List.mem_of_getElem? (i := 588) (by decide +kernel)), by decide +kernel⟩
theorem gs_11 : Cond.selects "CaseLayout$Floor" ⟨"CaseLayout$Floor", "reach", "(III)V"⟩ ⟨"CaseLayout$Floor", "reach", "(III)V"⟩ ∈ gx_T := List.mem_filter.mpr ⟨List.mem_append_left _ (List.mem_of_getElem? (i := 11) (by decide +kernel)), by decide +kernel⟩
theorem gw_589 : Cond.code ⟨"CaseLayout$Floor", "reach", "(III)V"⟩ prog_3_method_8_code 5 none ∈ gx_T := List.mem_filter.mpr ⟨List.mem_append_right _ (List.mem_of_getElem? (i := 589) (by decide +kernel)), by decide +kernel⟩
theorem gw_210 : Cond.fieldLink "CaseLayout$Search" 44 "CaseLayout$Search" "floor" "LCaseLayout$Floor;" ∈ gx_T := List.mem_filter.mpr ⟨List.mem_append_right _ (List.mem_of_getElem? (i := 210) (by decide +kernel)), by decide +kernel⟩
theorem gw_544 : Cond.methodLink "CaseLayout$Search" 130 ⟨"CaseLayout$Floor", "lay", "(LCaseLayout$Layout;)V"⟩ ∈ gx_T := List.mem_filter.mpr ⟨List.mem_append_right _ (List.mem_of_getElem? (i := 544) (by decide +kernel)), by decide +kernel⟩
theorem gw_545 : Cond.instanceMethod ⟨"CaseLayout$Floor", "lay", "(LCaseLayout$Layout;)V"⟩ ∈ gx_T := List.mem_filter.mpr ⟨List.mem_append_right _ (List.mem_of_getElem? (i := 545) (by decide +kernel)), by decide +kernel⟩
theorem gw_546 : Cond.selects "CaseLayout$Floor" ⟨"CaseLayout$Floor", "lay", "(LCaseLayout$Layout;)V"⟩ ⟨"CaseLayout$Floor", "lay", "(LCaseLayout$Layout;)V"⟩ ∈ gx_T := List.mem_filter.mpr ⟨List.mem_append_right _ (List.mem_of_getElem? (i := 546) (by decide +kernel)), by decide +kernel⟩
theorem gw_547 : Cond.code ⟨"CaseLayout$Floor", "lay", "(LCaseLayout$Layout;)V"⟩ prog_3_method_2_code 3 none ∈ gx_T := List.mem_filter.mpr ⟨List.mem_append_right _ (List.mem_of_getElem? (i := 547) (by decide +kernel)), by decide +kernel⟩
theorem gw_208 : Cond.fieldLink "CaseLayout$Search" 36 "CaseLayout$Search" "places" "LCaseLayout$Places;" ∈ gx_T := List.mem_filter.mpr ⟨List.mem_append_right _ (List.mem_of_getElem? (i := 208) (by decide +kernel)), by decide +kernel⟩
theorem gw_492 : Cond.code ⟨"CaseLayout", "sightOf", "(II)I"⟩ prog_1_method_27_code 2 (some .int) ∈ gx_T := List.mem_filter.mpr ⟨List.mem_append_right _ (List.mem_of_getElem? (i := 492) (by decide +kernel)), by decide +kernel⟩
theorem gw_491 : Cond.static ⟨"CaseLayout", "sightOf", "(II)I"⟩ ∈ gx_T := List.mem_filter.mpr ⟨List.mem_append_right _ (List.mem_of_getElem? (i := 491) (by decide +kernel)), by decide +kernel⟩
theorem gw_559 : Cond.methodLink "CaseLayout$Search" 158 ⟨"CaseLayout$Floor", "isSeen", "(LCaseLayout$Layout;III)Z"⟩ ∈ gx_T := List.mem_filter.mpr ⟨List.mem_append_right _ (List.mem_of_getElem? (i := 559) (by decide +kernel)), by decide +kernel⟩
theorem gw_560 : Cond.instanceMethod ⟨"CaseLayout$Floor", "isSeen", "(LCaseLayout$Layout;III)Z"⟩ ∈ gx_T := List.mem_filter.mpr ⟨List.mem_append_right _ (List.mem_of_getElem? (i := 560) (by decide +kernel)), by decide +kernel⟩
theorem gw_561 : Cond.selects "CaseLayout$Floor" ⟨"CaseLayout$Floor", "isSeen", "(LCaseLayout$Layout;III)Z"⟩ ⟨"CaseLayout$Floor", "isSeen", "(LCaseLayout$Layout;III)Z"⟩ ∈ gx_T := List.mem_filter.mpr ⟨List.mem_append_right _ (List.mem_of_getElem? (i := 561) (by decide +kernel)), by decide +kernel⟩
theorem gw_562 : Cond.code ⟨"CaseLayout$Floor", "isSeen", "(LCaseLayout$Layout;III)Z"⟩ prog_3_method_4_code 9 (some .boolean) ∈ gx_T := List.mem_filter.mpr ⟨List.mem_append_right _ (List.mem_of_getElem? (i := 562) (by decide +kernel)), by decide +kernel⟩
theorem gw_554 : Cond.methodLink "CaseLayout$Search" 136 ⟨"CaseLayout$Search", "allSeen", "()Z"⟩ ∈ gx_T := List.mem_filter.mpr ⟨List.mem_append_right _ (List.mem_of_getElem? (i := 554) (by decide +kernel)), by decide +kernel⟩
theorem gw_556 : Cond.instanceMethod ⟨"CaseLayout$Search", "allSeen", "()Z"⟩ ∈ gx_T := List.mem_filter.mpr ⟨List.mem_append_right _ (List.mem_of_getElem? (i := 556) (by decide +kernel)), by decide +kernel⟩
theorem gs_8 : Cond.selects "CaseLayout$Search" ⟨"CaseLayout$Search", "allSeen", "()Z"⟩ ⟨"CaseLayout$Search", "allSeen", "()Z"⟩ ∈ gx_T := List.mem_filter.mpr ⟨List.mem_append_left _ (List.mem_of_getElem? (i := 8) (by decide +kernel)), by decide +kernel⟩
theorem gw_557 : Cond.code ⟨"CaseLayout$Search", "allSeen", "()Z"⟩ prog_7_method_10_code 3 (some .boolean) ∈ gx_T := List.mem_filter.mpr ⟨List.mem_append_right _ (List.mem_of_getElem? (i := 557) (by decide +kernel)), by decide +kernel⟩
theorem gw_209 : Cond.fieldLink "CaseLayout$Search" 40 "CaseLayout$Search" "exits" "LCaseLayout$Exits;" ∈ gx_T := List.mem_filter.mpr ⟨List.mem_append_right _ (List.mem_of_getElem? (i := 209) (by decide +kernel)), by decide +kernel⟩
theorem gw_579 : Cond.methodLink "CaseLayout$Search" 165 ⟨"CaseLayout$Floor", "measure", "(LCaseLayout$Exits;)V"⟩ ∈ gx_T := List.mem_filter.mpr ⟨List.mem_append_right _ (List.mem_of_getElem? (i := 579) (by decide +kernel)), by decide +kernel⟩
theorem gw_580 : Cond.instanceMethod ⟨"CaseLayout$Floor", "measure", "(LCaseLayout$Exits;)V"⟩ ∈ gx_T := List.mem_filter.mpr ⟨List.mem_append_right _ (List.mem_of_getElem? (i := 580) (by decide +kernel)), by decide +kernel⟩
theorem gw_581 : Cond.selects "CaseLayout$Floor" ⟨"CaseLayout$Floor", "measure", "(LCaseLayout$Exits;)V"⟩ ⟨"CaseLayout$Floor", "measure", "(LCaseLayout$Exits;)V"⟩ ∈ gx_T := List.mem_filter.mpr ⟨List.mem_append_right _ (List.mem_of_getElem? (i := 581) (by decide +kernel)), by decide +kernel⟩
theorem gw_582 : Cond.code ⟨"CaseLayout$Floor", "measure", "(LCaseLayout$Exits;)V"⟩ prog_3_method_7_code 6 none ∈ gx_T := List.mem_filter.mpr ⟨List.mem_append_right _ (List.mem_of_getElem? (i := 582) (by decide +kernel)), by decide +kernel⟩
theorem gw_594 : Cond.methodLink "CaseLayout$Floor" 106 ⟨"CaseLayout$Floor", "isNear", "(III)Z"⟩ ∈ gx_T := List.mem_filter.mpr ⟨List.mem_append_right _ (List.mem_of_getElem? (i := 594) (by decide +kernel)), by decide +kernel⟩
theorem gw_596 : Cond.instanceMethod ⟨"CaseLayout$Floor", "isNear", "(III)Z"⟩ ∈ gx_T := List.mem_filter.mpr ⟨List.mem_append_right _ (List.mem_of_getElem? (i := 596) (by decide +kernel)), by decide +kernel⟩
theorem gs_12 : Cond.selects "CaseLayout$Floor" ⟨"CaseLayout$Floor", "isNear", "(III)Z"⟩ ⟨"CaseLayout$Floor", "isNear", "(III)Z"⟩ ∈ gx_T := List.mem_filter.mpr ⟨List.mem_append_left _ (List.mem_of_getElem? (i := 12) (by decide +kernel)), by decide +kernel⟩
theorem gw_597 : Cond.code ⟨"CaseLayout$Floor", "isNear", "(III)Z"⟩ prog_3_method_10_code 5 (some .boolean) ∈ gx_T := List.mem_filter.mpr ⟨List.mem_append_right _ (List.mem_of_getElem? (i := 597) (by decide +kernel)), by decide +kernel⟩
theorem gw_590 : Cond.methodLink "CaseLayout$Search" 172 ⟨"CaseLayout$Floor", "hasEscape", "(LCaseLayout$Layout;II)Z"⟩ ∈ gx_T := List.mem_filter.mpr ⟨List.mem_append_right _ (List.mem_of_getElem? (i := 590) (by decide +kernel)), by decide +kernel⟩
theorem gw_591 : Cond.instanceMethod ⟨"CaseLayout$Floor", "hasEscape", "(LCaseLayout$Layout;II)Z"⟩ ∈ gx_T := List.mem_filter.mpr ⟨List.mem_append_right _ (List.mem_of_getElem? (i := 591) (by decide +kernel)), by decide +kernel⟩
theorem gw_592 : Cond.selects "CaseLayout$Floor" ⟨"CaseLayout$Floor", "hasEscape", "(LCaseLayout$Layout;II)Z"⟩ ⟨"CaseLayout$Floor", "hasEscape", "(LCaseLayout$Layout;II)Z"⟩ ∈ gx_T := List.mem_filter.mpr ⟨List.mem_append_right _ (List.mem_of_getElem? (i := 592) (by decide +kernel)), by decide +kernel⟩
theorem gw_593 : Cond.code ⟨"CaseLayout$Floor", "hasEscape", "(LCaseLayout$Layout;II)Z"⟩ prog_3_method_9_code 9 (some .boolean) ∈ gx_T := List.mem_filter.mpr ⟨List.mem_append_right _ (List.mem_of_getElem? (i := 593) (by decide +kernel)), by decide +kernel⟩
theorem gw_575 : Cond.methodLink "CaseLayout$Search" 140 ⟨"CaseLayout$Search", "allEscape", "()Z"⟩ ∈ gx_T := List.mem_filter.mpr ⟨List.mem_append_right _ (List.mem_of_getElem? (i := 575) (by decide +kernel)), by decide +kernel⟩
theorem gw_577 : Cond.instanceMethod ⟨"CaseLayout$Search", "allEscape", "()Z"⟩ ∈ gx_T := List.mem_filter.mpr ⟨List.mem_append_right _ (List.mem_of_getElem? (i := 577) (by decide +kernel)), by decide +kernel⟩
theorem gs_10 : Cond.selects "CaseLayout$Search" ⟨"CaseLayout$Search", "allEscape", "()Z"⟩ ⟨"CaseLayout$Search", "allEscape", "()Z"⟩ ∈ gx_T := List.mem_filter.mpr ⟨List.mem_append_left _ (List.mem_of_getElem? (i := 10) (by decide +kernel)), by decide +kernel⟩
theorem gw_578 : Cond.code ⟨"CaseLayout$Search", "allEscape", "()Z"⟩ prog_7_method_11_code 2 (some .boolean) ∈ gx_T := List.mem_filter.mpr ⟨List.mem_append_right _ (List.mem_of_getElem? (i := 578) (by decide +kernel)), by decide +kernel⟩
theorem gw_212 : Cond.fieldLink "CaseLayout$Search" 57 "CaseLayout$Search" "best" "LCaseLayout$Layout;" ∈ gx_T := List.mem_filter.mpr ⟨List.mem_append_right _ (List.mem_of_getElem? (i := 212) (by decide +kernel)), by decide +kernel⟩
theorem gw_602 : Cond.methodLink "CaseLayout$Layout" 40 ⟨"java/lang/System", "arraycopy", "(Ljava/lang/Object;ILjava/lang/Object;II)V"⟩ ∈ gx_T := List.mem_filter.mpr ⟨List.mem_append_right _ (List.mem_of_getElem? (i := 602) (by decide +kernel)), by decide +kernel⟩
theorem gw_604 : Cond.native ⟨"java/lang/System", "arraycopy", "(Ljava/lang/Object;ILjava/lang/Object;II)V"⟩ ∈ gx_T := List.mem_filter.mpr ⟨List.mem_append_right _ (List.mem_of_getElem? (i := 604) (by decide +kernel)), by decide +kernel⟩
theorem gw_603 : Cond.static ⟨"java/lang/System", "arraycopy", "(Ljava/lang/Object;ILjava/lang/Object;II)V"⟩ ∈ gx_T := List.mem_filter.mpr ⟨List.mem_append_right _ (List.mem_of_getElem? (i := 603) (by decide +kernel)), by decide +kernel⟩
theorem gw_18 : Cond.initialized "java/lang/System" ∈ gx_T := List.mem_filter.mpr ⟨List.mem_append_right _ (List.mem_of_getElem? (i := 18) (by decide +kernel)), by decide +kernel⟩
theorem gw_598 : Cond.methodLink "CaseLayout$Search" 143 ⟨"CaseLayout$Layout", "copyFrom", "(LCaseLayout$Layout;)V"⟩ ∈ gx_T := List.mem_filter.mpr ⟨List.mem_append_right _ (List.mem_of_getElem? (i := 598) (by decide +kernel)), by decide +kernel⟩
theorem gw_599 : Cond.instanceMethod ⟨"CaseLayout$Layout", "copyFrom", "(LCaseLayout$Layout;)V"⟩ ∈ gx_T := List.mem_filter.mpr ⟨List.mem_append_right _ (List.mem_of_getElem? (i := 599) (by decide +kernel)), by decide +kernel⟩
theorem gw_600 : Cond.selects "CaseLayout$Layout" ⟨"CaseLayout$Layout", "copyFrom", "(LCaseLayout$Layout;)V"⟩ ⟨"CaseLayout$Layout", "copyFrom", "(LCaseLayout$Layout;)V"⟩ ∈ gx_T := List.mem_filter.mpr ⟨List.mem_append_right _ (List.mem_of_getElem? (i := 600) (by decide +kernel)), by decide +kernel⟩
theorem gw_601 : Cond.code ⟨"CaseLayout$Layout", "copyFrom", "(LCaseLayout$Layout;)V"⟩ prog_5_method_3_code 2 none ∈ gx_T := List.mem_filter.mpr ⟨List.mem_append_right _ (List.mem_of_getElem? (i := 601) (by decide +kernel)), by decide +kernel⟩
theorem gw_540 : Cond.methodLink "CaseLayout$Search" 97 ⟨"CaseLayout$Search", "judge", "(I)V"⟩ ∈ gx_T := List.mem_filter.mpr ⟨List.mem_append_right _ (List.mem_of_getElem? (i := 540) (by decide +kernel)), by decide +kernel⟩
theorem gw_542 : Cond.instanceMethod ⟨"CaseLayout$Search", "judge", "(I)V"⟩ ∈ gx_T := List.mem_filter.mpr ⟨List.mem_append_right _ (List.mem_of_getElem? (i := 542) (by decide +kernel)), by decide +kernel⟩
theorem gs_6 : Cond.selects "CaseLayout$Search" ⟨"CaseLayout$Search", "judge", "(I)V"⟩ ⟨"CaseLayout$Search", "judge", "(I)V"⟩ ∈ gx_T := List.mem_filter.mpr ⟨List.mem_append_left _ (List.mem_of_getElem? (i := 6) (by decide +kernel)), by decide +kernel⟩
theorem gw_543 : Cond.code ⟨"CaseLayout$Search", "judge", "(I)V"⟩ prog_7_method_9_code 2 none ∈ gx_T := List.mem_filter.mpr ⟨List.mem_append_right _ (List.mem_of_getElem? (i := 543) (by decide +kernel)), by decide +kernel⟩
theorem gw_605 : Cond.methodLink "CaseLayout$Search" 106 ⟨"CaseLayout$Search", "keepsApart", "(I)Z"⟩ ∈ gx_T := List.mem_filter.mpr ⟨List.mem_append_right _ (List.mem_of_getElem? (i := 605) (by decide +kernel)), by decide +kernel⟩
theorem gw_607 : Cond.instanceMethod ⟨"CaseLayout$Search", "keepsApart", "(I)Z"⟩ ∈ gx_T := List.mem_filter.mpr ⟨List.mem_append_right _ (List.mem_of_getElem? (i := 607) (by decide +kernel)), by decide +kernel⟩
theorem gs_13 : Cond.selects "CaseLayout$Search" ⟨"CaseLayout$Search", "keepsApart", "(I)Z"⟩ ⟨"CaseLayout$Search", "keepsApart", "(I)Z"⟩ ∈ gx_T := List.mem_filter.mpr ⟨List.mem_append_left _ (List.mem_of_getElem? (i := 13) (by decide +kernel)), by decide +kernel⟩
theorem gw_608 : Cond.code ⟨"CaseLayout$Search", "keepsApart", "(I)Z"⟩ prog_7_method_7_code 3 (some .boolean) ∈ gx_T := List.mem_filter.mpr ⟨List.mem_append_right _ (List.mem_of_getElem? (i := 608) (by decide +kernel)), by decide +kernel⟩
theorem gw_618 : Cond.methodLink "CaseLayout$Search" 110 ⟨"CaseLayout$Search", "gainOf", "(I)I"⟩ ∈ gx_T := List.mem_filter.mpr ⟨List.mem_append_right _ (List.mem_of_getElem? (i := 618) (by decide +kernel)), by decide +kernel⟩
theorem gw_620 : Cond.instanceMethod ⟨"CaseLayout$Search", "gainOf", "(I)I"⟩ ∈ gx_T := List.mem_filter.mpr ⟨List.mem_append_right _ (List.mem_of_getElem? (i := 620) (by decide +kernel)), by decide +kernel⟩
theorem gs_14 : Cond.selects "CaseLayout$Search" ⟨"CaseLayout$Search", "gainOf", "(I)I"⟩ ⟨"CaseLayout$Search", "gainOf", "(I)I"⟩ ∈ gx_T := List.mem_filter.mpr ⟨List.mem_append_left _ (List.mem_of_getElem? (i := 14) (by decide +kernel)), by decide +kernel⟩
theorem gw_621 : Cond.code ⟨"CaseLayout$Search", "gainOf", "(I)I"⟩ prog_7_method_8_code 5 (some .int) ∈ gx_T := List.mem_filter.mpr ⟨List.mem_append_right _ (List.mem_of_getElem? (i := 621) (by decide +kernel)), by decide +kernel⟩
theorem gw_622 : Cond.methodLink "CaseLayout$Search" 114 ⟨"CaseLayout$Search", "tryThing", "(II)Z"⟩ ∈ gx_T := List.mem_filter.mpr ⟨List.mem_append_right _ (List.mem_of_getElem? (i := 622) (by decide +kernel)), by decide +kernel⟩
theorem gw_537 : Cond.instanceMethod ⟨"CaseLayout$Search", "tryThing", "(II)Z"⟩ ∈ gx_T := List.mem_filter.mpr ⟨List.mem_append_right _ (List.mem_of_getElem? (i := 537) (by decide +kernel)), by decide +kernel⟩
theorem gw_538 : Cond.selects "CaseLayout$Search" ⟨"CaseLayout$Search", "tryThing", "(II)Z"⟩ ⟨"CaseLayout$Search", "tryThing", "(II)Z"⟩ ∈ gx_T := List.mem_filter.mpr ⟨List.mem_append_right _ (List.mem_of_getElem? (i := 538) (by decide +kernel)), by decide +kernel⟩
theorem gw_539 : Cond.code ⟨"CaseLayout$Search", "tryThing", "(II)Z"⟩ prog_7_method_6_code 5 (some .boolean) ∈ gx_T := List.mem_filter.mpr ⟨List.mem_append_right _ (List.mem_of_getElem? (i := 539) (by decide +kernel)), by decide +kernel⟩
theorem gw_455 : Cond.methodLink "CaseLayout" 235 ⟨"CaseLayout", "pairOf", "(II)I"⟩ ∈ gx_T := List.mem_filter.mpr ⟨List.mem_append_right _ (List.mem_of_getElem? (i := 455) (by decide +kernel)), by decide +kernel⟩
theorem gw_675 : Cond.fieldLink "CaseLayoutModel" 73 "CaseLayoutModel" "width" "I" ∈ gx_T := List.mem_filter.mpr ⟨List.mem_append_right _ (List.mem_of_getElem? (i := 675) (by decide +kernel)), by decide +kernel⟩
theorem gw_10 : Cond.initialized "CaseLayoutModel" ∈ gx_T := List.mem_filter.mpr ⟨List.mem_append_right _ (List.mem_of_getElem? (i := 10) (by decide +kernel)), by decide +kernel⟩
theorem gw_771 : Cond.methodLink "CaseLayoutModel" 82 ⟨"CaseLayoutModel", "in", "(III)Z"⟩ ∈ gx_T := List.mem_filter.mpr ⟨List.mem_append_right _ (List.mem_of_getElem? (i := 771) (by decide +kernel)), by decide +kernel⟩
theorem gw_772 : Cond.static ⟨"CaseLayoutModel", "in", "(III)Z"⟩ ∈ gx_T := List.mem_filter.mpr ⟨List.mem_append_right _ (List.mem_of_getElem? (i := 772) (by decide +kernel)), by decide +kernel⟩
theorem gw_773 : Cond.code ⟨"CaseLayoutModel", "in", "(III)Z"⟩ prog_10_method_5_code 3 (some .boolean) ∈ gx_T := List.mem_filter.mpr ⟨List.mem_append_right _ (List.mem_of_getElem? (i := 773) (by decide +kernel)), by decide +kernel⟩
theorem gw_676 : Cond.fieldLink "CaseLayoutModel" 76 "CaseLayoutModel" "height" "I" ∈ gx_T := List.mem_filter.mpr ⟨List.mem_append_right _ (List.mem_of_getElem? (i := 676) (by decide +kernel)), by decide +kernel⟩
theorem gw_767 : Cond.methodLink "CaseLayoutModel" 102 ⟨"CaseLayoutModel", "isCell", "(II)Z"⟩ ∈ gx_T := List.mem_filter.mpr ⟨List.mem_append_right _ (List.mem_of_getElem? (i := 767) (by decide +kernel)), by decide +kernel⟩
theorem gw_769 : Cond.instanceMethod ⟨"CaseLayoutModel", "isCell", "(II)Z"⟩ ∈ gx_T := List.mem_filter.mpr ⟨List.mem_append_right _ (List.mem_of_getElem? (i := 769) (by decide +kernel)), by decide +kernel⟩
theorem gs_16 : Cond.selects "CaseLayoutModel" ⟨"CaseLayoutModel", "isCell", "(II)Z"⟩ ⟨"CaseLayoutModel", "isCell", "(II)Z"⟩ ∈ gx_T := List.mem_filter.mpr ⟨List.mem_append_left _ (List.mem_of_getElem? (i := 16) (by decide +kernel)), by decide +kernel⟩
theorem gw_770 : Cond.code ⟨"CaseLayoutModel", "isCell", "(II)Z"⟩ prog_10_method_6_code 3 (some .boolean) ∈ gx_T := List.mem_filter.mpr ⟨List.mem_append_right _ (List.mem_of_getElem? (i := 770) (by decide +kernel)), by decide +kernel⟩
theorem gw_674 : Cond.fieldLink "CaseLayoutModel" 79 "CaseLayoutModel" "thrown" "I" ∈ gx_T := List.mem_filter.mpr ⟨List.mem_append_right _ (List.mem_of_getElem? (i := 674) (by decide +kernel)), by decide +kernel⟩
theorem gw_774 : Cond.methodLink "CaseLayoutModel" 106 ⟨"CaseLayoutModel", "throwing", "(ZZZ)Z"⟩ ∈ gx_T := List.mem_filter.mpr ⟨List.mem_append_right _ (List.mem_of_getElem? (i := 774) (by decide +kernel)), by decide +kernel⟩
theorem gw_776 : Cond.instanceMethod ⟨"CaseLayoutModel", "throwing", "(ZZZ)Z"⟩ ∈ gx_T := List.mem_filter.mpr ⟨List.mem_append_right _ (List.mem_of_getElem? (i := 776) (by decide +kernel)), by decide +kernel⟩
theorem gs_17 : Cond.selects "CaseLayoutModel" ⟨"CaseLayoutModel", "throwing", "(ZZZ)Z"⟩ ⟨"CaseLayoutModel", "throwing", "(ZZZ)Z"⟩ ∈ gx_T := List.mem_filter.mpr ⟨List.mem_append_left _ (List.mem_of_getElem? (i := 17) (by decide +kernel)), by decide +kernel⟩
theorem gw_777 : Cond.code ⟨"CaseLayoutModel", "throwing", "(ZZZ)Z"⟩ prog_10_method_4_code 4 (some .boolean) ∈ gx_T := List.mem_filter.mpr ⟨List.mem_append_right _ (List.mem_of_getElem? (i := 777) (by decide +kernel)), by decide +kernel⟩
theorem gw_689 : Cond.fieldLink "CaseLayoutModel" 96 "CaseLayoutModel" "exits" "I" ∈ gx_T := List.mem_filter.mpr ⟨List.mem_append_right _ (List.mem_of_getElem? (i := 689) (by decide +kernel)), by decide +kernel⟩
theorem gw_690 : Cond.fieldLink "CaseLayoutModel" 41 "CaseLayoutModel" "exitX" "[I" ∈ gx_T := List.mem_filter.mpr ⟨List.mem_append_right _ (List.mem_of_getElem? (i := 690) (by decide +kernel)), by decide +kernel⟩
theorem gw_691 : Cond.fieldLink "CaseLayoutModel" 44 "CaseLayoutModel" "exitY" "[I" ∈ gx_T := List.mem_filter.mpr ⟨List.mem_append_right _ (List.mem_of_getElem? (i := 691) (by decide +kernel)), by decide +kernel⟩
theorem gw_778 : Cond.methodLink "CaseLayoutModel" 110 ⟨"CaseLayoutModel", "isExit", "(II)Z"⟩ ∈ gx_T := List.mem_filter.mpr ⟨List.mem_append_right _ (List.mem_of_getElem? (i := 778) (by decide +kernel)), by decide +kernel⟩
theorem gw_780 : Cond.instanceMethod ⟨"CaseLayoutModel", "isExit", "(II)Z"⟩ ∈ gx_T := List.mem_filter.mpr ⟨List.mem_append_right _ (List.mem_of_getElem? (i := 780) (by decide +kernel)), by decide +kernel⟩
theorem gs_18 : Cond.selects "CaseLayoutModel" ⟨"CaseLayoutModel", "isExit", "(II)Z"⟩ ⟨"CaseLayoutModel", "isExit", "(II)Z"⟩ ∈ gx_T := List.mem_filter.mpr ⟨List.mem_append_left _ (List.mem_of_getElem? (i := 18) (by decide +kernel)), by decide +kernel⟩
theorem gw_781 : Cond.code ⟨"CaseLayoutModel", "isExit", "(II)Z"⟩ prog_10_method_9_code 5 (some .boolean) ∈ gx_T := List.mem_filter.mpr ⟨List.mem_append_right _ (List.mem_of_getElem? (i := 781) (by decide +kernel)), by decide +kernel⟩
theorem gw_685 : Cond.fieldLink "CaseLayoutModel" 99 "CaseLayoutModel" "places" "I" ∈ gx_T := List.mem_filter.mpr ⟨List.mem_append_right _ (List.mem_of_getElem? (i := 685) (by decide +kernel)), by decide +kernel⟩
theorem gw_686 : Cond.fieldLink "CaseLayoutModel" 32 "CaseLayoutModel" "placeX" "[I" ∈ gx_T := List.mem_filter.mpr ⟨List.mem_append_right _ (List.mem_of_getElem? (i := 686) (by decide +kernel)), by decide +kernel⟩
theorem gw_687 : Cond.fieldLink "CaseLayoutModel" 35 "CaseLayoutModel" "placeY" "[I" ∈ gx_T := List.mem_filter.mpr ⟨List.mem_append_right _ (List.mem_of_getElem? (i := 687) (by decide +kernel)), by decide +kernel⟩
theorem gw_782 : Cond.methodLink "CaseLayoutModel" 113 ⟨"CaseLayoutModel", "isPlace", "(II)Z"⟩ ∈ gx_T := List.mem_filter.mpr ⟨List.mem_append_right _ (List.mem_of_getElem? (i := 782) (by decide +kernel)), by decide +kernel⟩
theorem gw_784 : Cond.instanceMethod ⟨"CaseLayoutModel", "isPlace", "(II)Z"⟩ ∈ gx_T := List.mem_filter.mpr ⟨List.mem_append_right _ (List.mem_of_getElem? (i := 784) (by decide +kernel)), by decide +kernel⟩
theorem gs_19 : Cond.selects "CaseLayoutModel" ⟨"CaseLayoutModel", "isPlace", "(II)Z"⟩ ⟨"CaseLayoutModel", "isPlace", "(II)Z"⟩ ∈ gx_T := List.mem_filter.mpr ⟨List.mem_append_left _ (List.mem_of_getElem? (i := 19) (by decide +kernel)), by decide +kernel⟩
theorem gw_785 : Cond.code ⟨"CaseLayoutModel", "isPlace", "(II)Z"⟩ prog_10_method_10_code 5 (some .boolean) ∈ gx_T := List.mem_filter.mpr ⟨List.mem_append_right _ (List.mem_of_getElem? (i := 785) (by decide +kernel)), by decide +kernel⟩
theorem gw_677 : Cond.fieldLink "CaseLayoutModel" 7 "CaseLayoutModel" "walls" "[Z" ∈ gx_T := List.mem_filter.mpr ⟨List.mem_append_right _ (List.mem_of_getElem? (i := 677) (by decide +kernel)), by decide +kernel⟩
theorem gw_698 : Cond.fieldLink "CaseLayoutModel" 89 "CaseLayoutModel" "found" "Z" ∈ gx_T := List.mem_filter.mpr ⟨List.mem_append_right _ (List.mem_of_getElem? (i := 698) (by decide +kernel)), by decide +kernel⟩
theorem gw_700 : Cond.fieldLink "CaseLayoutModel" 93 "CaseLayoutModel" "nodes" "I" ∈ gx_T := List.mem_filter.mpr ⟨List.mem_append_right _ (List.mem_of_getElem? (i := 700) (by decide +kernel)), by decide +kernel⟩
theorem gw_786 : Cond.methodLink "CaseLayoutModel" 116 ⟨"CaseLayoutModel", "forget", "()V"⟩ ∈ gx_T := List.mem_filter.mpr ⟨List.mem_append_right _ (List.mem_of_getElem? (i := 786) (by decide +kernel)), by decide +kernel⟩
theorem gw_788 : Cond.instanceMethod ⟨"CaseLayoutModel", "forget", "()V"⟩ ∈ gx_T := List.mem_filter.mpr ⟨List.mem_append_right _ (List.mem_of_getElem? (i := 788) (by decide +kernel)), by decide +kernel⟩
theorem gs_20 : Cond.selects "CaseLayoutModel" ⟨"CaseLayoutModel", "forget", "()V"⟩ ⟨"CaseLayoutModel", "forget", "()V"⟩ ∈ gx_T := List.mem_filter.mpr ⟨List.mem_append_left _ (List.mem_of_getElem? (i := 20) (by decide +kernel)), by decide +kernel⟩
theorem gw_789 : Cond.code ⟨"CaseLayoutModel", "forget", "()V"⟩ prog_10_method_8_code 1 none ∈ gx_T := List.mem_filter.mpr ⟨List.mem_append_right _ (List.mem_of_getElem? (i := 789) (by decide +kernel)), by decide +kernel⟩
theorem gw_678 : Cond.fieldLink "CaseLayoutModel" 13 "CaseLayoutModel" "zones" "[I" ∈ gx_T := List.mem_filter.mpr ⟨List.mem_append_right _ (List.mem_of_getElem? (i := 678) (by decide +kernel)), by decide +kernel⟩
theorem gw_679 : Cond.fieldLink "CaseLayoutModel" 86 "CaseLayoutModel" "things" "I" ∈ gx_T := List.mem_filter.mpr ⟨List.mem_append_right _ (List.mem_of_getElem? (i := 679) (by decide +kernel)), by decide +kernel⟩
theorem gw_680 : Cond.fieldLink "CaseLayoutModel" 17 "CaseLayoutModel" "wide" "[I" ∈ gx_T := List.mem_filter.mpr ⟨List.mem_append_right _ (List.mem_of_getElem? (i := 680) (by decide +kernel)), by decide +kernel⟩
theorem gw_681 : Cond.fieldLink "CaseLayoutModel" 20 "CaseLayoutModel" "high" "[I" ∈ gx_T := List.mem_filter.mpr ⟨List.mem_append_right _ (List.mem_of_getElem? (i := 681) (by decide +kernel)), by decide +kernel⟩
theorem gw_682 : Cond.fieldLink "CaseLayoutModel" 23 "CaseLayoutModel" "classes" "[I" ∈ gx_T := List.mem_filter.mpr ⟨List.mem_append_right _ (List.mem_of_getElem? (i := 682) (by decide +kernel)), by decide +kernel⟩
theorem gw_802 : Cond.methodLink "CaseLayoutModel" 119 ⟨"CaseLayoutModel", "isThing", "(I)Z"⟩ ∈ gx_T := List.mem_filter.mpr ⟨List.mem_append_right _ (List.mem_of_getElem? (i := 802) (by decide +kernel)), by decide +kernel⟩
theorem gw_804 : Cond.instanceMethod ⟨"CaseLayoutModel", "isThing", "(I)Z"⟩ ∈ gx_T := List.mem_filter.mpr ⟨List.mem_append_right _ (List.mem_of_getElem? (i := 804) (by decide +kernel)), by decide +kernel⟩
theorem gs_21 : Cond.selects "CaseLayoutModel" ⟨"CaseLayoutModel", "isThing", "(I)Z"⟩ ⟨"CaseLayoutModel", "isThing", "(I)Z"⟩ ∈ gx_T := List.mem_filter.mpr ⟨List.mem_append_left _ (List.mem_of_getElem? (i := 21) (by decide +kernel)), by decide +kernel⟩
theorem gw_805 : Cond.code ⟨"CaseLayoutModel", "isThing", "(I)Z"⟩ prog_10_method_7_code 2 (some .boolean) ∈ gx_T := List.mem_filter.mpr ⟨List.mem_append_right _ (List.mem_of_getElem? (i := 805) (by decide +kernel)), by decide +kernel⟩
theorem gw_683 : Cond.fieldLink "CaseLayoutModel" 26 "CaseLayoutModel" "apart" "[I" ∈ gx_T := List.mem_filter.mpr ⟨List.mem_append_right _ (List.mem_of_getElem? (i := 683) (by decide +kernel)), by decide +kernel⟩
theorem gw_684 : Cond.fieldLink "CaseLayoutModel" 29 "CaseLayoutModel" "wishes" "[I" ∈ gx_T := List.mem_filter.mpr ⟨List.mem_append_right _ (List.mem_of_getElem? (i := 684) (by decide +kernel)), by decide +kernel⟩
theorem gw_688 : Cond.fieldLink "CaseLayoutModel" 38 "CaseLayoutModel" "sees" "[Z" ∈ gx_T := List.mem_filter.mpr ⟨List.mem_append_right _ (List.mem_of_getElem? (i := 688) (by decide +kernel)), by decide +kernel⟩
theorem gw_692 : Cond.fieldLink "CaseLayoutModel" 47 "CaseLayoutModel" "most" "I" ∈ gx_T := List.mem_filter.mpr ⟨List.mem_append_right _ (List.mem_of_getElem? (i := 692) (by decide +kernel)), by decide +kernel⟩
theorem gw_695 : Cond.fieldLink "CaseLayoutModel" 57 "CaseLayoutModel" "next" "[I" ∈ gx_T := List.mem_filter.mpr ⟨List.mem_append_right _ (List.mem_of_getElem? (i := 695) (by decide +kernel)), by decide +kernel⟩
theorem gw_693 : Cond.fieldLink "CaseLayoutModel" 51 "CaseLayoutModel" "atX" "[I" ∈ gx_T := List.mem_filter.mpr ⟨List.mem_append_right _ (List.mem_of_getElem? (i := 693) (by decide +kernel)), by decide +kernel⟩
theorem gw_694 : Cond.fieldLink "CaseLayoutModel" 54 "CaseLayoutModel" "atY" "[I" ∈ gx_T := List.mem_filter.mpr ⟨List.mem_append_right _ (List.mem_of_getElem? (i := 694) (by decide +kernel)), by decide +kernel⟩
theorem gw_887 : Cond.methodLink "CaseLayoutModel" 127 ⟨"CaseLayoutModel", "meets", "(II)Z"⟩ ∈ gx_T := List.mem_filter.mpr ⟨List.mem_append_right _ (List.mem_of_getElem? (i := 887) (by decide +kernel)), by decide +kernel⟩
theorem gw_889 : Cond.instanceMethod ⟨"CaseLayoutModel", "meets", "(II)Z"⟩ ∈ gx_T := List.mem_filter.mpr ⟨List.mem_append_right _ (List.mem_of_getElem? (i := 889) (by decide +kernel)), by decide +kernel⟩
theorem gs_34 : Cond.selects "CaseLayoutModel" ⟨"CaseLayoutModel", "meets", "(II)Z"⟩ ⟨"CaseLayoutModel", "meets", "(II)Z"⟩ ∈ gx_T := List.mem_filter.mpr ⟨List.mem_append_left _ (List.mem_of_getElem? (i := 34) (by decide +kernel)), by decide +kernel⟩
theorem gw_890 : Cond.code ⟨"CaseLayoutModel", "meets", "(II)Z"⟩ prog_10_method_22_code 3 (some .boolean) ∈ gx_T := List.mem_filter.mpr ⟨List.mem_append_right _ (List.mem_of_getElem? (i := 890) (by decide +kernel)), by decide +kernel⟩
theorem gw_880 : Cond.methodLink "CaseLayoutModel" 123 ⟨"CaseLayoutModel", "between", "(IIII)I"⟩ ∈ gx_T := List.mem_filter.mpr ⟨List.mem_append_right _ (List.mem_of_getElem? (i := 880) (by decide +kernel)), by decide +kernel⟩
theorem gw_881 : Cond.static ⟨"CaseLayoutModel", "between", "(IIII)I"⟩ ∈ gx_T := List.mem_filter.mpr ⟨List.mem_append_right _ (List.mem_of_getElem? (i := 881) (by decide +kernel)), by decide +kernel⟩
theorem gw_882 : Cond.code ⟨"CaseLayoutModel", "between", "(IIII)I"⟩ prog_10_method_20_code 4 (some .int) ∈ gx_T := List.mem_filter.mpr ⟨List.mem_append_right _ (List.mem_of_getElem? (i := 882) (by decide +kernel)), by decide +kernel⟩
theorem gw_876 : Cond.methodLink "CaseLayoutModel" 130 ⟨"CaseLayoutModel", "gap", "(II)I"⟩ ∈ gx_T := List.mem_filter.mpr ⟨List.mem_append_right _ (List.mem_of_getElem? (i := 876) (by decide +kernel)), by decide +kernel⟩
theorem gw_878 : Cond.instanceMethod ⟨"CaseLayoutModel", "gap", "(II)I"⟩ ∈ gx_T := List.mem_filter.mpr ⟨List.mem_append_right _ (List.mem_of_getElem? (i := 878) (by decide +kernel)), by decide +kernel⟩
theorem gs_32 : Cond.selects "CaseLayoutModel" ⟨"CaseLayoutModel", "gap", "(II)I"⟩ ⟨"CaseLayoutModel", "gap", "(II)I"⟩ ∈ gx_T := List.mem_filter.mpr ⟨List.mem_append_left _ (List.mem_of_getElem? (i := 32) (by decide +kernel)), by decide +kernel⟩
theorem gw_879 : Cond.code ⟨"CaseLayoutModel", "gap", "(II)I"⟩ prog_10_method_21_code 5 (some .int) ∈ gx_T := List.mem_filter.mpr ⟨List.mem_append_right _ (List.mem_of_getElem? (i := 879) (by decide +kernel)), by decide +kernel⟩
theorem gw_883 : Cond.methodLink "CaseLayoutModel" 173 ⟨"CaseLayoutModel", "lies", "(I)Z"⟩ ∈ gx_T := List.mem_filter.mpr ⟨List.mem_append_right _ (List.mem_of_getElem? (i := 883) (by decide +kernel)), by decide +kernel⟩
theorem gw_885 : Cond.instanceMethod ⟨"CaseLayoutModel", "lies", "(I)Z"⟩ ∈ gx_T := List.mem_filter.mpr ⟨List.mem_append_right _ (List.mem_of_getElem? (i := 885) (by decide +kernel)), by decide +kernel⟩
theorem gs_33 : Cond.selects "CaseLayoutModel" ⟨"CaseLayoutModel", "lies", "(I)Z"⟩ ⟨"CaseLayoutModel", "lies", "(I)Z"⟩ ∈ gx_T := List.mem_filter.mpr ⟨List.mem_append_left _ (List.mem_of_getElem? (i := 33) (by decide +kernel)), by decide +kernel⟩
theorem gw_886 : Cond.code ⟨"CaseLayoutModel", "lies", "(I)Z"⟩ prog_10_method_24_code 5 (some .boolean) ∈ gx_T := List.mem_filter.mpr ⟨List.mem_append_right _ (List.mem_of_getElem? (i := 886) (by decide +kernel)), by decide +kernel⟩
theorem gw_842 : Cond.methodLink "CaseLayoutModel" 137 ⟨"CaseLayoutModel", "covers", "(III)Z"⟩ ∈ gx_T := List.mem_filter.mpr ⟨List.mem_append_right _ (List.mem_of_getElem? (i := 842) (by decide +kernel)), by decide +kernel⟩
theorem gw_844 : Cond.instanceMethod ⟨"CaseLayoutModel", "covers", "(III)Z"⟩ ∈ gx_T := List.mem_filter.mpr ⟨List.mem_append_right _ (List.mem_of_getElem? (i := 844) (by decide +kernel)), by decide +kernel⟩
theorem gs_25 : Cond.selects "CaseLayoutModel" ⟨"CaseLayoutModel", "covers", "(III)Z"⟩ ⟨"CaseLayoutModel", "covers", "(III)Z"⟩ ∈ gx_T := List.mem_filter.mpr ⟨List.mem_append_left _ (List.mem_of_getElem? (i := 25) (by decide +kernel)), by decide +kernel⟩
theorem gw_845 : Cond.code ⟨"CaseLayoutModel", "covers", "(III)Z"⟩ prog_10_method_23_code 4 (some .boolean) ∈ gx_T := List.mem_filter.mpr ⟨List.mem_append_right _ (List.mem_of_getElem? (i := 845) (by decide +kernel)), by decide +kernel⟩
theorem gw_849 : Cond.methodLink "CaseLayoutModel" 134 ⟨"CaseLayoutModel", "cross", "(IIII)I"⟩ ∈ gx_T := List.mem_filter.mpr ⟨List.mem_append_right _ (List.mem_of_getElem? (i := 849) (by decide +kernel)), by decide +kernel⟩
theorem gw_850 : Cond.static ⟨"CaseLayoutModel", "cross", "(IIII)I"⟩ ∈ gx_T := List.mem_filter.mpr ⟨List.mem_append_right _ (List.mem_of_getElem? (i := 850) (by decide +kernel)), by decide +kernel⟩
theorem gw_851 : Cond.code ⟨"CaseLayoutModel", "cross", "(IIII)I"⟩ prog_10_method_25_code 4 (some .int) ∈ gx_T := List.mem_filter.mpr ⟨List.mem_append_right _ (List.mem_of_getElem? (i := 851) (by decide +kernel)), by decide +kernel⟩
theorem gw_846 : Cond.methodLink "CaseLayoutModel" 140 ⟨"CaseLayoutModel", "goesThrough", "(IIIIII)Z"⟩ ∈ gx_T := List.mem_filter.mpr ⟨List.mem_append_right _ (List.mem_of_getElem? (i := 846) (by decide +kernel)), by decide +kernel⟩
theorem gw_847 : Cond.static ⟨"CaseLayoutModel", "goesThrough", "(IIIIII)Z"⟩ ∈ gx_T := List.mem_filter.mpr ⟨List.mem_append_right _ (List.mem_of_getElem? (i := 847) (by decide +kernel)), by decide +kernel⟩
theorem gw_848 : Cond.code ⟨"CaseLayoutModel", "goesThrough", "(IIIIII)Z"⟩ prog_10_method_26_code 14 (some .boolean) ∈ gx_T := List.mem_filter.mpr ⟨List.mem_append_right _ (List.mem_of_getElem? (i := 848) (by decide +kernel)), by decide +kernel⟩
theorem gw_838 : Cond.methodLink "CaseLayoutModel" 150 ⟨"CaseLayoutModel", "isSeen", "(II)Z"⟩ ∈ gx_T := List.mem_filter.mpr ⟨List.mem_append_right _ (List.mem_of_getElem? (i := 838) (by decide +kernel)), by decide +kernel⟩
theorem gw_840 : Cond.instanceMethod ⟨"CaseLayoutModel", "isSeen", "(II)Z"⟩ ∈ gx_T := List.mem_filter.mpr ⟨List.mem_append_right _ (List.mem_of_getElem? (i := 840) (by decide +kernel)), by decide +kernel⟩
theorem gs_24 : Cond.selects "CaseLayoutModel" ⟨"CaseLayoutModel", "isSeen", "(II)Z"⟩ ⟨"CaseLayoutModel", "isSeen", "(II)Z"⟩ ∈ gx_T := List.mem_filter.mpr ⟨List.mem_append_left _ (List.mem_of_getElem? (i := 24) (by decide +kernel)), by decide +kernel⟩
theorem gw_841 : Cond.code ⟨"CaseLayoutModel", "isSeen", "(II)Z"⟩ prog_10_method_27_code 13 (some .boolean) ∈ gx_T := List.mem_filter.mpr ⟨List.mem_append_right _ (List.mem_of_getElem? (i := 841) (by decide +kernel)), by decide +kernel⟩
theorem gw_701 : Cond.fieldLink "CaseLayoutModel" 66 "CaseLayoutModel" "steps" "[I" ∈ gx_T := List.mem_filter.mpr ⟨List.mem_append_right _ (List.mem_of_getElem? (i := 701) (by decide +kernel)), by decide +kernel⟩
theorem gw_856 : Cond.methodLink "CaseLayoutModel" 144 ⟨"CaseLayoutModel", "isFree", "(II)Z"⟩ ∈ gx_T := List.mem_filter.mpr ⟨List.mem_append_right _ (List.mem_of_getElem? (i := 856) (by decide +kernel)), by decide +kernel⟩
theorem gw_858 : Cond.instanceMethod ⟨"CaseLayoutModel", "isFree", "(II)Z"⟩ ∈ gx_T := List.mem_filter.mpr ⟨List.mem_append_right _ (List.mem_of_getElem? (i := 858) (by decide +kernel)), by decide +kernel⟩
theorem gs_27 : Cond.selects "CaseLayoutModel" ⟨"CaseLayoutModel", "isFree", "(II)Z"⟩ ⟨"CaseLayoutModel", "isFree", "(II)Z"⟩ ∈ gx_T := List.mem_filter.mpr ⟨List.mem_append_left _ (List.mem_of_getElem? (i := 27) (by decide +kernel)), by decide +kernel⟩
theorem gw_859 : Cond.code ⟨"CaseLayoutModel", "isFree", "(II)Z"⟩ prog_10_method_28_code 5 (some .boolean) ∈ gx_T := List.mem_filter.mpr ⟨List.mem_append_right _ (List.mem_of_getElem? (i := 859) (by decide +kernel)), by decide +kernel⟩
theorem gw_860 : Cond.methodLink "CaseLayoutModel" 147 ⟨"CaseLayoutModel", "stepsFrom", "(II)I"⟩ ∈ gx_T := List.mem_filter.mpr ⟨List.mem_append_right _ (List.mem_of_getElem? (i := 860) (by decide +kernel)), by decide +kernel⟩
theorem gw_862 : Cond.instanceMethod ⟨"CaseLayoutModel", "stepsFrom", "(II)I"⟩ ∈ gx_T := List.mem_filter.mpr ⟨List.mem_append_right _ (List.mem_of_getElem? (i := 862) (by decide +kernel)), by decide +kernel⟩
theorem gs_28 : Cond.selects "CaseLayoutModel" ⟨"CaseLayoutModel", "stepsFrom", "(II)I"⟩ ⟨"CaseLayoutModel", "stepsFrom", "(II)I"⟩ ∈ gx_T := List.mem_filter.mpr ⟨List.mem_append_left _ (List.mem_of_getElem? (i := 28) (by decide +kernel)), by decide +kernel⟩
theorem gw_863 : Cond.code ⟨"CaseLayoutModel", "stepsFrom", "(II)I"⟩ prog_10_method_29_code 3 (some .int) ∈ gx_T := List.mem_filter.mpr ⟨List.mem_append_right _ (List.mem_of_getElem? (i := 863) (by decide +kernel)), by decide +kernel⟩
theorem gw_852 : Cond.methodLink "CaseLayoutModel" 153 ⟨"CaseLayoutModel", "measure", "()V"⟩ ∈ gx_T := List.mem_filter.mpr ⟨List.mem_append_right _ (List.mem_of_getElem? (i := 852) (by decide +kernel)), by decide +kernel⟩
theorem gw_854 : Cond.instanceMethod ⟨"CaseLayoutModel", "measure", "()V"⟩ ∈ gx_T := List.mem_filter.mpr ⟨List.mem_append_right _ (List.mem_of_getElem? (i := 854) (by decide +kernel)), by decide +kernel⟩
theorem gs_26 : Cond.selects "CaseLayoutModel" ⟨"CaseLayoutModel", "measure", "()V"⟩ ⟨"CaseLayoutModel", "measure", "()V"⟩ ∈ gx_T := List.mem_filter.mpr ⟨List.mem_append_left _ (List.mem_of_getElem? (i := 26) (by decide +kernel)), by decide +kernel⟩
theorem gw_855 : Cond.code ⟨"CaseLayoutModel", "measure", "()V"⟩ prog_10_method_30_code 6 none ∈ gx_T := List.mem_filter.mpr ⟨List.mem_append_right _ (List.mem_of_getElem? (i := 855) (by decide +kernel)), by decide +kernel⟩
theorem gw_864 : Cond.methodLink "CaseLayoutModel" 156 ⟨"CaseLayoutModel", "escapes", "(I)Z"⟩ ∈ gx_T := List.mem_filter.mpr ⟨List.mem_append_right _ (List.mem_of_getElem? (i := 864) (by decide +kernel)), by decide +kernel⟩
theorem gw_866 : Cond.instanceMethod ⟨"CaseLayoutModel", "escapes", "(I)Z"⟩ ∈ gx_T := List.mem_filter.mpr ⟨List.mem_append_right _ (List.mem_of_getElem? (i := 866) (by decide +kernel)), by decide +kernel⟩
theorem gs_29 : Cond.selects "CaseLayoutModel" ⟨"CaseLayoutModel", "escapes", "(I)Z"⟩ ⟨"CaseLayoutModel", "escapes", "(I)Z"⟩ ∈ gx_T := List.mem_filter.mpr ⟨List.mem_append_left _ (List.mem_of_getElem? (i := 29) (by decide +kernel)), by decide +kernel⟩
theorem gw_867 : Cond.code ⟨"CaseLayoutModel", "escapes", "(I)Z"⟩ prog_10_method_31_code 4 (some .boolean) ∈ gx_T := List.mem_filter.mpr ⟨List.mem_append_right _ (List.mem_of_getElem? (i := 867) (by decide +kernel)), by decide +kernel⟩
theorem gw_834 : Cond.methodLink "CaseLayoutModel" 166 ⟨"CaseLayoutModel", "isLayout", "()Z"⟩ ∈ gx_T := List.mem_filter.mpr ⟨List.mem_append_right _ (List.mem_of_getElem? (i := 834) (by decide +kernel)), by decide +kernel⟩
theorem gw_836 : Cond.instanceMethod ⟨"CaseLayoutModel", "isLayout", "()Z"⟩ ∈ gx_T := List.mem_filter.mpr ⟨List.mem_append_right _ (List.mem_of_getElem? (i := 836) (by decide +kernel)), by decide +kernel⟩
theorem gs_23 : Cond.selects "CaseLayoutModel" ⟨"CaseLayoutModel", "isLayout", "()Z"⟩ ⟨"CaseLayoutModel", "isLayout", "()Z"⟩ ∈ gx_T := List.mem_filter.mpr ⟨List.mem_append_left _ (List.mem_of_getElem? (i := 23) (by decide +kernel)), by decide +kernel⟩
theorem gw_837 : Cond.code ⟨"CaseLayoutModel", "isLayout", "()Z"⟩ prog_10_method_32_code 3 (some .boolean) ∈ gx_T := List.mem_filter.mpr ⟨List.mem_append_right _ (List.mem_of_getElem? (i := 837) (by decide +kernel)), by decide +kernel⟩
theorem gw_872 : Cond.methodLink "CaseLayoutModel" 159 ⟨"CaseLayoutModel", "worthNow", "()I"⟩ ∈ gx_T := List.mem_filter.mpr ⟨List.mem_append_right _ (List.mem_of_getElem? (i := 872) (by decide +kernel)), by decide +kernel⟩
theorem gw_874 : Cond.instanceMethod ⟨"CaseLayoutModel", "worthNow", "()I"⟩ ∈ gx_T := List.mem_filter.mpr ⟨List.mem_append_right _ (List.mem_of_getElem? (i := 874) (by decide +kernel)), by decide +kernel⟩
theorem gs_31 : Cond.selects "CaseLayoutModel" ⟨"CaseLayoutModel", "worthNow", "()I"⟩ ⟨"CaseLayoutModel", "worthNow", "()I"⟩ ∈ gx_T := List.mem_filter.mpr ⟨List.mem_append_left _ (List.mem_of_getElem? (i := 31) (by decide +kernel)), by decide +kernel⟩
theorem gw_875 : Cond.code ⟨"CaseLayoutModel", "worthNow", "()I"⟩ prog_10_method_33_code 4 (some .int) ∈ gx_T := List.mem_filter.mpr ⟨List.mem_append_right _ (List.mem_of_getElem? (i := 875) (by decide +kernel)), by decide +kernel⟩
theorem gw_699 : Cond.fieldLink "CaseLayoutModel" 163 "CaseLayoutModel" "worth" "I" ∈ gx_T := List.mem_filter.mpr ⟨List.mem_append_right _ (List.mem_of_getElem? (i := 699) (by decide +kernel)), by decide +kernel⟩
theorem gw_696 : Cond.fieldLink "CaseLayoutModel" 60 "CaseLayoutModel" "bestX" "[I" ∈ gx_T := List.mem_filter.mpr ⟨List.mem_append_right _ (List.mem_of_getElem? (i := 696) (by decide +kernel)), by decide +kernel⟩
theorem gw_697 : Cond.fieldLink "CaseLayoutModel" 63 "CaseLayoutModel" "bestY" "[I" ∈ gx_T := List.mem_filter.mpr ⟨List.mem_append_right _ (List.mem_of_getElem? (i := 697) (by decide +kernel)), by decide +kernel⟩
theorem gw_868 : Cond.methodLink "CaseLayoutModel" 170 ⟨"CaseLayoutModel", "keep", "()V"⟩ ∈ gx_T := List.mem_filter.mpr ⟨List.mem_append_right _ (List.mem_of_getElem? (i := 868) (by decide +kernel)), by decide +kernel⟩
theorem gw_870 : Cond.instanceMethod ⟨"CaseLayoutModel", "keep", "()V"⟩ ∈ gx_T := List.mem_filter.mpr ⟨List.mem_append_right _ (List.mem_of_getElem? (i := 870) (by decide +kernel)), by decide +kernel⟩
theorem gs_30 : Cond.selects "CaseLayoutModel" ⟨"CaseLayoutModel", "keep", "()V"⟩ ⟨"CaseLayoutModel", "keep", "()V"⟩ ∈ gx_T := List.mem_filter.mpr ⟨List.mem_append_left _ (List.mem_of_getElem? (i := 30) (by decide +kernel)), by decide +kernel⟩
theorem gw_871 : Cond.code ⟨"CaseLayoutModel", "keep", "()V"⟩ prog_10_method_34_code 3 none ∈ gx_T := List.mem_filter.mpr ⟨List.mem_append_right _ (List.mem_of_getElem? (i := 871) (by decide +kernel)), by decide +kernel⟩
theorem gw_830 : Cond.methodLink "CaseLayoutModel" 176 ⟨"CaseLayoutModel", "search", "(I)Z"⟩ ∈ gx_T := List.mem_filter.mpr ⟨List.mem_append_right _ (List.mem_of_getElem? (i := 830) (by decide +kernel)), by decide +kernel⟩
theorem gw_832 : Cond.instanceMethod ⟨"CaseLayoutModel", "search", "(I)Z"⟩ ∈ gx_T := List.mem_filter.mpr ⟨List.mem_append_right _ (List.mem_of_getElem? (i := 832) (by decide +kernel)), by decide +kernel⟩
theorem gs_22 : Cond.selects "CaseLayoutModel" ⟨"CaseLayoutModel", "search", "(I)Z"⟩ ⟨"CaseLayoutModel", "search", "(I)Z"⟩ ∈ gx_T := List.mem_filter.mpr ⟨List.mem_append_left _ (List.mem_of_getElem? (i := 22) (by decide +kernel)), by decide +kernel⟩
theorem gw_833 : Cond.code ⟨"CaseLayoutModel", "search", "(I)Z"⟩ prog_10_method_35_code 3 (some .boolean) ∈ gx_T := List.mem_filter.mpr ⟨List.mem_append_right _ (List.mem_of_getElem? (i := 833) (by decide +kernel)), by decide +kernel⟩
theorem gw_907 : Cond.methodLink "CaseLayoutModel" 179 ⟨"CaseLayoutModel", "layBest", "()V"⟩ ∈ gx_T := List.mem_filter.mpr ⟨List.mem_append_right _ (List.mem_of_getElem? (i := 907) (by decide +kernel)), by decide +kernel⟩
theorem gw_909 : Cond.instanceMethod ⟨"CaseLayoutModel", "layBest", "()V"⟩ ∈ gx_T := List.mem_filter.mpr ⟨List.mem_append_right _ (List.mem_of_getElem? (i := 909) (by decide +kernel)), by decide +kernel⟩
theorem gs_35 : Cond.selects "CaseLayoutModel" ⟨"CaseLayoutModel", "layBest", "()V"⟩ ⟨"CaseLayoutModel", "layBest", "()V"⟩ ∈ gx_T := List.mem_filter.mpr ⟨List.mem_append_left _ (List.mem_of_getElem? (i := 35) (by decide +kernel)), by decide +kernel⟩
theorem gw_910 : Cond.code ⟨"CaseLayoutModel", "layBest", "()V"⟩ prog_10_method_38_code 2 none ∈ gx_T := List.mem_filter.mpr ⟨List.mem_append_right _ (List.mem_of_getElem? (i := 910) (by decide +kernel)), by decide +kernel⟩
theorem gw_919 : Cond.methodLink "CaseLayoutModel" 182 ⟨"CaseLayoutModel", "wallCount", "()I"⟩ ∈ gx_T := List.mem_filter.mpr ⟨List.mem_append_right _ (List.mem_of_getElem? (i := 919) (by decide +kernel)), by decide +kernel⟩
theorem gw_921 : Cond.instanceMethod ⟨"CaseLayoutModel", "wallCount", "()I"⟩ ∈ gx_T := List.mem_filter.mpr ⟨List.mem_append_right _ (List.mem_of_getElem? (i := 921) (by decide +kernel)), by decide +kernel⟩
theorem gs_36 : Cond.selects "CaseLayoutModel" ⟨"CaseLayoutModel", "wallCount", "()I"⟩ ⟨"CaseLayoutModel", "wallCount", "()I"⟩ ∈ gx_T := List.mem_filter.mpr ⟨List.mem_append_left _ (List.mem_of_getElem? (i := 36) (by decide +kernel)), by decide +kernel⟩
theorem gw_922 : Cond.code ⟨"CaseLayoutModel", "wallCount", "()I"⟩ prog_10_method_43_code 3 (some .int) ∈ gx_T := List.mem_filter.mpr ⟨List.mem_append_right _ (List.mem_of_getElem? (i := 922) (by decide +kernel)), by decide +kernel⟩
theorem gw_246 : Cond.fieldLink "CaseLayout" 18 "CaseLayout" "grid" "LCaseLayout$Grid;" ∈ gx_T := List.mem_filter.mpr ⟨List.mem_append_right _ (List.mem_of_getElem? (i := 246) (by decide +kernel)), by decide +kernel⟩
theorem gw_288 : Cond.methodLink "CaseLayout" 212 ⟨"CaseLayout$Grid", "holds", "(II)Z"⟩ ∈ gx_T := List.mem_filter.mpr ⟨List.mem_append_right _ (List.mem_of_getElem? (i := 288) (by decide +kernel)), by decide +kernel⟩
theorem gw_292 : Cond.classLink "CaseLayout" 167 "java/lang/IndexOutOfBoundsException" ∈ gx_T := List.mem_filter.mpr ⟨List.mem_append_right _ (List.mem_of_getElem? (i := 292) (by decide +kernel)), by decide +kernel⟩
theorem gw_293 : Cond.instantiable "java/lang/IndexOutOfBoundsException" 6 ∈ gx_T := List.mem_filter.mpr ⟨List.mem_append_right _ (List.mem_of_getElem? (i := 293) (by decide +kernel)), by decide +kernel⟩
theorem gw_14 : Cond.initialized "java/lang/IndexOutOfBoundsException" ∈ gx_T := List.mem_filter.mpr ⟨List.mem_append_right _ (List.mem_of_getElem? (i := 14) (by decide +kernel)), by decide +kernel⟩
theorem gw_284 : Cond.methodLink "CaseLayout" 61 ⟨"CaseLayout", "needCell", "(II)V"⟩ ∈ gx_T := List.mem_filter.mpr ⟨List.mem_append_right _ (List.mem_of_getElem? (i := 284) (by decide +kernel)), by decide +kernel⟩
theorem gw_286 : Cond.instanceMethod ⟨"CaseLayout", "needCell", "(II)V"⟩ ∈ gx_T := List.mem_filter.mpr ⟨List.mem_append_right _ (List.mem_of_getElem? (i := 286) (by decide +kernel)), by decide +kernel⟩
theorem gs_0 : Cond.selects "CaseLayout" ⟨"CaseLayout", "needCell", "(II)V"⟩ ⟨"CaseLayout", "needCell", "(II)V"⟩ ∈ gx_T := List.mem_filter.mpr ⟨List.mem_append_left _ (List.mem_of_getElem? (i := 0) (by decide +kernel)), by decide +kernel⟩
theorem gw_287 : Cond.code ⟨"CaseLayout", "needCell", "(II)V"⟩ prog_1_method_18_code 3 none ∈ gx_T := List.mem_filter.mpr ⟨List.mem_append_right _ (List.mem_of_getElem? (i := 287) (by decide +kernel)), by decide +kernel⟩
theorem gw_360 : Cond.methodLink "CaseLayout" 64 ⟨"CaseLayout", "cellOf", "(II)I"⟩ ∈ gx_T := List.mem_filter.mpr ⟨List.mem_append_right _ (List.mem_of_getElem? (i := 360) (by decide +kernel)), by decide +kernel⟩
theorem gw_248 : Cond.fieldLink "CaseLayout" 32 "CaseLayout" "places" "LCaseLayout$Places;" ∈ gx_T := List.mem_filter.mpr ⟨List.mem_append_right _ (List.mem_of_getElem? (i := 248) (by decide +kernel)), by decide +kernel⟩
theorem gw_5 : Cond.initialized "CaseLayout$Places" ∈ gx_T := List.mem_filter.mpr ⟨List.mem_append_right _ (List.mem_of_getElem? (i := 5) (by decide +kernel)), by decide +kernel⟩
theorem gw_363 : Cond.methodLink "CaseLayout" 72 ⟨"CaseLayout$Places", "standOn", "(I)Z"⟩ ∈ gx_T := List.mem_filter.mpr ⟨List.mem_append_right _ (List.mem_of_getElem? (i := 363) (by decide +kernel)), by decide +kernel⟩
theorem gw_364 : Cond.instanceMethod ⟨"CaseLayout$Places", "standOn", "(I)Z"⟩ ∈ gx_T := List.mem_filter.mpr ⟨List.mem_append_right _ (List.mem_of_getElem? (i := 364) (by decide +kernel)), by decide +kernel⟩
theorem gw_365 : Cond.selects "CaseLayout$Places" ⟨"CaseLayout$Places", "standOn", "(I)Z"⟩ ⟨"CaseLayout$Places", "standOn", "(I)Z"⟩ ∈ gx_T := List.mem_filter.mpr ⟨List.mem_append_right _ (List.mem_of_getElem? (i := 365) (by decide +kernel)), by decide +kernel⟩
theorem gw_366 : Cond.code ⟨"CaseLayout$Places", "standOn", "(I)Z"⟩ prog_6_method_3_code 3 (some .boolean) ∈ gx_T := List.mem_filter.mpr ⟨List.mem_append_right _ (List.mem_of_getElem? (i := 366) (by decide +kernel)), by decide +kernel⟩
theorem gw_249 : Cond.fieldLink "CaseLayout" 39 "CaseLayout" "exits" "LCaseLayout$Exits;" ∈ gx_T := List.mem_filter.mpr ⟨List.mem_append_right _ (List.mem_of_getElem? (i := 249) (by decide +kernel)), by decide +kernel⟩
theorem gw_6 : Cond.initialized "CaseLayout$Exits" ∈ gx_T := List.mem_filter.mpr ⟨List.mem_append_right _ (List.mem_of_getElem? (i := 6) (by decide +kernel)), by decide +kernel⟩
theorem gw_368 : Cond.methodLink "CaseLayout" 76 ⟨"CaseLayout$Exits", "standOn", "(I)Z"⟩ ∈ gx_T := List.mem_filter.mpr ⟨List.mem_append_right _ (List.mem_of_getElem? (i := 368) (by decide +kernel)), by decide +kernel⟩
theorem gw_369 : Cond.instanceMethod ⟨"CaseLayout$Exits", "standOn", "(I)Z"⟩ ∈ gx_T := List.mem_filter.mpr ⟨List.mem_append_right _ (List.mem_of_getElem? (i := 369) (by decide +kernel)), by decide +kernel⟩
theorem gw_370 : Cond.selects "CaseLayout$Exits" ⟨"CaseLayout$Exits", "standOn", "(I)Z"⟩ ⟨"CaseLayout$Exits", "standOn", "(I)Z"⟩ ∈ gx_T := List.mem_filter.mpr ⟨List.mem_append_right _ (List.mem_of_getElem? (i := 370) (by decide +kernel)), by decide +kernel⟩
theorem gw_371 : Cond.code ⟨"CaseLayout$Exits", "standOn", "(I)Z"⟩ prog_2_method_3_code 3 (some .boolean) ∈ gx_T := List.mem_filter.mpr ⟨List.mem_append_right _ (List.mem_of_getElem? (i := 371) (by decide +kernel)), by decide +kernel⟩
theorem gw_372 : Cond.methodLink "CaseLayout" 77 ⟨"CaseLayout$Grid", "setWall", "(IZ)V"⟩ ∈ gx_T := List.mem_filter.mpr ⟨List.mem_append_right _ (List.mem_of_getElem? (i := 372) (by decide +kernel)), by decide +kernel⟩
theorem gw_373 : Cond.instanceMethod ⟨"CaseLayout$Grid", "setWall", "(IZ)V"⟩ ∈ gx_T := List.mem_filter.mpr ⟨List.mem_append_right _ (List.mem_of_getElem? (i := 373) (by decide +kernel)), by decide +kernel⟩
theorem gw_374 : Cond.selects "CaseLayout$Grid" ⟨"CaseLayout$Grid", "setWall", "(IZ)V"⟩ ⟨"CaseLayout$Grid", "setWall", "(IZ)V"⟩ ∈ gx_T := List.mem_filter.mpr ⟨List.mem_append_right _ (List.mem_of_getElem? (i := 374) (by decide +kernel)), by decide +kernel⟩
theorem gw_375 : Cond.code ⟨"CaseLayout$Grid", "setWall", "(IZ)V"⟩ prog_4_method_3_code 3 none ∈ gx_T := List.mem_filter.mpr ⟨List.mem_append_right _ (List.mem_of_getElem? (i := 375) (by decide +kernel)), by decide +kernel⟩
theorem gw_251 : Cond.fieldLink "CaseLayout" 57 "CaseLayout" "search" "LCaseLayout$Search;" ∈ gx_T := List.mem_filter.mpr ⟨List.mem_append_right _ (List.mem_of_getElem? (i := 251) (by decide +kernel)), by decide +kernel⟩
theorem gw_376 : Cond.methodLink "CaseLayout" 81 ⟨"CaseLayout$Search", "forget", "()V"⟩ ∈ gx_T := List.mem_filter.mpr ⟨List.mem_append_right _ (List.mem_of_getElem? (i := 376) (by decide +kernel)), by decide +kernel⟩
theorem gw_391 : Cond.classLink "CaseLayout" 122 "java/lang/IllegalArgumentException" ∈ gx_T := List.mem_filter.mpr ⟨List.mem_append_right _ (List.mem_of_getElem? (i := 391) (by decide +kernel)), by decide +kernel⟩
theorem gw_392 : Cond.instantiable "java/lang/IllegalArgumentException" 6 ∈ gx_T := List.mem_filter.mpr ⟨List.mem_append_right _ (List.mem_of_getElem? (i := 392) (by decide +kernel)), by decide +kernel⟩
theorem gw_15 : Cond.initialized "java/lang/IllegalArgumentException" ∈ gx_T := List.mem_filter.mpr ⟨List.mem_append_right _ (List.mem_of_getElem? (i := 15) (by decide +kernel)), by decide +kernel⟩
theorem gw_388 : Cond.methodLink "CaseLayout" 84 ⟨"CaseLayout", "needWithin", "(III)V"⟩ ∈ gx_T := List.mem_filter.mpr ⟨List.mem_append_right _ (List.mem_of_getElem? (i := 388) (by decide +kernel)), by decide +kernel⟩
theorem gw_389 : Cond.static ⟨"CaseLayout", "needWithin", "(III)V"⟩ ∈ gx_T := List.mem_filter.mpr ⟨List.mem_append_right _ (List.mem_of_getElem? (i := 389) (by decide +kernel)), by decide +kernel⟩
theorem gw_390 : Cond.code ⟨"CaseLayout", "needWithin", "(III)V"⟩ prog_1_method_23_code 3 none ∈ gx_T := List.mem_filter.mpr ⟨List.mem_append_right _ (List.mem_of_getElem? (i := 390) (by decide +kernel)), by decide +kernel⟩
theorem gw_247 : Cond.fieldLink "CaseLayout" 25 "CaseLayout" "things" "LCaseLayout$Things;" ∈ gx_T := List.mem_filter.mpr ⟨List.mem_append_right _ (List.mem_of_getElem? (i := 247) (by decide +kernel)), by decide +kernel⟩
theorem gw_4 : Cond.initialized "CaseLayout$Things" ∈ gx_T := List.mem_filter.mpr ⟨List.mem_append_right _ (List.mem_of_getElem? (i := 4) (by decide +kernel)), by decide +kernel⟩
theorem gw_431 : Cond.methodLink "CaseLayout" 103 ⟨"CaseLayout$Things", "add", "(III)I"⟩ ∈ gx_T := List.mem_filter.mpr ⟨List.mem_append_right _ (List.mem_of_getElem? (i := 431) (by decide +kernel)), by decide +kernel⟩
theorem gw_432 : Cond.instanceMethod ⟨"CaseLayout$Things", "add", "(III)I"⟩ ∈ gx_T := List.mem_filter.mpr ⟨List.mem_append_right _ (List.mem_of_getElem? (i := 432) (by decide +kernel)), by decide +kernel⟩
theorem gw_433 : Cond.selects "CaseLayout$Things" ⟨"CaseLayout$Things", "add", "(III)I"⟩ ⟨"CaseLayout$Things", "add", "(III)I"⟩ ∈ gx_T := List.mem_filter.mpr ⟨List.mem_append_right _ (List.mem_of_getElem? (i := 433) (by decide +kernel)), by decide +kernel⟩
theorem gw_434 : Cond.code ⟨"CaseLayout$Things", "add", "(III)I"⟩ prog_8_method_2_code 5 (some .int) ∈ gx_T := List.mem_filter.mpr ⟨List.mem_append_right _ (List.mem_of_getElem? (i := 434) (by decide +kernel)), by decide +kernel⟩
theorem gw_415 : Cond.classLink "CaseLayout" 96 "java/lang/IllegalStateException" ∈ gx_T := List.mem_filter.mpr ⟨List.mem_append_right _ (List.mem_of_getElem? (i := 415) (by decide +kernel)), by decide +kernel⟩
theorem gw_416 : Cond.instantiable "java/lang/IllegalStateException" 6 ∈ gx_T := List.mem_filter.mpr ⟨List.mem_append_right _ (List.mem_of_getElem? (i := 416) (by decide +kernel)), by decide +kernel⟩
theorem gw_16 : Cond.initialized "java/lang/IllegalStateException" ∈ gx_T := List.mem_filter.mpr ⟨List.mem_append_right _ (List.mem_of_getElem? (i := 16) (by decide +kernel)), by decide +kernel⟩
theorem gw_446 : Cond.methodLink "CaseLayout" 133 ⟨"CaseLayout", "needThing", "(I)V"⟩ ∈ gx_T := List.mem_filter.mpr ⟨List.mem_append_right _ (List.mem_of_getElem? (i := 446) (by decide +kernel)), by decide +kernel⟩
theorem gw_448 : Cond.instanceMethod ⟨"CaseLayout", "needThing", "(I)V"⟩ ∈ gx_T := List.mem_filter.mpr ⟨List.mem_append_right _ (List.mem_of_getElem? (i := 448) (by decide +kernel)), by decide +kernel⟩
theorem gs_3 : Cond.selects "CaseLayout" ⟨"CaseLayout", "needThing", "(I)V"⟩ ⟨"CaseLayout", "needThing", "(I)V"⟩ ∈ gx_T := List.mem_filter.mpr ⟨List.mem_append_left _ (List.mem_of_getElem? (i := 3) (by decide +kernel)), by decide +kernel⟩
theorem gw_449 : Cond.code ⟨"CaseLayout", "needThing", "(I)V"⟩ prog_1_method_19_code 2 none ∈ gx_T := List.mem_filter.mpr ⟨List.mem_append_right _ (List.mem_of_getElem? (i := 449) (by decide +kernel)), by decide +kernel⟩
theorem gw_442 : Cond.methodLink "CaseLayout" 106 ⟨"CaseLayout", "needPair", "(II)V"⟩ ∈ gx_T := List.mem_filter.mpr ⟨List.mem_append_right _ (List.mem_of_getElem? (i := 442) (by decide +kernel)), by decide +kernel⟩
theorem gw_444 : Cond.instanceMethod ⟨"CaseLayout", "needPair", "(II)V"⟩ ∈ gx_T := List.mem_filter.mpr ⟨List.mem_append_right _ (List.mem_of_getElem? (i := 444) (by decide +kernel)), by decide +kernel⟩
theorem gs_2 : Cond.selects "CaseLayout" ⟨"CaseLayout", "needPair", "(II)V"⟩ ⟨"CaseLayout", "needPair", "(II)V"⟩ ∈ gx_T := List.mem_filter.mpr ⟨List.mem_append_left _ (List.mem_of_getElem? (i := 2) (by decide +kernel)), by decide +kernel⟩
theorem gw_445 : Cond.code ⟨"CaseLayout", "needPair", "(II)V"⟩ prog_1_method_21_code 3 none ∈ gx_T := List.mem_filter.mpr ⟨List.mem_append_right _ (List.mem_of_getElem? (i := 445) (by decide +kernel)), by decide +kernel⟩
theorem gw_452 : Cond.methodLink "CaseLayout" 112 ⟨"CaseLayout", "setBoth", "([IIII)I"⟩ ∈ gx_T := List.mem_filter.mpr ⟨List.mem_append_right _ (List.mem_of_getElem? (i := 452) (by decide +kernel)), by decide +kernel⟩
theorem gw_453 : Cond.static ⟨"CaseLayout", "setBoth", "([IIII)I"⟩ ∈ gx_T := List.mem_filter.mpr ⟨List.mem_append_right _ (List.mem_of_getElem? (i := 453) (by decide +kernel)), by decide +kernel⟩
theorem gw_454 : Cond.code ⟨"CaseLayout", "setBoth", "([IIII)I"⟩ prog_1_method_28_code 5 (some .int) ∈ gx_T := List.mem_filter.mpr ⟨List.mem_append_right _ (List.mem_of_getElem? (i := 454) (by decide +kernel)), by decide +kernel⟩
theorem gw_474 : Cond.methodLink "CaseLayout" 127 ⟨"CaseLayout$Places", "add", "(II)I"⟩ ∈ gx_T := List.mem_filter.mpr ⟨List.mem_append_right _ (List.mem_of_getElem? (i := 474) (by decide +kernel)), by decide +kernel⟩
theorem gw_475 : Cond.instanceMethod ⟨"CaseLayout$Places", "add", "(II)I"⟩ ∈ gx_T := List.mem_filter.mpr ⟨List.mem_append_right _ (List.mem_of_getElem? (i := 475) (by decide +kernel)), by decide +kernel⟩
theorem gw_476 : Cond.selects "CaseLayout$Places" ⟨"CaseLayout$Places", "add", "(II)I"⟩ ⟨"CaseLayout$Places", "add", "(II)I"⟩ ∈ gx_T := List.mem_filter.mpr ⟨List.mem_append_right _ (List.mem_of_getElem? (i := 476) (by decide +kernel)), by decide +kernel⟩
theorem gw_477 : Cond.code ⟨"CaseLayout$Places", "add", "(II)I"⟩ prog_6_method_2_code 4 (some .int) ∈ gx_T := List.mem_filter.mpr ⟨List.mem_append_right _ (List.mem_of_getElem? (i := 477) (by decide +kernel)), by decide +kernel⟩
theorem gw_485 : Cond.methodLink "CaseLayout" 129 ⟨"CaseLayout", "needPlace", "(I)V"⟩ ∈ gx_T := List.mem_filter.mpr ⟨List.mem_append_right _ (List.mem_of_getElem? (i := 485) (by decide +kernel)), by decide +kernel⟩
theorem gw_487 : Cond.instanceMethod ⟨"CaseLayout", "needPlace", "(I)V"⟩ ∈ gx_T := List.mem_filter.mpr ⟨List.mem_append_right _ (List.mem_of_getElem? (i := 487) (by decide +kernel)), by decide +kernel⟩
theorem gs_4 : Cond.selects "CaseLayout" ⟨"CaseLayout", "needPlace", "(I)V"⟩ ⟨"CaseLayout", "needPlace", "(I)V"⟩ ∈ gx_T := List.mem_filter.mpr ⟨List.mem_append_left _ (List.mem_of_getElem? (i := 4) (by decide +kernel)), by decide +kernel⟩
theorem gw_488 : Cond.code ⟨"CaseLayout", "needPlace", "(I)V"⟩ prog_1_method_20_code 2 none ∈ gx_T := List.mem_filter.mpr ⟨List.mem_append_right _ (List.mem_of_getElem? (i := 488) (by decide +kernel)), by decide +kernel⟩
theorem gw_490 : Cond.methodLink "CaseLayout" 136 ⟨"CaseLayout", "sightOf", "(II)I"⟩ ∈ gx_T := List.mem_filter.mpr ⟨List.mem_append_right _ (List.mem_of_getElem? (i := 490) (by decide +kernel)), by decide +kernel⟩
theorem gw_502 : Cond.methodLink "CaseLayout" 147 ⟨"CaseLayout$Exits", "add", "(I)I"⟩ ∈ gx_T := List.mem_filter.mpr ⟨List.mem_append_right _ (List.mem_of_getElem? (i := 502) (by decide +kernel)), by decide +kernel⟩
theorem gw_503 : Cond.instanceMethod ⟨"CaseLayout$Exits", "add", "(I)I"⟩ ∈ gx_T := List.mem_filter.mpr ⟨List.mem_append_right _ (List.mem_of_getElem? (i := 503) (by decide +kernel)), by decide +kernel⟩
theorem gw_504 : Cond.selects "CaseLayout$Exits" ⟨"CaseLayout$Exits", "add", "(I)I"⟩ ⟨"CaseLayout$Exits", "add", "(I)I"⟩ ∈ gx_T := List.mem_filter.mpr ⟨List.mem_append_right _ (List.mem_of_getElem? (i := 504) (by decide +kernel)), by decide +kernel⟩
theorem gw_505 : Cond.code ⟨"CaseLayout$Exits", "add", "(I)I"⟩ prog_2_method_2_code 2 (some .int) ∈ gx_T := List.mem_filter.mpr ⟨List.mem_append_right _ (List.mem_of_getElem? (i := 505) (by decide +kernel)), by decide +kernel⟩
theorem gw_520 : Cond.methodLink "CaseLayout" 153 ⟨"CaseLayout$Search", "begin", "(I)V"⟩ ∈ gx_T := List.mem_filter.mpr ⟨List.mem_append_right _ (List.mem_of_getElem? (i := 520) (by decide +kernel)), by decide +kernel⟩
theorem gw_521 : Cond.instanceMethod ⟨"CaseLayout$Search", "begin", "(I)V"⟩ ∈ gx_T := List.mem_filter.mpr ⟨List.mem_append_right _ (List.mem_of_getElem? (i := 521) (by decide +kernel)), by decide +kernel⟩
theorem gw_522 : Cond.selects "CaseLayout$Search" ⟨"CaseLayout$Search", "begin", "(I)V"⟩ ⟨"CaseLayout$Search", "begin", "(I)V"⟩ ∈ gx_T := List.mem_filter.mpr ⟨List.mem_append_right _ (List.mem_of_getElem? (i := 522) (by decide +kernel)), by decide +kernel⟩
theorem gw_523 : Cond.code ⟨"CaseLayout$Search", "begin", "(I)V"⟩ prog_7_method_4_code 3 none ∈ gx_T := List.mem_filter.mpr ⟨List.mem_append_right _ (List.mem_of_getElem? (i := 523) (by decide +kernel)), by decide +kernel⟩
theorem gw_536 : Cond.methodLink "CaseLayout" 156 ⟨"CaseLayout$Search", "tryThing", "(II)Z"⟩ ∈ gx_T := List.mem_filter.mpr ⟨List.mem_append_right _ (List.mem_of_getElem? (i := 536) (by decide +kernel)), by decide +kernel⟩
theorem gw_623 : Cond.methodLink "CaseLayout" 160 ⟨"CaseLayout$Search", "hasFound", "()Z"⟩ ∈ gx_T := List.mem_filter.mpr ⟨List.mem_append_right _ (List.mem_of_getElem? (i := 623) (by decide +kernel)), by decide +kernel⟩
theorem gw_624 : Cond.instanceMethod ⟨"CaseLayout$Search", "hasFound", "()Z"⟩ ∈ gx_T := List.mem_filter.mpr ⟨List.mem_append_right _ (List.mem_of_getElem? (i := 624) (by decide +kernel)), by decide +kernel⟩
theorem gw_625 : Cond.selects "CaseLayout$Search" ⟨"CaseLayout$Search", "hasFound", "()Z"⟩ ⟨"CaseLayout$Search", "hasFound", "()Z"⟩ ∈ gx_T := List.mem_filter.mpr ⟨List.mem_append_right _ (List.mem_of_getElem? (i := 625) (by decide +kernel)), by decide +kernel⟩
theorem gw_626 : Cond.code ⟨"CaseLayout$Search", "hasFound", "()Z"⟩ prog_7_method_3_code 1 (some .boolean) ∈ gx_T := List.mem_filter.mpr ⟨List.mem_append_right _ (List.mem_of_getElem? (i := 626) (by decide +kernel)), by decide +kernel⟩
theorem gw_635 : Cond.methodLink "CaseLayout" 172 ⟨"CaseLayout", "needFound", "()V"⟩ ∈ gx_T := List.mem_filter.mpr ⟨List.mem_append_right _ (List.mem_of_getElem? (i := 635) (by decide +kernel)), by decide +kernel⟩
theorem gw_637 : Cond.instanceMethod ⟨"CaseLayout", "needFound", "()V"⟩ ∈ gx_T := List.mem_filter.mpr ⟨List.mem_append_right _ (List.mem_of_getElem? (i := 637) (by decide +kernel)), by decide +kernel⟩
theorem gs_15 : Cond.selects "CaseLayout" ⟨"CaseLayout", "needFound", "()V"⟩ ⟨"CaseLayout", "needFound", "()V"⟩ ∈ gx_T := List.mem_filter.mpr ⟨List.mem_append_left _ (List.mem_of_getElem? (i := 15) (by decide +kernel)), by decide +kernel⟩
theorem gw_638 : Cond.code ⟨"CaseLayout", "needFound", "()V"⟩ prog_1_method_22_code 1 none ∈ gx_T := List.mem_filter.mpr ⟨List.mem_append_right _ (List.mem_of_getElem? (i := 638) (by decide +kernel)), by decide +kernel⟩
theorem gw_250 : Cond.fieldLink "CaseLayout" 48 "CaseLayout" "floor" "LCaseLayout$Floor;" ∈ gx_T := List.mem_filter.mpr ⟨List.mem_append_right _ (List.mem_of_getElem? (i := 250) (by decide +kernel)), by decide +kernel⟩
theorem gw_647 : Cond.methodLink "CaseLayout" 190 ⟨"CaseLayout$Floor", "lay", "(LCaseLayout$Layout;)V"⟩ ∈ gx_T := List.mem_filter.mpr ⟨List.mem_append_right _ (List.mem_of_getElem? (i := 647) (by decide +kernel)), by decide +kernel⟩
theorem gw_648 : Cond.methodLink "CaseLayout" 196 ⟨"CaseLayout$Floor", "isSeen", "(LCaseLayout$Layout;III)Z"⟩ ∈ gx_T := List.mem_filter.mpr ⟨List.mem_append_right _ (List.mem_of_getElem? (i := 648) (by decide +kernel)), by decide +kernel⟩
theorem gw_656 : Cond.methodLink "CaseLayout" 200 ⟨"CaseLayout$Floor", "measure", "(LCaseLayout$Exits;)V"⟩ ∈ gx_T := List.mem_filter.mpr ⟨List.mem_append_right _ (List.mem_of_getElem? (i := 656) (by decide +kernel)), by decide +kernel⟩
theorem gw_252 : Cond.laysFinal "CaseLayout" "CaseLayout" "grid" "LCaseLayout$Grid;" ∈ gx_T := List.mem_filter.mpr ⟨List.mem_append_right _ (List.mem_of_getElem? (i := 252) (by decide +kernel)), by decide +kernel⟩
theorem gw_254 : Cond.laysFinal "CaseLayout" "CaseLayout" "things" "LCaseLayout$Things;" ∈ gx_T := List.mem_filter.mpr ⟨List.mem_append_right _ (List.mem_of_getElem? (i := 254) (by decide +kernel)), by decide +kernel⟩
theorem gw_256 : Cond.laysFinal "CaseLayout" "CaseLayout" "places" "LCaseLayout$Places;" ∈ gx_T := List.mem_filter.mpr ⟨List.mem_append_right _ (List.mem_of_getElem? (i := 256) (by decide +kernel)), by decide +kernel⟩
theorem gw_258 : Cond.laysFinal "CaseLayout" "CaseLayout" "exits" "LCaseLayout$Exits;" ∈ gx_T := List.mem_filter.mpr ⟨List.mem_append_right _ (List.mem_of_getElem? (i := 258) (by decide +kernel)), by decide +kernel⟩
theorem gw_260 : Cond.laysFinal "CaseLayout" "CaseLayout" "floor" "LCaseLayout$Floor;" ∈ gx_T := List.mem_filter.mpr ⟨List.mem_append_right _ (List.mem_of_getElem? (i := 260) (by decide +kernel)), by decide +kernel⟩
theorem gw_262 : Cond.laysFinal "CaseLayout" "CaseLayout" "search" "LCaseLayout$Search;" ∈ gx_T := List.mem_filter.mpr ⟨List.mem_append_right _ (List.mem_of_getElem? (i := 262) (by decide +kernel)), by decide +kernel⟩
theorem gw_53 : Cond.laysFinal "CaseLayout$Grid" "CaseLayout$Grid" "width" "I" ∈ gx_T := List.mem_filter.mpr ⟨List.mem_append_right _ (List.mem_of_getElem? (i := 53) (by decide +kernel)), by decide +kernel⟩
theorem gw_55 : Cond.laysFinal "CaseLayout$Grid" "CaseLayout$Grid" "height" "I" ∈ gx_T := List.mem_filter.mpr ⟨List.mem_append_right _ (List.mem_of_getElem? (i := 55) (by decide +kernel)), by decide +kernel⟩
theorem gw_57 : Cond.laysFinal "CaseLayout$Grid" "CaseLayout$Grid" "walls" "[Z" ∈ gx_T := List.mem_filter.mpr ⟨List.mem_append_right _ (List.mem_of_getElem? (i := 57) (by decide +kernel)), by decide +kernel⟩
theorem gw_59 : Cond.laysFinal "CaseLayout$Grid" "CaseLayout$Grid" "classes" "[I" ∈ gx_T := List.mem_filter.mpr ⟨List.mem_append_right _ (List.mem_of_getElem? (i := 59) (by decide +kernel)), by decide +kernel⟩
theorem gw_61 : Cond.lays "CaseLayout$Grid" "CaseLayout$Grid" "wallCount" "I" ∈ gx_T := List.mem_filter.mpr ⟨List.mem_append_right _ (List.mem_of_getElem? (i := 61) (by decide +kernel)), by decide +kernel⟩
theorem gw_92 : Cond.laysFinal "CaseLayout$Things" "CaseLayout$Things" "widths" "[I" ∈ gx_T := List.mem_filter.mpr ⟨List.mem_append_right _ (List.mem_of_getElem? (i := 92) (by decide +kernel)), by decide +kernel⟩
theorem gw_94 : Cond.laysFinal "CaseLayout$Things" "CaseLayout$Things" "heights" "[I" ∈ gx_T := List.mem_filter.mpr ⟨List.mem_append_right _ (List.mem_of_getElem? (i := 94) (by decide +kernel)), by decide +kernel⟩
theorem gw_96 : Cond.laysFinal "CaseLayout$Things" "CaseLayout$Things" "classes" "[I" ∈ gx_T := List.mem_filter.mpr ⟨List.mem_append_right _ (List.mem_of_getElem? (i := 96) (by decide +kernel)), by decide +kernel⟩
theorem gw_98 : Cond.laysFinal "CaseLayout$Things" "CaseLayout$Things" "gaps" "[I" ∈ gx_T := List.mem_filter.mpr ⟨List.mem_append_right _ (List.mem_of_getElem? (i := 98) (by decide +kernel)), by decide +kernel⟩
theorem gw_100 : Cond.laysFinal "CaseLayout$Things" "CaseLayout$Things" "wishes" "[I" ∈ gx_T := List.mem_filter.mpr ⟨List.mem_append_right _ (List.mem_of_getElem? (i := 100) (by decide +kernel)), by decide +kernel⟩
theorem gw_102 : Cond.lays "CaseLayout$Things" "CaseLayout$Things" "size" "I" ∈ gx_T := List.mem_filter.mpr ⟨List.mem_append_right _ (List.mem_of_getElem? (i := 102) (by decide +kernel)), by decide +kernel⟩
theorem gw_123 : Cond.laysFinal "CaseLayout$Places" "CaseLayout$Places" "xs" "[I" ∈ gx_T := List.mem_filter.mpr ⟨List.mem_append_right _ (List.mem_of_getElem? (i := 123) (by decide +kernel)), by decide +kernel⟩
theorem gw_125 : Cond.laysFinal "CaseLayout$Places" "CaseLayout$Places" "ys" "[I" ∈ gx_T := List.mem_filter.mpr ⟨List.mem_append_right _ (List.mem_of_getElem? (i := 125) (by decide +kernel)), by decide +kernel⟩
theorem gw_127 : Cond.laysFinal "CaseLayout$Places" "CaseLayout$Places" "musts" "[Z" ∈ gx_T := List.mem_filter.mpr ⟨List.mem_append_right _ (List.mem_of_getElem? (i := 127) (by decide +kernel)), by decide +kernel⟩
theorem gw_129 : Cond.lays "CaseLayout$Places" "CaseLayout$Places" "size" "I" ∈ gx_T := List.mem_filter.mpr ⟨List.mem_append_right _ (List.mem_of_getElem? (i := 129) (by decide +kernel)), by decide +kernel⟩
theorem gw_147 : Cond.laysFinal "CaseLayout$Exits" "CaseLayout$Exits" "cells" "[I" ∈ gx_T := List.mem_filter.mpr ⟨List.mem_append_right _ (List.mem_of_getElem? (i := 147) (by decide +kernel)), by decide +kernel⟩
theorem gw_149 : Cond.lays "CaseLayout$Exits" "CaseLayout$Exits" "size" "I" ∈ gx_T := List.mem_filter.mpr ⟨List.mem_append_right _ (List.mem_of_getElem? (i := 149) (by decide +kernel)), by decide +kernel⟩
theorem gw_151 : Cond.lays "CaseLayout$Exits" "CaseLayout$Exits" "furthest" "I" ∈ gx_T := List.mem_filter.mpr ⟨List.mem_append_right _ (List.mem_of_getElem? (i := 151) (by decide +kernel)), by decide +kernel⟩
theorem gw_166 : Cond.laysFinal "CaseLayout$Floor" "CaseLayout$Floor" "grid" "LCaseLayout$Grid;" ∈ gx_T := List.mem_filter.mpr ⟨List.mem_append_right _ (List.mem_of_getElem? (i := 166) (by decide +kernel)), by decide +kernel⟩
theorem gw_168 : Cond.laysFinal "CaseLayout$Floor" "CaseLayout$Floor" "owners" "[I" ∈ gx_T := List.mem_filter.mpr ⟨List.mem_append_right _ (List.mem_of_getElem? (i := 168) (by decide +kernel)), by decide +kernel⟩
theorem gw_170 : Cond.laysFinal "CaseLayout$Floor" "CaseLayout$Floor" "steps" "[I" ∈ gx_T := List.mem_filter.mpr ⟨List.mem_append_right _ (List.mem_of_getElem? (i := 170) (by decide +kernel)), by decide +kernel⟩
theorem gw_172 : Cond.laysFinal "CaseLayout$Floor" "CaseLayout$Floor" "reached" "[I" ∈ gx_T := List.mem_filter.mpr ⟨List.mem_append_right _ (List.mem_of_getElem? (i := 172) (by decide +kernel)), by decide +kernel⟩
theorem gw_174 : Cond.lays "CaseLayout$Floor" "CaseLayout$Floor" "reachedCount" "I" ∈ gx_T := List.mem_filter.mpr ⟨List.mem_append_right _ (List.mem_of_getElem? (i := 174) (by decide +kernel)), by decide +kernel⟩
theorem gw_221 : Cond.laysFinal "CaseLayout$Search" "CaseLayout$Search" "grid" "LCaseLayout$Grid;" ∈ gx_T := List.mem_filter.mpr ⟨List.mem_append_right _ (List.mem_of_getElem? (i := 221) (by decide +kernel)), by decide +kernel⟩
theorem gw_223 : Cond.laysFinal "CaseLayout$Search" "CaseLayout$Search" "things" "LCaseLayout$Things;" ∈ gx_T := List.mem_filter.mpr ⟨List.mem_append_right _ (List.mem_of_getElem? (i := 223) (by decide +kernel)), by decide +kernel⟩
theorem gw_225 : Cond.laysFinal "CaseLayout$Search" "CaseLayout$Search" "places" "LCaseLayout$Places;" ∈ gx_T := List.mem_filter.mpr ⟨List.mem_append_right _ (List.mem_of_getElem? (i := 225) (by decide +kernel)), by decide +kernel⟩
theorem gw_227 : Cond.laysFinal "CaseLayout$Search" "CaseLayout$Search" "exits" "LCaseLayout$Exits;" ∈ gx_T := List.mem_filter.mpr ⟨List.mem_append_right _ (List.mem_of_getElem? (i := 227) (by decide +kernel)), by decide +kernel⟩
theorem gw_229 : Cond.laysFinal "CaseLayout$Search" "CaseLayout$Search" "floor" "LCaseLayout$Floor;" ∈ gx_T := List.mem_filter.mpr ⟨List.mem_append_right _ (List.mem_of_getElem? (i := 229) (by decide +kernel)), by decide +kernel⟩
theorem gw_231 : Cond.laysFinal "CaseLayout$Search" "CaseLayout$Search" "trial" "LCaseLayout$Layout;" ∈ gx_T := List.mem_filter.mpr ⟨List.mem_append_right _ (List.mem_of_getElem? (i := 231) (by decide +kernel)), by decide +kernel⟩
theorem gw_233 : Cond.laysFinal "CaseLayout$Search" "CaseLayout$Search" "best" "LCaseLayout$Layout;" ∈ gx_T := List.mem_filter.mpr ⟨List.mem_append_right _ (List.mem_of_getElem? (i := 233) (by decide +kernel)), by decide +kernel⟩
theorem gw_235 : Cond.laysFinal "CaseLayout$Search" "CaseLayout$Search" "spots" "[I" ∈ gx_T := List.mem_filter.mpr ⟨List.mem_append_right _ (List.mem_of_getElem? (i := 235) (by decide +kernel)), by decide +kernel⟩
theorem gw_237 : Cond.laysFinal "CaseLayout$Search" "CaseLayout$Search" "spotCounts" "[I" ∈ gx_T := List.mem_filter.mpr ⟨List.mem_append_right _ (List.mem_of_getElem? (i := 237) (by decide +kernel)), by decide +kernel⟩
theorem gw_239 : Cond.lays "CaseLayout$Search" "CaseLayout$Search" "limit" "I" ∈ gx_T := List.mem_filter.mpr ⟨List.mem_append_right _ (List.mem_of_getElem? (i := 239) (by decide +kernel)), by decide +kernel⟩
theorem gw_241 : Cond.lays "CaseLayout$Search" "CaseLayout$Search" "nodeCount" "I" ∈ gx_T := List.mem_filter.mpr ⟨List.mem_append_right _ (List.mem_of_getElem? (i := 241) (by decide +kernel)), by decide +kernel⟩
theorem gw_243 : Cond.lays "CaseLayout$Search" "CaseLayout$Search" "bestWorth" "I" ∈ gx_T := List.mem_filter.mpr ⟨List.mem_append_right _ (List.mem_of_getElem? (i := 243) (by decide +kernel)), by decide +kernel⟩
theorem gw_199 : Cond.laysFinal "CaseLayout$Layout" "CaseLayout$Layout" "things" "LCaseLayout$Things;" ∈ gx_T := List.mem_filter.mpr ⟨List.mem_append_right _ (List.mem_of_getElem? (i := 199) (by decide +kernel)), by decide +kernel⟩
theorem gw_201 : Cond.laysFinal "CaseLayout$Layout" "CaseLayout$Layout" "xs" "[I" ∈ gx_T := List.mem_filter.mpr ⟨List.mem_append_right _ (List.mem_of_getElem? (i := 201) (by decide +kernel)), by decide +kernel⟩
theorem gw_203 : Cond.laysFinal "CaseLayout$Layout" "CaseLayout$Layout" "ys" "[I" ∈ gx_T := List.mem_filter.mpr ⟨List.mem_append_right _ (List.mem_of_getElem? (i := 203) (by decide +kernel)), by decide +kernel⟩
theorem gw_702 : Cond.lays "CaseLayoutModel" "CaseLayoutModel" "thrown" "I" ∈ gx_T := List.mem_filter.mpr ⟨List.mem_append_right _ (List.mem_of_getElem? (i := 702) (by decide +kernel)), by decide +kernel⟩
theorem gw_704 : Cond.laysFinal "CaseLayoutModel" "CaseLayoutModel" "width" "I" ∈ gx_T := List.mem_filter.mpr ⟨List.mem_append_right _ (List.mem_of_getElem? (i := 704) (by decide +kernel)), by decide +kernel⟩
theorem gw_706 : Cond.laysFinal "CaseLayoutModel" "CaseLayoutModel" "height" "I" ∈ gx_T := List.mem_filter.mpr ⟨List.mem_append_right _ (List.mem_of_getElem? (i := 706) (by decide +kernel)), by decide +kernel⟩
theorem gw_708 : Cond.laysFinal "CaseLayoutModel" "CaseLayoutModel" "walls" "[Z" ∈ gx_T := List.mem_filter.mpr ⟨List.mem_append_right _ (List.mem_of_getElem? (i := 708) (by decide +kernel)), by decide +kernel⟩
theorem gw_710 : Cond.laysFinal "CaseLayoutModel" "CaseLayoutModel" "zones" "[I" ∈ gx_T := List.mem_filter.mpr ⟨List.mem_append_right _ (List.mem_of_getElem? (i := 710) (by decide +kernel)), by decide +kernel⟩
theorem gw_712 : Cond.lays "CaseLayoutModel" "CaseLayoutModel" "things" "I" ∈ gx_T := List.mem_filter.mpr ⟨List.mem_append_right _ (List.mem_of_getElem? (i := 712) (by decide +kernel)), by decide +kernel⟩
theorem gw_714 : Cond.laysFinal "CaseLayoutModel" "CaseLayoutModel" "wide" "[I" ∈ gx_T := List.mem_filter.mpr ⟨List.mem_append_right _ (List.mem_of_getElem? (i := 714) (by decide +kernel)), by decide +kernel⟩
theorem gw_716 : Cond.laysFinal "CaseLayoutModel" "CaseLayoutModel" "high" "[I" ∈ gx_T := List.mem_filter.mpr ⟨List.mem_append_right _ (List.mem_of_getElem? (i := 716) (by decide +kernel)), by decide +kernel⟩
theorem gw_718 : Cond.laysFinal "CaseLayoutModel" "CaseLayoutModel" "classes" "[I" ∈ gx_T := List.mem_filter.mpr ⟨List.mem_append_right _ (List.mem_of_getElem? (i := 718) (by decide +kernel)), by decide +kernel⟩
theorem gw_720 : Cond.laysFinal "CaseLayoutModel" "CaseLayoutModel" "apart" "[I" ∈ gx_T := List.mem_filter.mpr ⟨List.mem_append_right _ (List.mem_of_getElem? (i := 720) (by decide +kernel)), by decide +kernel⟩
theorem gw_722 : Cond.laysFinal "CaseLayoutModel" "CaseLayoutModel" "wishes" "[I" ∈ gx_T := List.mem_filter.mpr ⟨List.mem_append_right _ (List.mem_of_getElem? (i := 722) (by decide +kernel)), by decide +kernel⟩
theorem gw_724 : Cond.lays "CaseLayoutModel" "CaseLayoutModel" "places" "I" ∈ gx_T := List.mem_filter.mpr ⟨List.mem_append_right _ (List.mem_of_getElem? (i := 724) (by decide +kernel)), by decide +kernel⟩
theorem gw_726 : Cond.laysFinal "CaseLayoutModel" "CaseLayoutModel" "placeX" "[I" ∈ gx_T := List.mem_filter.mpr ⟨List.mem_append_right _ (List.mem_of_getElem? (i := 726) (by decide +kernel)), by decide +kernel⟩
theorem gw_728 : Cond.laysFinal "CaseLayoutModel" "CaseLayoutModel" "placeY" "[I" ∈ gx_T := List.mem_filter.mpr ⟨List.mem_append_right _ (List.mem_of_getElem? (i := 728) (by decide +kernel)), by decide +kernel⟩
theorem gw_730 : Cond.laysFinal "CaseLayoutModel" "CaseLayoutModel" "sees" "[Z" ∈ gx_T := List.mem_filter.mpr ⟨List.mem_append_right _ (List.mem_of_getElem? (i := 730) (by decide +kernel)), by decide +kernel⟩
theorem gw_732 : Cond.lays "CaseLayoutModel" "CaseLayoutModel" "exits" "I" ∈ gx_T := List.mem_filter.mpr ⟨List.mem_append_right _ (List.mem_of_getElem? (i := 732) (by decide +kernel)), by decide +kernel⟩
theorem gw_734 : Cond.laysFinal "CaseLayoutModel" "CaseLayoutModel" "exitX" "[I" ∈ gx_T := List.mem_filter.mpr ⟨List.mem_append_right _ (List.mem_of_getElem? (i := 734) (by decide +kernel)), by decide +kernel⟩
theorem gw_736 : Cond.laysFinal "CaseLayoutModel" "CaseLayoutModel" "exitY" "[I" ∈ gx_T := List.mem_filter.mpr ⟨List.mem_append_right _ (List.mem_of_getElem? (i := 736) (by decide +kernel)), by decide +kernel⟩
theorem gw_738 : Cond.lays "CaseLayoutModel" "CaseLayoutModel" "most" "I" ∈ gx_T := List.mem_filter.mpr ⟨List.mem_append_right _ (List.mem_of_getElem? (i := 738) (by decide +kernel)), by decide +kernel⟩
theorem gw_740 : Cond.laysFinal "CaseLayoutModel" "CaseLayoutModel" "atX" "[I" ∈ gx_T := List.mem_filter.mpr ⟨List.mem_append_right _ (List.mem_of_getElem? (i := 740) (by decide +kernel)), by decide +kernel⟩
theorem gw_742 : Cond.laysFinal "CaseLayoutModel" "CaseLayoutModel" "atY" "[I" ∈ gx_T := List.mem_filter.mpr ⟨List.mem_append_right _ (List.mem_of_getElem? (i := 742) (by decide +kernel)), by decide +kernel⟩
theorem gw_744 : Cond.laysFinal "CaseLayoutModel" "CaseLayoutModel" "next" "[I" ∈ gx_T := List.mem_filter.mpr ⟨List.mem_append_right _ (List.mem_of_getElem? (i := 744) (by decide +kernel)), by decide +kernel⟩
theorem gw_746 : Cond.laysFinal "CaseLayoutModel" "CaseLayoutModel" "bestX" "[I" ∈ gx_T := List.mem_filter.mpr ⟨List.mem_append_right _ (List.mem_of_getElem? (i := 746) (by decide +kernel)), by decide +kernel⟩
theorem gw_748 : Cond.laysFinal "CaseLayoutModel" "CaseLayoutModel" "bestY" "[I" ∈ gx_T := List.mem_filter.mpr ⟨List.mem_append_right _ (List.mem_of_getElem? (i := 748) (by decide +kernel)), by decide +kernel⟩
theorem gw_750 : Cond.lays "CaseLayoutModel" "CaseLayoutModel" "found" "Z" ∈ gx_T := List.mem_filter.mpr ⟨List.mem_append_right _ (List.mem_of_getElem? (i := 750) (by decide +kernel)), by decide +kernel⟩
theorem gw_752 : Cond.lays "CaseLayoutModel" "CaseLayoutModel" "worth" "I" ∈ gx_T := List.mem_filter.mpr ⟨List.mem_append_right _ (List.mem_of_getElem? (i := 752) (by decide +kernel)), by decide +kernel⟩
theorem gw_754 : Cond.lays "CaseLayoutModel" "CaseLayoutModel" "nodes" "I" ∈ gx_T := List.mem_filter.mpr ⟨List.mem_append_right _ (List.mem_of_getElem? (i := 754) (by decide +kernel)), by decide +kernel⟩
theorem gw_756 : Cond.laysFinal "CaseLayoutModel" "CaseLayoutModel" "steps" "[I" ∈ gx_T := List.mem_filter.mpr ⟨List.mem_append_right _ (List.mem_of_getElem? (i := 756) (by decide +kernel)), by decide +kernel⟩
theorem gn_367 : Cond.methodLinkNest "CaseLayout$Places" 26 ⟨"CaseLayout", "cellOf", "(II)I"⟩ "CaseLayout" ∈ gx_NW := List.mem_append_left _ (List.mem_append_right _ (List.mem_of_getElem? (i := 3) (by decide +kernel)))
theorem gn_534 : Cond.methodLinkNest "CaseLayout$Grid" 33 ⟨"CaseLayout", "cellOf", "(II)I"⟩ "CaseLayout" ∈ gx_NW := List.mem_append_left _ (List.mem_append_right _ (List.mem_of_getElem? (i := 4) (by decide +kernel)))
theorem gn_91 : Cond.fieldLinkNest "CaseLayout$Search" 63 "CaseLayout$Things" "size" "I" "CaseLayout" ∈ gx_NW := List.mem_append_left _ (List.mem_append_left _ (List.mem_of_getElem? (i := 19) (by decide +kernel)))
theorem gn_45 : Cond.fieldLinkNest "CaseLayout$Search" 72 "CaseLayout$Grid" "height" "I" "CaseLayout" ∈ gx_NW := List.mem_append_left _ (List.mem_append_left _ (List.mem_of_getElem? (i := 1) (by decide +kernel)))
theorem gn_43 : Cond.fieldLinkNest "CaseLayout$Search" 77 "CaseLayout$Grid" "width" "I" "CaseLayout" ∈ gx_NW := List.mem_append_left _ (List.mem_append_left _ (List.mem_of_getElem? (i := 0) (by decide +kernel)))
theorem gn_75 : Cond.fieldLinkNest "CaseLayout$Search" 80 "CaseLayout$Things" "widths" "[I" "CaseLayout" ∈ gx_NW := List.mem_append_left _ (List.mem_append_left _ (List.mem_of_getElem? (i := 8) (by decide +kernel)))
theorem gn_79 : Cond.fieldLinkNest "CaseLayout$Search" 83 "CaseLayout$Things" "heights" "[I" "CaseLayout" ∈ gx_NW := List.mem_append_left _ (List.mem_append_left _ (List.mem_of_getElem? (i := 11) (by decide +kernel)))
theorem gn_81 : Cond.fieldLinkNest "CaseLayout$Search" 86 "CaseLayout$Things" "classes" "[I" "CaseLayout" ∈ gx_NW := List.mem_append_left _ (List.mem_append_left _ (List.mem_of_getElem? (i := 12) (by decide +kernel)))
theorem gn_535 : Cond.methodLinkNest "CaseLayout$Search" 93 ⟨"CaseLayout", "cellOf", "(II)I"⟩ "CaseLayout" ∈ gx_NW := List.mem_append_left _ (List.mem_append_right _ (List.mem_of_getElem? (i := 5) (by decide +kernel)))
theorem gn_73 : Cond.fieldLinkNest "CaseLayout$Layout" 22 "CaseLayout$Things" "widths" "[I" "CaseLayout" ∈ gx_NW := List.mem_append_left _ (List.mem_append_left _ (List.mem_of_getElem? (i := 6) (by decide +kernel)))
theorem gn_77 : Cond.fieldLinkNest "CaseLayout$Layout" 31 "CaseLayout$Things" "heights" "[I" "CaseLayout" ∈ gx_NW := List.mem_append_left _ (List.mem_append_left _ (List.mem_of_getElem? (i := 9) (by decide +kernel)))
theorem gn_84 : Cond.fieldLinkNest "CaseLayout$Search" 121 "CaseLayout$Things" "gaps" "[I" "CaseLayout" ∈ gx_NW := List.mem_append_left _ (List.mem_append_left _ (List.mem_of_getElem? (i := 14) (by decide +kernel)))
theorem gn_617 : Cond.methodLinkNest "CaseLayout$Search" 124 ⟨"CaseLayout", "pairOf", "(II)I"⟩ "CaseLayout" ∈ gx_NW := List.mem_append_left _ (List.mem_append_right _ (List.mem_of_getElem? (i := 8) (by decide +kernel)))
theorem gn_87 : Cond.fieldLinkNest "CaseLayout$Search" 127 "CaseLayout$Things" "wishes" "[I" "CaseLayout" ∈ gx_NW := List.mem_append_left _ (List.mem_append_left _ (List.mem_of_getElem? (i := 16) (by decide +kernel)))
theorem gn_48 : Cond.fieldLinkNest "CaseLayout$Floor" 29 "CaseLayout$Grid" "walls" "[Z" "CaseLayout" ∈ gx_NW := List.mem_append_left _ (List.mem_append_left _ (List.mem_of_getElem? (i := 3) (by decide +kernel)))
theorem gn_190 : Cond.fieldLinkNest "CaseLayout$Floor" 35 "CaseLayout$Layout" "things" "LCaseLayout$Things;" "CaseLayout" ∈ gx_NW := List.mem_append_left _ (List.mem_append_left _ (List.mem_of_getElem? (i := 35) (by decide +kernel)))
theorem gn_89 : Cond.fieldLinkNest "CaseLayout$Floor" 41 "CaseLayout$Things" "size" "I" "CaseLayout" ∈ gx_NW := List.mem_append_left _ (List.mem_append_left _ (List.mem_of_getElem? (i := 17) (by decide +kernel)))
theorem gn_192 : Cond.fieldLinkNest "CaseLayout$Floor" 50 "CaseLayout$Layout" "xs" "[I" "CaseLayout" ∈ gx_NW := List.mem_append_left _ (List.mem_append_left _ (List.mem_of_getElem? (i := 36) (by decide +kernel)))
theorem gn_196 : Cond.fieldLinkNest "CaseLayout$Floor" 53 "CaseLayout$Layout" "ys" "[I" "CaseLayout" ∈ gx_NW := List.mem_append_left _ (List.mem_append_left _ (List.mem_of_getElem? (i := 39) (by decide +kernel)))
theorem gn_78 : Cond.fieldLinkNest "CaseLayout$Floor" 56 "CaseLayout$Things" "heights" "[I" "CaseLayout" ∈ gx_NW := List.mem_append_left _ (List.mem_append_left _ (List.mem_of_getElem? (i := 10) (by decide +kernel)))
theorem gn_74 : Cond.fieldLinkNest "CaseLayout$Floor" 59 "CaseLayout$Things" "widths" "[I" "CaseLayout" ∈ gx_NW := List.mem_append_left _ (List.mem_append_left _ (List.mem_of_getElem? (i := 7) (by decide +kernel)))
theorem gn_553 : Cond.methodLinkNest "CaseLayout$Floor" 66 ⟨"CaseLayout", "cellOf", "(II)I"⟩ "CaseLayout" ∈ gx_NW := List.mem_append_left _ (List.mem_append_right _ (List.mem_of_getElem? (i := 6) (by decide +kernel)))
theorem gn_141 : Cond.fieldLinkNest "CaseLayout$Floor" 96 "CaseLayout$Exits" "size" "I" "CaseLayout" ∈ gx_NW := List.mem_append_left _ (List.mem_append_left _ (List.mem_of_getElem? (i := 29) (by decide +kernel)))
theorem gn_139 : Cond.fieldLinkNest "CaseLayout$Floor" 99 "CaseLayout$Exits" "cells" "[I" "CaseLayout" ∈ gx_NW := List.mem_append_left _ (List.mem_append_left _ (List.mem_of_getElem? (i := 28) (by decide +kernel)))
theorem gn_122 : Cond.fieldLinkNest "CaseLayout$Search" 146 "CaseLayout$Places" "size" "I" "CaseLayout" ∈ gx_NW := List.mem_append_left _ (List.mem_append_left _ (List.mem_of_getElem? (i := 27) (by decide +kernel)))
theorem gn_119 : Cond.fieldLinkNest "CaseLayout$Search" 149 "CaseLayout$Places" "musts" "[Z" "CaseLayout" ∈ gx_NW := List.mem_append_left _ (List.mem_append_left _ (List.mem_of_getElem? (i := 25) (by decide +kernel)))
theorem gn_558 : Cond.methodLinkNest "CaseLayout$Search" 153 ⟨"CaseLayout", "sightOf", "(II)I"⟩ "CaseLayout" ∈ gx_NW := List.mem_append_left _ (List.mem_append_right _ (List.mem_of_getElem? (i := 7) (by decide +kernel)))
theorem gn_112 : Cond.fieldLinkNest "CaseLayout$Search" 156 "CaseLayout$Places" "xs" "[I" "CaseLayout" ∈ gx_NW := List.mem_append_left _ (List.mem_append_left _ (List.mem_of_getElem? (i := 20) (by decide +kernel)))
theorem gn_115 : Cond.fieldLinkNest "CaseLayout$Search" 157 "CaseLayout$Places" "ys" "[I" "CaseLayout" ∈ gx_NW := List.mem_append_left _ (List.mem_append_left _ (List.mem_of_getElem? (i := 22) (by decide +kernel)))
theorem gn_143 : Cond.fieldLinkNest "CaseLayout$Search" 162 "CaseLayout$Exits" "size" "I" "CaseLayout" ∈ gx_NW := List.mem_append_left _ (List.mem_append_left _ (List.mem_of_getElem? (i := 31) (by decide +kernel)))
theorem gn_146 : Cond.fieldLinkNest "CaseLayout$Search" 169 "CaseLayout$Exits" "furthest" "I" "CaseLayout" ∈ gx_NW := List.mem_append_left _ (List.mem_append_left _ (List.mem_of_getElem? (i := 33) (by decide +kernel)))
theorem gn_193 : Cond.fieldLinkNest "CaseLayout$Search" 100 "CaseLayout$Layout" "xs" "[I" "CaseLayout" ∈ gx_NW := List.mem_append_left _ (List.mem_append_left _ (List.mem_of_getElem? (i := 37) (by decide +kernel)))
theorem gn_197 : Cond.fieldLinkNest "CaseLayout$Search" 103 "CaseLayout$Layout" "ys" "[I" "CaseLayout" ∈ gx_NW := List.mem_append_left _ (List.mem_append_left _ (List.mem_of_getElem? (i := 40) (by decide +kernel)))
theorem gn_47 : Cond.fieldLinkNest "CaseLayout" 68 "CaseLayout$Grid" "walls" "[Z" "CaseLayout" ∈ gx_NW := List.mem_append_left _ (List.mem_append_left _ (List.mem_of_getElem? (i := 2) (by decide +kernel)))
theorem gn_50 : Cond.fieldLinkNest "CaseLayout" 88 "CaseLayout$Grid" "classes" "[I" "CaseLayout" ∈ gx_NW := List.mem_append_left _ (List.mem_append_left _ (List.mem_of_getElem? (i := 4) (by decide +kernel)))
theorem gn_90 : Cond.fieldLinkNest "CaseLayout" 92 "CaseLayout$Things" "size" "I" "CaseLayout" ∈ gx_NW := List.mem_append_left _ (List.mem_append_left _ (List.mem_of_getElem? (i := 18) (by decide +kernel)))
theorem gn_83 : Cond.fieldLinkNest "CaseLayout" 109 "CaseLayout$Things" "gaps" "[I" "CaseLayout" ∈ gx_NW := List.mem_append_left _ (List.mem_append_left _ (List.mem_of_getElem? (i := 13) (by decide +kernel)))
theorem gn_86 : Cond.fieldLinkNest "CaseLayout" 116 "CaseLayout$Things" "wishes" "[I" "CaseLayout" ∈ gx_NW := List.mem_append_left _ (List.mem_append_left _ (List.mem_of_getElem? (i := 15) (by decide +kernel)))
theorem gn_121 : Cond.fieldLinkNest "CaseLayout" 119 "CaseLayout$Places" "size" "I" "CaseLayout" ∈ gx_NW := List.mem_append_left _ (List.mem_append_left _ (List.mem_of_getElem? (i := 26) (by decide +kernel)))
theorem gn_118 : Cond.fieldLinkNest "CaseLayout" 139 "CaseLayout$Places" "musts" "[Z" "CaseLayout" ∈ gx_NW := List.mem_append_left _ (List.mem_append_left _ (List.mem_of_getElem? (i := 24) (by decide +kernel)))
theorem gn_142 : Cond.fieldLinkNest "CaseLayout" 142 "CaseLayout$Exits" "size" "I" "CaseLayout" ∈ gx_NW := List.mem_append_left _ (List.mem_append_left _ (List.mem_of_getElem? (i := 30) (by decide +kernel)))
theorem gn_145 : Cond.fieldLinkNest "CaseLayout" 150 "CaseLayout$Exits" "furthest" "I" "CaseLayout" ∈ gx_NW := List.mem_append_left _ (List.mem_append_left _ (List.mem_of_getElem? (i := 32) (by decide +kernel)))
theorem gn_218 : Cond.fieldLinkNest "CaseLayout" 164 "CaseLayout$Search" "nodeCount" "I" "CaseLayout" ∈ gx_NW := List.mem_append_left _ (List.mem_append_left _ (List.mem_of_getElem? (i := 43) (by decide +kernel)))
theorem gn_213 : Cond.fieldLinkNest "CaseLayout" 175 "CaseLayout$Search" "best" "LCaseLayout$Layout;" "CaseLayout" ∈ gx_NW := List.mem_append_left _ (List.mem_append_left _ (List.mem_of_getElem? (i := 42) (by decide +kernel)))
theorem gn_198 : Cond.fieldLinkNest "CaseLayout" 184 "CaseLayout$Layout" "ys" "[I" "CaseLayout" ∈ gx_NW := List.mem_append_left _ (List.mem_append_left _ (List.mem_of_getElem? (i := 41) (by decide +kernel)))
theorem gn_194 : Cond.fieldLinkNest "CaseLayout" 179 "CaseLayout$Layout" "xs" "[I" "CaseLayout" ∈ gx_NW := List.mem_append_left _ (List.mem_append_left _ (List.mem_of_getElem? (i := 38) (by decide +kernel)))
theorem gn_220 : Cond.fieldLinkNest "CaseLayout" 187 "CaseLayout$Search" "bestWorth" "I" "CaseLayout" ∈ gx_NW := List.mem_append_left _ (List.mem_append_left _ (List.mem_of_getElem? (i := 44) (by decide +kernel)))
theorem gn_113 : Cond.fieldLinkNest "CaseLayout" 194 "CaseLayout$Places" "xs" "[I" "CaseLayout" ∈ gx_NW := List.mem_append_left _ (List.mem_append_left _ (List.mem_of_getElem? (i := 21) (by decide +kernel)))
theorem gn_116 : Cond.fieldLinkNest "CaseLayout" 195 "CaseLayout$Places" "ys" "[I" "CaseLayout" ∈ gx_NW := List.mem_append_left _ (List.mem_append_left _ (List.mem_of_getElem? (i := 23) (by decide +kernel)))
theorem gn_163 : Cond.fieldLinkNest "CaseLayout" 204 "CaseLayout$Floor" "steps" "[I" "CaseLayout" ∈ gx_NW := List.mem_append_left _ (List.mem_append_left _ (List.mem_of_getElem? (i := 34) (by decide +kernel)))
theorem gn_52 : Cond.fieldLinkNest "CaseLayout" 207 "CaseLayout$Grid" "wallCount" "I" "CaseLayout" ∈ gx_NW := List.mem_append_left _ (List.mem_append_left _ (List.mem_of_getElem? (i := 5) (by decide +kernel)))
theorem iw_CaseLayout : ∀ w ∈ u_ws "CaseLayout" T_CaseLayout 6, w ∈ gx_T := by
  intro w hw
  obtain ⟨k, hk, rfl⟩ := List.mem_map.mp hw
  have hk := List.mem_range.mp hk
  match k, hk with
  | 0, _ => exact gw_252
  | 1, _ => exact gw_254
  | 2, _ => exact gw_256
  | 3, _ => exact gw_258
  | 4, _ => exact gw_260
  | 5, _ => exact gw_262
  | k + 6, hk => exact absurd hk (by omega)
theorem iw_Grid : ∀ w ∈ u_ws "CaseLayout$Grid" T_Grid 5, w ∈ gx_T := by
  intro w hw
  obtain ⟨k, hk, rfl⟩ := List.mem_map.mp hw
  have hk := List.mem_range.mp hk
  match k, hk with
  | 0, _ => exact gw_53
  | 1, _ => exact gw_55
  | 2, _ => exact gw_57
  | 3, _ => exact gw_59
  | 4, _ => exact gw_61
  | k + 5, hk => exact absurd hk (by omega)
theorem iw_Things : ∀ w ∈ u_ws "CaseLayout$Things" T_Things 6, w ∈ gx_T := by
  intro w hw
  obtain ⟨k, hk, rfl⟩ := List.mem_map.mp hw
  have hk := List.mem_range.mp hk
  match k, hk with
  | 0, _ => exact gw_92
  | 1, _ => exact gw_94
  | 2, _ => exact gw_96
  | 3, _ => exact gw_98
  | 4, _ => exact gw_100
  | 5, _ => exact gw_102
  | k + 6, hk => exact absurd hk (by omega)
theorem iw_Places : ∀ w ∈ u_ws "CaseLayout$Places" T_Places 4, w ∈ gx_T := by
  intro w hw
  obtain ⟨k, hk, rfl⟩ := List.mem_map.mp hw
  have hk := List.mem_range.mp hk
  match k, hk with
  | 0, _ => exact gw_123
  | 1, _ => exact gw_125
  | 2, _ => exact gw_127
  | 3, _ => exact gw_129
  | k + 4, hk => exact absurd hk (by omega)
theorem iw_Exits : ∀ w ∈ u_ws "CaseLayout$Exits" T_Exits 3, w ∈ gx_T := by
  intro w hw
  obtain ⟨k, hk, rfl⟩ := List.mem_map.mp hw
  have hk := List.mem_range.mp hk
  match k, hk with
  | 0, _ => exact gw_147
  | 1, _ => exact gw_149
  | 2, _ => exact gw_151
  | k + 3, hk => exact absurd hk (by omega)
theorem iw_Floor : ∀ w ∈ u_ws "CaseLayout$Floor" T_Floor 5, w ∈ gx_T := by
  intro w hw
  obtain ⟨k, hk, rfl⟩ := List.mem_map.mp hw
  have hk := List.mem_range.mp hk
  match k, hk with
  | 0, _ => exact gw_166
  | 1, _ => exact gw_168
  | 2, _ => exact gw_170
  | 3, _ => exact gw_172
  | 4, _ => exact gw_174
  | k + 5, hk => exact absurd hk (by omega)
theorem iw_Search : ∀ w ∈ u_ws "CaseLayout$Search" T_Search 12, w ∈ gx_T := by
  intro w hw
  obtain ⟨k, hk, rfl⟩ := List.mem_map.mp hw
  have hk := List.mem_range.mp hk
  match k, hk with
  | 0, _ => exact gw_221
  | 1, _ => exact gw_223
  | 2, _ => exact gw_225
  | 3, _ => exact gw_227
  | 4, _ => exact gw_229
  | 5, _ => exact gw_231
  | 6, _ => exact gw_233
  | 7, _ => exact gw_235
  | 8, _ => exact gw_237
  | 9, _ => exact gw_239
  | 10, _ => exact gw_241
  | 11, _ => exact gw_243
  | k + 12, hk => exact absurd hk (by omega)
theorem iw_Layout : ∀ w ∈ u_ws "CaseLayout$Layout" T_Layout 3, w ∈ gx_T := by
  intro w hw
  obtain ⟨k, hk, rfl⟩ := List.mem_map.mp hw
  have hk := List.mem_range.mp hk
  match k, hk with
  | 0, _ => exact gw_199
  | 1, _ => exact gw_201
  | 2, _ => exact gw_203
  | k + 3, hk => exact absurd hk (by omega)
theorem iw_Mod : ∀ w ∈ u_ws "CaseLayoutModel" T_Mod 28, w ∈ gx_T := by
  intro w hw
  obtain ⟨k, hk, rfl⟩ := List.mem_map.mp hw
  have hk := List.mem_range.mp hk
  match k, hk with
  | 0, _ => exact gw_702
  | 1, _ => exact gw_704
  | 2, _ => exact gw_706
  | 3, _ => exact gw_708
  | 4, _ => exact gw_710
  | 5, _ => exact gw_712
  | 6, _ => exact gw_714
  | 7, _ => exact gw_716
  | 8, _ => exact gw_718
  | 9, _ => exact gw_720
  | 10, _ => exact gw_722
  | 11, _ => exact gw_724
  | 12, _ => exact gw_726
  | 13, _ => exact gw_728
  | 14, _ => exact gw_730
  | 15, _ => exact gw_732
  | 16, _ => exact gw_734
  | 17, _ => exact gw_736
  | 18, _ => exact gw_738
  | 19, _ => exact gw_740
  | 20, _ => exact gw_742
  | 21, _ => exact gw_744
  | 22, _ => exact gw_746
  | 23, _ => exact gw_748
  | 24, _ => exact gw_750
  | 25, _ => exact gw_752
  | 26, _ => exact gw_754
  | 27, _ => exact gw_756
  | k + 28, hk => exact absurd hk (by omega)
theorem ga_CaseLayout_171 {K : gx_K} {E : gx_E} {cc : ByteArray} {nL : Nat} (C : gx_C K E "CaseLayout" cc nL) : ∀ a ∈ Bundle.ownAtoms "CaseLayout" 171 (gx_exn 1) ["java/lang/RuntimeException", "java/lang/Exception"], a.before K.args K.s = true := gx_atoms C (by decide +kernel)
theorem ga_CaseLayout_126 {K : gx_K} {E : gx_E} {cc : ByteArray} {nL : Nat} (C : gx_C K E "CaseLayout" cc nL) : ∀ a ∈ Bundle.ownAtoms "CaseLayout" 126 (gx_exn 3) ["java/lang/RuntimeException", "java/lang/Exception"], a.before K.args K.s = true := gx_atoms C (by decide +kernel)
theorem ga_CaseLayout_100 {K : gx_K} {E : gx_E} {cc : ByteArray} {nL : Nat} (C : gx_C K E "CaseLayout" cc nL) : ∀ a ∈ Bundle.ownAtoms "CaseLayout" 100 (gx_exn 2) ["java/lang/RuntimeException", "java/lang/Exception"], a.before K.args K.s = true := gx_atoms C (by decide +kernel)
