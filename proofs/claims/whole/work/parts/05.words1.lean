abbrev y_CaseLayout_init : MethodName := ⟨"CaseLayout", "<init>", "(II)V"⟩
abbrev y_CaseLayout_apart : MethodName := ⟨"CaseLayout", "apart", "(III)I"⟩
abbrev y_CaseLayout_at : MethodName := ⟨"CaseLayout", "at", "(II)I"⟩
abbrev y_CaseLayout_cellOf : MethodName := ⟨"CaseLayout", "cellOf", "(II)I"⟩
abbrev y_CaseLayout_count : MethodName := ⟨"CaseLayout", "count", "(I)I"⟩
abbrev y_CaseLayout_escape : MethodName := ⟨"CaseLayout", "escape", "(II)I"⟩
abbrev y_CaseLayout_exit : MethodName := ⟨"CaseLayout", "exit", "(II)I"⟩
abbrev y_CaseLayout_most : MethodName := ⟨"CaseLayout", "most", "(I)I"⟩
abbrev y_CaseLayout_needCell : MethodName := ⟨"CaseLayout", "needCell", "(II)V"⟩
abbrev y_CaseLayout_needFound : MethodName := ⟨"CaseLayout", "needFound", "()V"⟩
abbrev y_CaseLayout_needPair : MethodName := ⟨"CaseLayout", "needPair", "(II)V"⟩
abbrev y_CaseLayout_needPlace : MethodName := ⟨"CaseLayout", "needPlace", "(I)V"⟩
abbrev y_CaseLayout_needThing : MethodName := ⟨"CaseLayout", "needThing", "(I)V"⟩
abbrev y_CaseLayout_needWithin : MethodName := ⟨"CaseLayout", "needWithin", "(III)V"⟩
abbrev y_CaseLayout_nodes : MethodName := ⟨"CaseLayout", "nodes", "()I"⟩
abbrev y_CaseLayout_pairOf : MethodName := ⟨"CaseLayout", "pairOf", "(II)I"⟩
abbrev y_CaseLayout_place : MethodName := ⟨"CaseLayout", "place", "(II)I"⟩
abbrev y_CaseLayout_run : MethodName := ⟨"CaseLayout", "run", "(I)I"⟩
abbrev y_CaseLayout_sees : MethodName := ⟨"CaseLayout", "sees", "(IIZ)Z"⟩
abbrev y_CaseLayout_setBoth : MethodName := ⟨"CaseLayout", "setBoth", "([IIII)I"⟩
abbrev y_CaseLayout_sight : MethodName := ⟨"CaseLayout", "sight", "(II)Z"⟩
abbrev y_CaseLayout_sightOf : MethodName := ⟨"CaseLayout", "sightOf", "(II)I"⟩
abbrev y_CaseLayout_thing : MethodName := ⟨"CaseLayout", "thing", "(III)I"⟩
abbrev y_CaseLayout_wall : MethodName := ⟨"CaseLayout", "wall", "(IIZ)Z"⟩
abbrev y_CaseLayout_wish : MethodName := ⟨"CaseLayout", "wish", "(III)I"⟩
abbrev y_CaseLayout_within : MethodName := ⟨"CaseLayout", "within", "(III)I"⟩
abbrev y_CaseLayout_worth : MethodName := ⟨"CaseLayout", "worth", "()I"⟩
abbrev y_CaseLayout_zone : MethodName := ⟨"CaseLayout", "zone", "(III)I"⟩
abbrev y_Exits_init : MethodName := ⟨"CaseLayout$Exits", "<init>", "()V"⟩
abbrev y_Exits_add : MethodName := ⟨"CaseLayout$Exits", "add", "(I)I"⟩
abbrev y_Exits_standOn : MethodName := ⟨"CaseLayout$Exits", "standOn", "(I)Z"⟩
abbrev y_Floor_init : MethodName := ⟨"CaseLayout$Floor", "<init>", "(LCaseLayout$Grid;)V"⟩
abbrev y_Floor_cover : MethodName := ⟨"CaseLayout$Floor", "cover", "(LCaseLayout$Layout;I)V"⟩
abbrev y_Floor_hasEscape : MethodName := ⟨"CaseLayout$Floor", "hasEscape", "(LCaseLayout$Layout;II)Z"⟩
abbrev y_Floor_hides : MethodName := ⟨"CaseLayout$Floor", "hides", "(III)Z"⟩
abbrev y_Floor_isCrossed : MethodName := ⟨"CaseLayout$Floor", "isCrossed", "(IIII)Z"⟩
abbrev y_Floor_isNear : MethodName := ⟨"CaseLayout$Floor", "isNear", "(III)Z"⟩
abbrev y_Floor_isSeen : MethodName := ⟨"CaseLayout$Floor", "isSeen", "(LCaseLayout$Layout;III)Z"⟩
abbrev y_Floor_lay : MethodName := ⟨"CaseLayout$Floor", "lay", "(LCaseLayout$Layout;)V"⟩
abbrev y_Floor_measure : MethodName := ⟨"CaseLayout$Floor", "measure", "(LCaseLayout$Exits;)V"⟩
abbrev y_Floor_reach : MethodName := ⟨"CaseLayout$Floor", "reach", "(III)V"⟩
abbrev y_Grid_init : MethodName := ⟨"CaseLayout$Grid", "<init>", "(II)V"⟩
abbrev y_Grid_carries : MethodName := ⟨"CaseLayout$Grid", "carries", "(IIIII)Z"⟩
abbrev y_Grid_holds : MethodName := ⟨"CaseLayout$Grid", "holds", "(II)Z"⟩
abbrev y_Grid_setWall : MethodName := ⟨"CaseLayout$Grid", "setWall", "(IZ)V"⟩
abbrev y_Layout_init : MethodName := ⟨"CaseLayout$Layout", "<init>", "(LCaseLayout$Things;)V"⟩
abbrev y_Layout_between : MethodName := ⟨"CaseLayout$Layout", "between", "(IIII)I"⟩
abbrev y_Layout_copyFrom : MethodName := ⟨"CaseLayout$Layout", "copyFrom", "(LCaseLayout$Layout;)V"⟩
abbrev y_Layout_gapOf : MethodName := ⟨"CaseLayout$Layout", "gapOf", "(II)I"⟩
abbrev y_Places_init : MethodName := ⟨"CaseLayout$Places", "<init>", "()V"⟩
abbrev y_Places_add : MethodName := ⟨"CaseLayout$Places", "add", "(II)I"⟩
abbrev y_Places_standOn : MethodName := ⟨"CaseLayout$Places", "standOn", "(I)Z"⟩
abbrev y_Search_init : MethodName := ⟨"CaseLayout$Search", "<init>", "(LCaseLayout$Grid;LCaseLayout$Things;LCaseLayout$Places;LCaseLayout$Exits;LCaseLayout$Floor;)V"⟩
abbrev y_Search_allEscape : MethodName := ⟨"CaseLayout$Search", "allEscape", "()Z"⟩
abbrev y_Search_allSeen : MethodName := ⟨"CaseLayout$Search", "allSeen", "()Z"⟩
abbrev y_Search_begin : MethodName := ⟨"CaseLayout$Search", "begin", "(I)V"⟩
abbrev y_Search_forget : MethodName := ⟨"CaseLayout$Search", "forget", "()V"⟩
abbrev y_Search_gainOf : MethodName := ⟨"CaseLayout$Search", "gainOf", "(I)I"⟩
abbrev y_Search_hasFound : MethodName := ⟨"CaseLayout$Search", "hasFound", "()Z"⟩
abbrev y_Search_judge : MethodName := ⟨"CaseLayout$Search", "judge", "(I)V"⟩
abbrev y_Search_keepsApart : MethodName := ⟨"CaseLayout$Search", "keepsApart", "(I)Z"⟩
abbrev y_Search_listSpots : MethodName := ⟨"CaseLayout$Search", "listSpots", "(I)V"⟩
abbrev y_Search_tryThing : MethodName := ⟨"CaseLayout$Search", "tryThing", "(II)Z"⟩
abbrev y_Things_init : MethodName := ⟨"CaseLayout$Things", "<init>", "()V"⟩
abbrev y_Things_add : MethodName := ⟨"CaseLayout$Things", "add", "(III)I"⟩
abbrev y_Law_apart : MethodName := ⟨"CaseLayoutLaw", "apart", "(LCaseLayout;III[J)I"⟩
abbrev y_Law_at : MethodName := ⟨"CaseLayoutLaw", "at", "(LCaseLayout;II[J)I"⟩
abbrev y_Law_cell : MethodName := ⟨"CaseLayoutLaw", "cell", "([II)I"⟩
abbrev y_Law_count : MethodName := ⟨"CaseLayoutLaw", "count", "(LCaseLayout;I[J)I"⟩
abbrev y_Law_escape : MethodName := ⟨"CaseLayoutLaw", "escape", "(LCaseLayout;II[J)I"⟩
abbrev y_Law_exit : MethodName := ⟨"CaseLayoutLaw", "exit", "(LCaseLayout;II[J)I"⟩
abbrev y_Law_law : MethodName := ⟨"CaseLayoutLaw", "law", "([I)Z"⟩
abbrev y_Law_most : MethodName := ⟨"CaseLayoutLaw", "most", "(LCaseLayout;I[J)I"⟩
abbrev y_Law_place : MethodName := ⟨"CaseLayoutLaw", "place", "(LCaseLayout;II[J)I"⟩
abbrev y_Law_run : MethodName := ⟨"CaseLayoutLaw", "run", "(LCaseLayout;I[J)I"⟩
abbrev y_Law_sees : MethodName := ⟨"CaseLayoutLaw", "sees", "(LCaseLayout;IIZ[J)I"⟩
abbrev y_Law_sight : MethodName := ⟨"CaseLayoutLaw", "sight", "(LCaseLayout;II[J)I"⟩
abbrev y_Law_thing : MethodName := ⟨"CaseLayoutLaw", "thing", "(LCaseLayout;III[J)I"⟩
abbrev y_Law_wall : MethodName := ⟨"CaseLayoutLaw", "wall", "(LCaseLayout;IIZ[J)I"⟩
abbrev y_Law_wish : MethodName := ⟨"CaseLayoutLaw", "wish", "(LCaseLayout;III[J)I"⟩
abbrev y_Law_zone : MethodName := ⟨"CaseLayoutLaw", "zone", "(LCaseLayout;III[J)I"⟩
abbrev y_Mod_init : MethodName := ⟨"CaseLayoutModel", "<init>", "(II)V"⟩
abbrev y_Mod_apart : MethodName := ⟨"CaseLayoutModel", "apart", "(III)I"⟩
abbrev y_Mod_at : MethodName := ⟨"CaseLayoutModel", "at", "(II)I"⟩
abbrev y_Mod_between : MethodName := ⟨"CaseLayoutModel", "between", "(IIII)I"⟩
abbrev y_Mod_count : MethodName := ⟨"CaseLayoutModel", "count", "(I)I"⟩
abbrev y_Mod_covers : MethodName := ⟨"CaseLayoutModel", "covers", "(III)Z"⟩
abbrev y_Mod_cross : MethodName := ⟨"CaseLayoutModel", "cross", "(IIII)I"⟩
abbrev y_Mod_escape : MethodName := ⟨"CaseLayoutModel", "escape", "(II)I"⟩
abbrev y_Mod_escapes : MethodName := ⟨"CaseLayoutModel", "escapes", "(I)Z"⟩
abbrev y_Mod_exit : MethodName := ⟨"CaseLayoutModel", "exit", "(II)I"⟩
abbrev y_Mod_forget : MethodName := ⟨"CaseLayoutModel", "forget", "()V"⟩
abbrev y_Mod_gap : MethodName := ⟨"CaseLayoutModel", "gap", "(II)I"⟩
abbrev y_Mod_goesThrough : MethodName := ⟨"CaseLayoutModel", "goesThrough", "(IIIIII)Z"⟩
abbrev y_Mod_held : MethodName := ⟨"CaseLayoutModel", "held", "(I)I"⟩
abbrev y_Mod_in : MethodName := ⟨"CaseLayoutModel", "in", "(III)Z"⟩
abbrev y_Mod_isCell : MethodName := ⟨"CaseLayoutModel", "isCell", "(II)Z"⟩
abbrev y_Mod_isExit : MethodName := ⟨"CaseLayoutModel", "isExit", "(II)Z"⟩
abbrev y_Mod_isFree : MethodName := ⟨"CaseLayoutModel", "isFree", "(II)Z"⟩
abbrev y_Mod_isLayout : MethodName := ⟨"CaseLayoutModel", "isLayout", "()Z"⟩
abbrev y_Mod_isPlace : MethodName := ⟨"CaseLayoutModel", "isPlace", "(II)Z"⟩
abbrev y_Mod_isSeen : MethodName := ⟨"CaseLayoutModel", "isSeen", "(II)Z"⟩
abbrev y_Mod_isThing : MethodName := ⟨"CaseLayoutModel", "isThing", "(I)Z"⟩
abbrev y_Mod_keep : MethodName := ⟨"CaseLayoutModel", "keep", "()V"⟩
abbrev y_Mod_layBest : MethodName := ⟨"CaseLayoutModel", "layBest", "()V"⟩
abbrev y_Mod_lies : MethodName := ⟨"CaseLayoutModel", "lies", "(I)Z"⟩
abbrev y_Mod_measure : MethodName := ⟨"CaseLayoutModel", "measure", "()V"⟩
abbrev y_Mod_meets : MethodName := ⟨"CaseLayoutModel", "meets", "(II)Z"⟩
abbrev y_Mod_most : MethodName := ⟨"CaseLayoutModel", "most", "(I)I"⟩
abbrev y_Mod_nodes : MethodName := ⟨"CaseLayoutModel", "nodes", "()I"⟩
abbrev y_Mod_place : MethodName := ⟨"CaseLayoutModel", "place", "(II)I"⟩
abbrev y_Mod_run : MethodName := ⟨"CaseLayoutModel", "run", "(I)I"⟩
abbrev y_Mod_search : MethodName := ⟨"CaseLayoutModel", "search", "(I)Z"⟩
abbrev y_Mod_sees : MethodName := ⟨"CaseLayoutModel", "sees", "(IIZ)Z"⟩
abbrev y_Mod_sight : MethodName := ⟨"CaseLayoutModel", "sight", "(II)Z"⟩
abbrev y_Mod_stepsFrom : MethodName := ⟨"CaseLayoutModel", "stepsFrom", "(II)I"⟩
abbrev y_Mod_thing : MethodName := ⟨"CaseLayoutModel", "thing", "(III)I"⟩
abbrev y_Mod_throwing : MethodName := ⟨"CaseLayoutModel", "throwing", "(ZZZ)Z"⟩
abbrev y_Mod_thrown : MethodName := ⟨"CaseLayoutModel", "thrown", "()I"⟩
abbrev y_Mod_wall : MethodName := ⟨"CaseLayoutModel", "wall", "(IIZ)Z"⟩
abbrev y_Mod_wallCount : MethodName := ⟨"CaseLayoutModel", "wallCount", "()I"⟩
abbrev y_Mod_wish : MethodName := ⟨"CaseLayoutModel", "wish", "(III)I"⟩
abbrev y_Mod_worth : MethodName := ⟨"CaseLayoutModel", "worth", "()I"⟩
abbrev y_Mod_worthNow : MethodName := ⟨"CaseLayoutModel", "worthNow", "()I"⟩
abbrev y_Mod_zone : MethodName := ⟨"CaseLayoutModel", "zone", "(III)I"⟩
abbrev y_Arrays_fill : MethodName := ⟨"java/util/Arrays", "fill", "([II)V"⟩
theorem gs_0 : Cond.selects "CaseLayout" ⟨"CaseLayout", "needCell", "(II)V"⟩ ⟨"CaseLayout", "needCell", "(II)V"⟩ ∈ gx_T := List.mem_filter.mpr ⟨List.mem_append_left _ (List.mem_of_getElem? (i := 0) (by decide +kernel)), by decide +kernel⟩
theorem gs_1 : Cond.selects "java/lang/Throwable" ⟨"java/lang/Throwable", "fillInStackTrace", "(I)Ljava/lang/Throwable;"⟩ ⟨"java/lang/Throwable", "fillInStackTrace", "(I)Ljava/lang/Throwable;"⟩ ∈ gx_T := List.mem_filter.mpr ⟨List.mem_append_left _ (List.mem_of_getElem? (i := 1) (by decide +kernel)), by decide +kernel⟩
theorem gs_2 : Cond.selects "CaseLayout" ⟨"CaseLayout", "needPair", "(II)V"⟩ ⟨"CaseLayout", "needPair", "(II)V"⟩ ∈ gx_T := List.mem_filter.mpr ⟨List.mem_append_left _ (List.mem_of_getElem? (i := 2) (by decide +kernel)), by decide +kernel⟩
theorem gs_3 : Cond.selects "CaseLayout" ⟨"CaseLayout", "needThing", "(I)V"⟩ ⟨"CaseLayout", "needThing", "(I)V"⟩ ∈ gx_T := List.mem_filter.mpr ⟨List.mem_append_left _ (List.mem_of_getElem? (i := 3) (by decide +kernel)), by decide +kernel⟩
theorem gs_4 : Cond.selects "CaseLayout" ⟨"CaseLayout", "needPlace", "(I)V"⟩ ⟨"CaseLayout", "needPlace", "(I)V"⟩ ∈ gx_T := List.mem_filter.mpr ⟨List.mem_append_left _ (List.mem_of_getElem? (i := 4) (by decide +kernel)), by decide +kernel⟩
theorem gs_5 : Cond.selects "CaseLayout$Search" ⟨"CaseLayout$Search", "listSpots", "(I)V"⟩ ⟨"CaseLayout$Search", "listSpots", "(I)V"⟩ ∈ gx_T := List.mem_filter.mpr ⟨List.mem_append_left _ (List.mem_of_getElem? (i := 5) (by decide +kernel)), by decide +kernel⟩
theorem gs_6 : Cond.selects "CaseLayout$Search" ⟨"CaseLayout$Search", "judge", "(I)V"⟩ ⟨"CaseLayout$Search", "judge", "(I)V"⟩ ∈ gx_T := List.mem_filter.mpr ⟨List.mem_append_left _ (List.mem_of_getElem? (i := 6) (by decide +kernel)), by decide +kernel⟩
theorem gs_7 : Cond.selects "CaseLayout$Floor" ⟨"CaseLayout$Floor", "cover", "(LCaseLayout$Layout;I)V"⟩ ⟨"CaseLayout$Floor", "cover", "(LCaseLayout$Layout;I)V"⟩ ∈ gx_T := List.mem_filter.mpr ⟨List.mem_append_left _ (List.mem_of_getElem? (i := 7) (by decide +kernel)), by decide +kernel⟩
theorem gs_8 : Cond.selects "CaseLayout$Search" ⟨"CaseLayout$Search", "allSeen", "()Z"⟩ ⟨"CaseLayout$Search", "allSeen", "()Z"⟩ ∈ gx_T := List.mem_filter.mpr ⟨List.mem_append_left _ (List.mem_of_getElem? (i := 8) (by decide +kernel)), by decide +kernel⟩
theorem gs_9 : Cond.selects "CaseLayout$Floor" ⟨"CaseLayout$Floor", "hides", "(III)Z"⟩ ⟨"CaseLayout$Floor", "hides", "(III)Z"⟩ ∈ gx_T := List.mem_filter.mpr ⟨List.mem_append_left _ (List.mem_of_getElem? (i := 9) (by decide +kernel)), by decide +kernel⟩
theorem gs_10 : Cond.selects "CaseLayout$Search" ⟨"CaseLayout$Search", "allEscape", "()Z"⟩ ⟨"CaseLayout$Search", "allEscape", "()Z"⟩ ∈ gx_T := List.mem_filter.mpr ⟨List.mem_append_left _ (List.mem_of_getElem? (i := 10) (by decide +kernel)), by decide +kernel⟩
theorem gs_11 : Cond.selects "CaseLayout$Floor" ⟨"CaseLayout$Floor", "reach", "(III)V"⟩ ⟨"CaseLayout$Floor", "reach", "(III)V"⟩ ∈ gx_T := List.mem_filter.mpr ⟨List.mem_append_left _ (List.mem_of_getElem? (i := 11) (by decide +kernel)), by decide +kernel⟩
theorem gs_12 : Cond.selects "CaseLayout$Floor" ⟨"CaseLayout$Floor", "isNear", "(III)Z"⟩ ⟨"CaseLayout$Floor", "isNear", "(III)Z"⟩ ∈ gx_T := List.mem_filter.mpr ⟨List.mem_append_left _ (List.mem_of_getElem? (i := 12) (by decide +kernel)), by decide +kernel⟩
theorem gs_13 : Cond.selects "CaseLayout$Search" ⟨"CaseLayout$Search", "keepsApart", "(I)Z"⟩ ⟨"CaseLayout$Search", "keepsApart", "(I)Z"⟩ ∈ gx_T := List.mem_filter.mpr ⟨List.mem_append_left _ (List.mem_of_getElem? (i := 13) (by decide +kernel)), by decide +kernel⟩
theorem gs_14 : Cond.selects "CaseLayout$Search" ⟨"CaseLayout$Search", "gainOf", "(I)I"⟩ ⟨"CaseLayout$Search", "gainOf", "(I)I"⟩ ∈ gx_T := List.mem_filter.mpr ⟨List.mem_append_left _ (List.mem_of_getElem? (i := 14) (by decide +kernel)), by decide +kernel⟩
theorem gs_15 : Cond.selects "CaseLayout" ⟨"CaseLayout", "needFound", "()V"⟩ ⟨"CaseLayout", "needFound", "()V"⟩ ∈ gx_T := List.mem_filter.mpr ⟨List.mem_append_left _ (List.mem_of_getElem? (i := 15) (by decide +kernel)), by decide +kernel⟩
theorem gs_16 : Cond.selects "CaseLayoutModel" ⟨"CaseLayoutModel", "isCell", "(II)Z"⟩ ⟨"CaseLayoutModel", "isCell", "(II)Z"⟩ ∈ gx_T := List.mem_filter.mpr ⟨List.mem_append_left _ (List.mem_of_getElem? (i := 16) (by decide +kernel)), by decide +kernel⟩
theorem gs_17 : Cond.selects "CaseLayoutModel" ⟨"CaseLayoutModel", "throwing", "(ZZZ)Z"⟩ ⟨"CaseLayoutModel", "throwing", "(ZZZ)Z"⟩ ∈ gx_T := List.mem_filter.mpr ⟨List.mem_append_left _ (List.mem_of_getElem? (i := 17) (by decide +kernel)), by decide +kernel⟩
theorem gs_18 : Cond.selects "CaseLayoutModel" ⟨"CaseLayoutModel", "isExit", "(II)Z"⟩ ⟨"CaseLayoutModel", "isExit", "(II)Z"⟩ ∈ gx_T := List.mem_filter.mpr ⟨List.mem_append_left _ (List.mem_of_getElem? (i := 18) (by decide +kernel)), by decide +kernel⟩
theorem gs_19 : Cond.selects "CaseLayoutModel" ⟨"CaseLayoutModel", "isPlace", "(II)Z"⟩ ⟨"CaseLayoutModel", "isPlace", "(II)Z"⟩ ∈ gx_T := List.mem_filter.mpr ⟨List.mem_append_left _ (List.mem_of_getElem? (i := 19) (by decide +kernel)), by decide +kernel⟩
theorem gs_20 : Cond.selects "CaseLayoutModel" ⟨"CaseLayoutModel", "forget", "()V"⟩ ⟨"CaseLayoutModel", "forget", "()V"⟩ ∈ gx_T := List.mem_filter.mpr ⟨List.mem_append_left _ (List.mem_of_getElem? (i := 20) (by decide +kernel)), by decide +kernel⟩
theorem gs_21 : Cond.selects "CaseLayoutModel" ⟨"CaseLayoutModel", "isThing", "(I)Z"⟩ ⟨"CaseLayoutModel", "isThing", "(I)Z"⟩ ∈ gx_T := List.mem_filter.mpr ⟨List.mem_append_left _ (List.mem_of_getElem? (i := 21) (by decide +kernel)), by decide +kernel⟩
theorem gs_22 : Cond.selects "CaseLayoutModel" ⟨"CaseLayoutModel", "search", "(I)Z"⟩ ⟨"CaseLayoutModel", "search", "(I)Z"⟩ ∈ gx_T := List.mem_filter.mpr ⟨List.mem_append_left _ (List.mem_of_getElem? (i := 22) (by decide +kernel)), by decide +kernel⟩
theorem gs_23 : Cond.selects "CaseLayoutModel" ⟨"CaseLayoutModel", "isLayout", "()Z"⟩ ⟨"CaseLayoutModel", "isLayout", "()Z"⟩ ∈ gx_T := List.mem_filter.mpr ⟨List.mem_append_left _ (List.mem_of_getElem? (i := 23) (by decide +kernel)), by decide +kernel⟩
theorem gs_24 : Cond.selects "CaseLayoutModel" ⟨"CaseLayoutModel", "isSeen", "(II)Z"⟩ ⟨"CaseLayoutModel", "isSeen", "(II)Z"⟩ ∈ gx_T := List.mem_filter.mpr ⟨List.mem_append_left _ (List.mem_of_getElem? (i := 24) (by decide +kernel)), by decide +kernel⟩
theorem gs_25 : Cond.selects "CaseLayoutModel" ⟨"CaseLayoutModel", "covers", "(III)Z"⟩ ⟨"CaseLayoutModel", "covers", "(III)Z"⟩ ∈ gx_T := List.mem_filter.mpr ⟨List.mem_append_left _ (List.mem_of_getElem? (i := 25) (by decide +kernel)), by decide +kernel⟩
theorem gs_26 : Cond.selects "CaseLayoutModel" ⟨"CaseLayoutModel", "measure", "()V"⟩ ⟨"CaseLayoutModel", "measure", "()V"⟩ ∈ gx_T := List.mem_filter.mpr ⟨List.mem_append_left _ (List.mem_of_getElem? (i := 26) (by decide +kernel)), by decide +kernel⟩
theorem gs_27 : Cond.selects "CaseLayoutModel" ⟨"CaseLayoutModel", "isFree", "(II)Z"⟩ ⟨"CaseLayoutModel", "isFree", "(II)Z"⟩ ∈ gx_T := List.mem_filter.mpr ⟨List.mem_append_left _ (List.mem_of_getElem? (i := 27) (by decide +kernel)), by decide +kernel⟩
theorem gs_28 : Cond.selects "CaseLayoutModel" ⟨"CaseLayoutModel", "stepsFrom", "(II)I"⟩ ⟨"CaseLayoutModel", "stepsFrom", "(II)I"⟩ ∈ gx_T := List.mem_filter.mpr ⟨List.mem_append_left _ (List.mem_of_getElem? (i := 28) (by decide +kernel)), by decide +kernel⟩
theorem gs_29 : Cond.selects "CaseLayoutModel" ⟨"CaseLayoutModel", "escapes", "(I)Z"⟩ ⟨"CaseLayoutModel", "escapes", "(I)Z"⟩ ∈ gx_T := List.mem_filter.mpr ⟨List.mem_append_left _ (List.mem_of_getElem? (i := 29) (by decide +kernel)), by decide +kernel⟩
theorem gs_30 : Cond.selects "CaseLayoutModel" ⟨"CaseLayoutModel", "keep", "()V"⟩ ⟨"CaseLayoutModel", "keep", "()V"⟩ ∈ gx_T := List.mem_filter.mpr ⟨List.mem_append_left _ (List.mem_of_getElem? (i := 30) (by decide +kernel)), by decide +kernel⟩
theorem gs_31 : Cond.selects "CaseLayoutModel" ⟨"CaseLayoutModel", "worthNow", "()I"⟩ ⟨"CaseLayoutModel", "worthNow", "()I"⟩ ∈ gx_T := List.mem_filter.mpr ⟨List.mem_append_left _ (List.mem_of_getElem? (i := 31) (by decide +kernel)), by decide +kernel⟩
theorem gs_32 : Cond.selects "CaseLayoutModel" ⟨"CaseLayoutModel", "gap", "(II)I"⟩ ⟨"CaseLayoutModel", "gap", "(II)I"⟩ ∈ gx_T := List.mem_filter.mpr ⟨List.mem_append_left _ (List.mem_of_getElem? (i := 32) (by decide +kernel)), by decide +kernel⟩
theorem gs_33 : Cond.selects "CaseLayoutModel" ⟨"CaseLayoutModel", "lies", "(I)Z"⟩ ⟨"CaseLayoutModel", "lies", "(I)Z"⟩ ∈ gx_T := List.mem_filter.mpr ⟨List.mem_append_left _ (List.mem_of_getElem? (i := 33) (by decide +kernel)), by decide +kernel⟩
theorem gs_34 : Cond.selects "CaseLayoutModel" ⟨"CaseLayoutModel", "meets", "(II)Z"⟩ ⟨"CaseLayoutModel", "meets", "(II)Z"⟩ ∈ gx_T := List.mem_filter.mpr ⟨List.mem_append_left _ (List.mem_of_getElem? (i := 34) (by decide +kernel)), by decide +kernel⟩
theorem gs_35 : Cond.selects "CaseLayoutModel" ⟨"CaseLayoutModel", "layBest", "()V"⟩ ⟨"CaseLayoutModel", "layBest", "()V"⟩ ∈ gx_T := List.mem_filter.mpr ⟨List.mem_append_left _ (List.mem_of_getElem? (i := 35) (by decide +kernel)), by decide +kernel⟩
theorem gs_36 : Cond.selects "CaseLayoutModel" ⟨"CaseLayoutModel", "wallCount", "()I"⟩ ⟨"CaseLayoutModel", "wallCount", "()I"⟩ ∈ gx_T := List.mem_filter.mpr ⟨List.mem_append_left _ (List.mem_of_getElem? (i := 36) (by decide +kernel)), by decide +kernel⟩
theorem gw_0 : Cond.initialized "CaseLayoutLaw" ∈ gx_T := List.mem_filter.mpr ⟨List.mem_append_right _ (List.mem_of_getElem? (i := 0) (by decide +kernel)), by decide +kernel⟩
theorem gw_1 : Cond.initialized "CaseLayout" ∈ gx_T := List.mem_filter.mpr ⟨List.mem_append_right _ (List.mem_of_getElem? (i := 1) (by decide +kernel)), by decide +kernel⟩
theorem gw_2 : Cond.initialized "CaseLayout$Grid" ∈ gx_T := List.mem_filter.mpr ⟨List.mem_append_right _ (List.mem_of_getElem? (i := 2) (by decide +kernel)), by decide +kernel⟩
theorem gw_3 : Cond.initialized "java/lang/Math" ∈ gx_T := List.mem_filter.mpr ⟨List.mem_append_right _ (List.mem_of_getElem? (i := 3) (by decide +kernel)), by decide +kernel⟩
theorem gw_4 : Cond.initialized "CaseLayout$Things" ∈ gx_T := List.mem_filter.mpr ⟨List.mem_append_right _ (List.mem_of_getElem? (i := 4) (by decide +kernel)), by decide +kernel⟩
theorem gw_5 : Cond.initialized "CaseLayout$Places" ∈ gx_T := List.mem_filter.mpr ⟨List.mem_append_right _ (List.mem_of_getElem? (i := 5) (by decide +kernel)), by decide +kernel⟩
theorem gw_6 : Cond.initialized "CaseLayout$Exits" ∈ gx_T := List.mem_filter.mpr ⟨List.mem_append_right _ (List.mem_of_getElem? (i := 6) (by decide +kernel)), by decide +kernel⟩
theorem gw_7 : Cond.initialized "CaseLayout$Floor" ∈ gx_T := List.mem_filter.mpr ⟨List.mem_append_right _ (List.mem_of_getElem? (i := 7) (by decide +kernel)), by decide +kernel⟩
theorem gw_8 : Cond.initialized "CaseLayout$Search" ∈ gx_T := List.mem_filter.mpr ⟨List.mem_append_right _ (List.mem_of_getElem? (i := 8) (by decide +kernel)), by decide +kernel⟩
theorem gw_9 : Cond.initialized "CaseLayout$Layout" ∈ gx_T := List.mem_filter.mpr ⟨List.mem_append_right _ (List.mem_of_getElem? (i := 9) (by decide +kernel)), by decide +kernel⟩
theorem gw_10 : Cond.initialized "CaseLayoutModel" ∈ gx_T := List.mem_filter.mpr ⟨List.mem_append_right _ (List.mem_of_getElem? (i := 10) (by decide +kernel)), by decide +kernel⟩
theorem gw_11 : Cond.initialized "java/lang/Throwable" ∈ gx_T := List.mem_filter.mpr ⟨List.mem_append_right _ (List.mem_of_getElem? (i := 11) (by decide +kernel)), by decide +kernel⟩
theorem gw_12 : Cond.initialized "java/lang/Exception" ∈ gx_T := List.mem_filter.mpr ⟨List.mem_append_right _ (List.mem_of_getElem? (i := 12) (by decide +kernel)), by decide +kernel⟩
theorem gw_13 : Cond.initialized "java/lang/RuntimeException" ∈ gx_T := List.mem_filter.mpr ⟨List.mem_append_right _ (List.mem_of_getElem? (i := 13) (by decide +kernel)), by decide +kernel⟩
theorem gw_14 : Cond.initialized "java/lang/IndexOutOfBoundsException" ∈ gx_T := List.mem_filter.mpr ⟨List.mem_append_right _ (List.mem_of_getElem? (i := 14) (by decide +kernel)), by decide +kernel⟩
theorem gw_15 : Cond.initialized "java/lang/IllegalArgumentException" ∈ gx_T := List.mem_filter.mpr ⟨List.mem_append_right _ (List.mem_of_getElem? (i := 15) (by decide +kernel)), by decide +kernel⟩
theorem gw_16 : Cond.initialized "java/lang/IllegalStateException" ∈ gx_T := List.mem_filter.mpr ⟨List.mem_append_right _ (List.mem_of_getElem? (i := 16) (by decide +kernel)), by decide +kernel⟩
theorem gw_17 : Cond.initialized "java/util/Arrays" ∈ gx_T := List.mem_filter.mpr ⟨List.mem_append_right _ (List.mem_of_getElem? (i := 17) (by decide +kernel)), by decide +kernel⟩
theorem gw_18 : Cond.initialized "java/lang/System" ∈ gx_T := List.mem_filter.mpr ⟨List.mem_append_right _ (List.mem_of_getElem? (i := 18) (by decide +kernel)), by decide +kernel⟩
theorem gw_19 : Cond.classLink "CaseLayoutLaw" 8 "CaseLayout" ∈ gx_T := List.mem_filter.mpr ⟨List.mem_append_right _ (List.mem_of_getElem? (i := 19) (by decide +kernel)), by decide +kernel⟩
theorem gw_20 : Cond.instantiable "CaseLayout" 6 ∈ gx_T := List.mem_filter.mpr ⟨List.mem_append_right _ (List.mem_of_getElem? (i := 20) (by decide +kernel)), by decide +kernel⟩
theorem gw_21 : Cond.methodLink "CaseLayoutLaw" 68 ⟨"CaseLayout", "<init>", "(II)V"⟩ ∈ gx_T := List.mem_filter.mpr ⟨List.mem_append_right _ (List.mem_of_getElem? (i := 21) (by decide +kernel)), by decide +kernel⟩
theorem gw_22 : Cond.instanceMethod ⟨"CaseLayout", "<init>", "(II)V"⟩ ∈ gx_T := List.mem_filter.mpr ⟨List.mem_append_right _ (List.mem_of_getElem? (i := 22) (by decide +kernel)), by decide +kernel⟩
theorem gw_23 : Cond.code ⟨"CaseLayout", "<init>", "(II)V"⟩ prog_1_method_1_code 3 none ∈ gx_T := List.mem_filter.mpr ⟨List.mem_append_right _ (List.mem_of_getElem? (i := 23) (by decide +kernel)), by decide +kernel⟩
theorem gw_24 : Cond.methodLink "CaseLayout" 3 ⟨"java/lang/Object", "<init>", "()V"⟩ ∈ gx_T := List.mem_filter.mpr ⟨List.mem_append_right _ (List.mem_of_getElem? (i := 24) (by decide +kernel)), by decide +kernel⟩
theorem gw_25 : Cond.instanceMethod ⟨"java/lang/Object", "<init>", "()V"⟩ ∈ gx_T := List.mem_filter.mpr ⟨List.mem_append_right _ (List.mem_of_getElem? (i := 25) (by decide +kernel)), by decide +kernel⟩
theorem gw_26 : Cond.code ⟨"java/lang/Object", "<init>", "()V"⟩ object_method_1_code 1 none ∈ gx_T := List.mem_filter.mpr ⟨List.mem_append_right _ (List.mem_of_getElem? (i := 26) (by decide +kernel)), by decide +kernel⟩
theorem gw_27 : Cond.classLink "CaseLayout" 9 "CaseLayout$Grid" ∈ gx_T := List.mem_filter.mpr ⟨List.mem_append_right _ (List.mem_of_getElem? (i := 27) (by decide +kernel)), by decide +kernel⟩
theorem gw_28 : Cond.instantiable "CaseLayout$Grid" 5 ∈ gx_T := List.mem_filter.mpr ⟨List.mem_append_right _ (List.mem_of_getElem? (i := 28) (by decide +kernel)), by decide +kernel⟩
theorem gw_29 : Cond.methodLink "CaseLayout" 11 ⟨"CaseLayout", "within", "(III)I"⟩ ∈ gx_T := List.mem_filter.mpr ⟨List.mem_append_right _ (List.mem_of_getElem? (i := 29) (by decide +kernel)), by decide +kernel⟩
theorem gw_30 : Cond.static ⟨"CaseLayout", "within", "(III)I"⟩ ∈ gx_T := List.mem_filter.mpr ⟨List.mem_append_right _ (List.mem_of_getElem? (i := 30) (by decide +kernel)), by decide +kernel⟩
theorem gw_31 : Cond.code ⟨"CaseLayout", "within", "(III)I"⟩ prog_1_method_24_code 3 (some .int) ∈ gx_T := List.mem_filter.mpr ⟨List.mem_append_right _ (List.mem_of_getElem? (i := 31) (by decide +kernel)), by decide +kernel⟩
theorem gw_32 : Cond.methodLink "CaseLayout" 227 ⟨"java/lang/Math", "min", "(II)I"⟩ ∈ gx_T := List.mem_filter.mpr ⟨List.mem_append_right _ (List.mem_of_getElem? (i := 32) (by decide +kernel)), by decide +kernel⟩
theorem gw_33 : Cond.static ⟨"java/lang/Math", "min", "(II)I"⟩ ∈ gx_T := List.mem_filter.mpr ⟨List.mem_append_right _ (List.mem_of_getElem? (i := 33) (by decide +kernel)), by decide +kernel⟩
theorem gw_34 : Cond.code ⟨"java/lang/Math", "min", "(II)I"⟩ prog_15_method_69_code 2 (some .int) ∈ gx_T := List.mem_filter.mpr ⟨List.mem_append_right _ (List.mem_of_getElem? (i := 34) (by decide +kernel)), by decide +kernel⟩
theorem gw_35 : Cond.methodLink "CaseLayout" 232 ⟨"java/lang/Math", "max", "(II)I"⟩ ∈ gx_T := List.mem_filter.mpr ⟨List.mem_append_right _ (List.mem_of_getElem? (i := 35) (by decide +kernel)), by decide +kernel⟩
theorem gw_36 : Cond.static ⟨"java/lang/Math", "max", "(II)I"⟩ ∈ gx_T := List.mem_filter.mpr ⟨List.mem_append_right _ (List.mem_of_getElem? (i := 36) (by decide +kernel)), by decide +kernel⟩
theorem gw_37 : Cond.code ⟨"java/lang/Math", "max", "(II)I"⟩ prog_15_method_65_code 2 (some .int) ∈ gx_T := List.mem_filter.mpr ⟨List.mem_append_right _ (List.mem_of_getElem? (i := 37) (by decide +kernel)), by decide +kernel⟩
theorem gw_38 : Cond.methodLink "CaseLayout" 15 ⟨"CaseLayout$Grid", "<init>", "(II)V"⟩ ∈ gx_T := List.mem_filter.mpr ⟨List.mem_append_right _ (List.mem_of_getElem? (i := 38) (by decide +kernel)), by decide +kernel⟩
theorem gw_39 : Cond.instanceMethod ⟨"CaseLayout$Grid", "<init>", "(II)V"⟩ ∈ gx_T := List.mem_filter.mpr ⟨List.mem_append_right _ (List.mem_of_getElem? (i := 39) (by decide +kernel)), by decide +kernel⟩
theorem gw_40 : Cond.code ⟨"CaseLayout$Grid", "<init>", "(II)V"⟩ prog_4_method_1_code 3 none ∈ gx_T := List.mem_filter.mpr ⟨List.mem_append_right _ (List.mem_of_getElem? (i := 40) (by decide +kernel)), by decide +kernel⟩
theorem gw_41 : Cond.methodLink "CaseLayout$Grid" 3 ⟨"java/lang/Object", "<init>", "()V"⟩ ∈ gx_T := List.mem_filter.mpr ⟨List.mem_append_right _ (List.mem_of_getElem? (i := 41) (by decide +kernel)), by decide +kernel⟩
theorem gw_42 : Cond.fieldLink "CaseLayout$Grid" 23 "CaseLayout$Grid" "width" "I" ∈ gx_T := List.mem_filter.mpr ⟨List.mem_append_right _ (List.mem_of_getElem? (i := 42) (by decide +kernel)), by decide +kernel⟩
theorem gw_44 : Cond.fieldLink "CaseLayout$Grid" 26 "CaseLayout$Grid" "height" "I" ∈ gx_T := List.mem_filter.mpr ⟨List.mem_append_right _ (List.mem_of_getElem? (i := 44) (by decide +kernel)), by decide +kernel⟩
theorem gw_46 : Cond.fieldLink "CaseLayout$Grid" 9 "CaseLayout$Grid" "walls" "[Z" ∈ gx_T := List.mem_filter.mpr ⟨List.mem_append_right _ (List.mem_of_getElem? (i := 46) (by decide +kernel)), by decide +kernel⟩
theorem gw_49 : Cond.fieldLink "CaseLayout$Grid" 15 "CaseLayout$Grid" "classes" "[I" ∈ gx_T := List.mem_filter.mpr ⟨List.mem_append_right _ (List.mem_of_getElem? (i := 49) (by decide +kernel)), by decide +kernel⟩
theorem gw_51 : Cond.fieldLink "CaseLayout$Grid" 19 "CaseLayout$Grid" "wallCount" "I" ∈ gx_T := List.mem_filter.mpr ⟨List.mem_append_right _ (List.mem_of_getElem? (i := 51) (by decide +kernel)), by decide +kernel⟩
theorem gw_53 : Cond.laysFinal "CaseLayout$Grid" "CaseLayout$Grid" "width" "I" ∈ gx_T := List.mem_filter.mpr ⟨List.mem_append_right _ (List.mem_of_getElem? (i := 53) (by decide +kernel)), by decide +kernel⟩
theorem gw_55 : Cond.laysFinal "CaseLayout$Grid" "CaseLayout$Grid" "height" "I" ∈ gx_T := List.mem_filter.mpr ⟨List.mem_append_right _ (List.mem_of_getElem? (i := 55) (by decide +kernel)), by decide +kernel⟩
theorem gw_57 : Cond.laysFinal "CaseLayout$Grid" "CaseLayout$Grid" "walls" "[Z" ∈ gx_T := List.mem_filter.mpr ⟨List.mem_append_right _ (List.mem_of_getElem? (i := 57) (by decide +kernel)), by decide +kernel⟩
theorem gw_59 : Cond.laysFinal "CaseLayout$Grid" "CaseLayout$Grid" "classes" "[I" ∈ gx_T := List.mem_filter.mpr ⟨List.mem_append_right _ (List.mem_of_getElem? (i := 59) (by decide +kernel)), by decide +kernel⟩
theorem gw_61 : Cond.lays "CaseLayout$Grid" "CaseLayout$Grid" "wallCount" "I" ∈ gx_T := List.mem_filter.mpr ⟨List.mem_append_right _ (List.mem_of_getElem? (i := 61) (by decide +kernel)), by decide +kernel⟩
theorem gw_64 : Cond.arrayClass .boolean ∈ gx_T := List.mem_filter.mpr ⟨List.mem_append_right _ (List.mem_of_getElem? (i := 64) (by decide +kernel)), by decide +kernel⟩
theorem gw_65 : Cond.arrayClass .int ∈ gx_T := List.mem_filter.mpr ⟨List.mem_append_right _ (List.mem_of_getElem? (i := 65) (by decide +kernel)), by decide +kernel⟩
theorem gw_66 : Cond.classLink "CaseLayout" 22 "CaseLayout$Things" ∈ gx_T := List.mem_filter.mpr ⟨List.mem_append_right _ (List.mem_of_getElem? (i := 66) (by decide +kernel)), by decide +kernel⟩
theorem gw_67 : Cond.instantiable "CaseLayout$Things" 6 ∈ gx_T := List.mem_filter.mpr ⟨List.mem_append_right _ (List.mem_of_getElem? (i := 67) (by decide +kernel)), by decide +kernel⟩
theorem gw_69 : Cond.instanceMethod ⟨"CaseLayout$Things", "<init>", "()V"⟩ ∈ gx_T := List.mem_filter.mpr ⟨List.mem_append_right _ (List.mem_of_getElem? (i := 69) (by decide +kernel)), by decide +kernel⟩
theorem gw_70 : Cond.code ⟨"CaseLayout$Things", "<init>", "()V"⟩ prog_8_method_1_code 1 none ∈ gx_T := List.mem_filter.mpr ⟨List.mem_append_right _ (List.mem_of_getElem? (i := 70) (by decide +kernel)), by decide +kernel⟩
theorem gw_71 : Cond.methodLink "CaseLayout$Things" 3 ⟨"java/lang/Object", "<init>", "()V"⟩ ∈ gx_T := List.mem_filter.mpr ⟨List.mem_append_right _ (List.mem_of_getElem? (i := 71) (by decide +kernel)), by decide +kernel⟩
theorem gw_72 : Cond.fieldLink "CaseLayout$Things" 9 "CaseLayout$Things" "widths" "[I" ∈ gx_T := List.mem_filter.mpr ⟨List.mem_append_right _ (List.mem_of_getElem? (i := 72) (by decide +kernel)), by decide +kernel⟩
theorem gw_76 : Cond.fieldLink "CaseLayout$Things" 15 "CaseLayout$Things" "heights" "[I" ∈ gx_T := List.mem_filter.mpr ⟨List.mem_append_right _ (List.mem_of_getElem? (i := 76) (by decide +kernel)), by decide +kernel⟩
theorem gw_80 : Cond.fieldLink "CaseLayout$Things" 18 "CaseLayout$Things" "classes" "[I" ∈ gx_T := List.mem_filter.mpr ⟨List.mem_append_right _ (List.mem_of_getElem? (i := 80) (by decide +kernel)), by decide +kernel⟩
theorem gw_82 : Cond.fieldLink "CaseLayout$Things" 21 "CaseLayout$Things" "gaps" "[I" ∈ gx_T := List.mem_filter.mpr ⟨List.mem_append_right _ (List.mem_of_getElem? (i := 82) (by decide +kernel)), by decide +kernel⟩
theorem gw_85 : Cond.fieldLink "CaseLayout$Things" 24 "CaseLayout$Things" "wishes" "[I" ∈ gx_T := List.mem_filter.mpr ⟨List.mem_append_right _ (List.mem_of_getElem? (i := 85) (by decide +kernel)), by decide +kernel⟩
theorem gw_88 : Cond.fieldLink "CaseLayout$Things" 27 "CaseLayout$Things" "size" "I" ∈ gx_T := List.mem_filter.mpr ⟨List.mem_append_right _ (List.mem_of_getElem? (i := 88) (by decide +kernel)), by decide +kernel⟩
theorem gw_92 : Cond.laysFinal "CaseLayout$Things" "CaseLayout$Things" "widths" "[I" ∈ gx_T := List.mem_filter.mpr ⟨List.mem_append_right _ (List.mem_of_getElem? (i := 92) (by decide +kernel)), by decide +kernel⟩
theorem gw_94 : Cond.laysFinal "CaseLayout$Things" "CaseLayout$Things" "heights" "[I" ∈ gx_T := List.mem_filter.mpr ⟨List.mem_append_right _ (List.mem_of_getElem? (i := 94) (by decide +kernel)), by decide +kernel⟩
theorem gw_96 : Cond.laysFinal "CaseLayout$Things" "CaseLayout$Things" "classes" "[I" ∈ gx_T := List.mem_filter.mpr ⟨List.mem_append_right _ (List.mem_of_getElem? (i := 96) (by decide +kernel)), by decide +kernel⟩
theorem gw_98 : Cond.laysFinal "CaseLayout$Things" "CaseLayout$Things" "gaps" "[I" ∈ gx_T := List.mem_filter.mpr ⟨List.mem_append_right _ (List.mem_of_getElem? (i := 98) (by decide +kernel)), by decide +kernel⟩
theorem gw_100 : Cond.laysFinal "CaseLayout$Things" "CaseLayout$Things" "wishes" "[I" ∈ gx_T := List.mem_filter.mpr ⟨List.mem_append_right _ (List.mem_of_getElem? (i := 100) (by decide +kernel)), by decide +kernel⟩
theorem gw_102 : Cond.lays "CaseLayout$Things" "CaseLayout$Things" "size" "I" ∈ gx_T := List.mem_filter.mpr ⟨List.mem_append_right _ (List.mem_of_getElem? (i := 102) (by decide +kernel)), by decide +kernel⟩
theorem gw_105 : Cond.classLink "CaseLayout" 29 "CaseLayout$Places" ∈ gx_T := List.mem_filter.mpr ⟨List.mem_append_right _ (List.mem_of_getElem? (i := 105) (by decide +kernel)), by decide +kernel⟩
theorem gw_106 : Cond.instantiable "CaseLayout$Places" 4 ∈ gx_T := List.mem_filter.mpr ⟨List.mem_append_right _ (List.mem_of_getElem? (i := 106) (by decide +kernel)), by decide +kernel⟩
theorem gw_108 : Cond.instanceMethod ⟨"CaseLayout$Places", "<init>", "()V"⟩ ∈ gx_T := List.mem_filter.mpr ⟨List.mem_append_right _ (List.mem_of_getElem? (i := 108) (by decide +kernel)), by decide +kernel⟩
theorem gw_109 : Cond.code ⟨"CaseLayout$Places", "<init>", "()V"⟩ prog_6_method_1_code 1 none ∈ gx_T := List.mem_filter.mpr ⟨List.mem_append_right _ (List.mem_of_getElem? (i := 109) (by decide +kernel)), by decide +kernel⟩
theorem gw_110 : Cond.methodLink "CaseLayout$Places" 3 ⟨"java/lang/Object", "<init>", "()V"⟩ ∈ gx_T := List.mem_filter.mpr ⟨List.mem_append_right _ (List.mem_of_getElem? (i := 110) (by decide +kernel)), by decide +kernel⟩
theorem gw_111 : Cond.fieldLink "CaseLayout$Places" 9 "CaseLayout$Places" "xs" "[I" ∈ gx_T := List.mem_filter.mpr ⟨List.mem_append_right _ (List.mem_of_getElem? (i := 111) (by decide +kernel)), by decide +kernel⟩
theorem gw_114 : Cond.fieldLink "CaseLayout$Places" 15 "CaseLayout$Places" "ys" "[I" ∈ gx_T := List.mem_filter.mpr ⟨List.mem_append_right _ (List.mem_of_getElem? (i := 114) (by decide +kernel)), by decide +kernel⟩
theorem gw_117 : Cond.fieldLink "CaseLayout$Places" 18 "CaseLayout$Places" "musts" "[Z" ∈ gx_T := List.mem_filter.mpr ⟨List.mem_append_right _ (List.mem_of_getElem? (i := 117) (by decide +kernel)), by decide +kernel⟩
theorem gw_120 : Cond.fieldLink "CaseLayout$Places" 22 "CaseLayout$Places" "size" "I" ∈ gx_T := List.mem_filter.mpr ⟨List.mem_append_right _ (List.mem_of_getElem? (i := 120) (by decide +kernel)), by decide +kernel⟩
theorem gw_123 : Cond.laysFinal "CaseLayout$Places" "CaseLayout$Places" "xs" "[I" ∈ gx_T := List.mem_filter.mpr ⟨List.mem_append_right _ (List.mem_of_getElem? (i := 123) (by decide +kernel)), by decide +kernel⟩
theorem gw_125 : Cond.laysFinal "CaseLayout$Places" "CaseLayout$Places" "ys" "[I" ∈ gx_T := List.mem_filter.mpr ⟨List.mem_append_right _ (List.mem_of_getElem? (i := 125) (by decide +kernel)), by decide +kernel⟩
theorem gw_127 : Cond.laysFinal "CaseLayout$Places" "CaseLayout$Places" "musts" "[Z" ∈ gx_T := List.mem_filter.mpr ⟨List.mem_append_right _ (List.mem_of_getElem? (i := 127) (by decide +kernel)), by decide +kernel⟩
theorem gw_129 : Cond.lays "CaseLayout$Places" "CaseLayout$Places" "size" "I" ∈ gx_T := List.mem_filter.mpr ⟨List.mem_append_right _ (List.mem_of_getElem? (i := 129) (by decide +kernel)), by decide +kernel⟩
theorem gw_132 : Cond.classLink "CaseLayout" 36 "CaseLayout$Exits" ∈ gx_T := List.mem_filter.mpr ⟨List.mem_append_right _ (List.mem_of_getElem? (i := 132) (by decide +kernel)), by decide +kernel⟩
theorem gw_133 : Cond.instantiable "CaseLayout$Exits" 3 ∈ gx_T := List.mem_filter.mpr ⟨List.mem_append_right _ (List.mem_of_getElem? (i := 133) (by decide +kernel)), by decide +kernel⟩
theorem gw_135 : Cond.instanceMethod ⟨"CaseLayout$Exits", "<init>", "()V"⟩ ∈ gx_T := List.mem_filter.mpr ⟨List.mem_append_right _ (List.mem_of_getElem? (i := 135) (by decide +kernel)), by decide +kernel⟩
theorem gw_136 : Cond.code ⟨"CaseLayout$Exits", "<init>", "()V"⟩ prog_2_method_1_code 1 none ∈ gx_T := List.mem_filter.mpr ⟨List.mem_append_right _ (List.mem_of_getElem? (i := 136) (by decide +kernel)), by decide +kernel⟩
theorem gw_137 : Cond.methodLink "CaseLayout$Exits" 3 ⟨"java/lang/Object", "<init>", "()V"⟩ ∈ gx_T := List.mem_filter.mpr ⟨List.mem_append_right _ (List.mem_of_getElem? (i := 137) (by decide +kernel)), by decide +kernel⟩
theorem gw_138 : Cond.fieldLink "CaseLayout$Exits" 9 "CaseLayout$Exits" "cells" "[I" ∈ gx_T := List.mem_filter.mpr ⟨List.mem_append_right _ (List.mem_of_getElem? (i := 138) (by decide +kernel)), by decide +kernel⟩
theorem gw_140 : Cond.fieldLink "CaseLayout$Exits" 15 "CaseLayout$Exits" "size" "I" ∈ gx_T := List.mem_filter.mpr ⟨List.mem_append_right _ (List.mem_of_getElem? (i := 140) (by decide +kernel)), by decide +kernel⟩
theorem gw_144 : Cond.fieldLink "CaseLayout$Exits" 19 "CaseLayout$Exits" "furthest" "I" ∈ gx_T := List.mem_filter.mpr ⟨List.mem_append_right _ (List.mem_of_getElem? (i := 144) (by decide +kernel)), by decide +kernel⟩
theorem gw_147 : Cond.laysFinal "CaseLayout$Exits" "CaseLayout$Exits" "cells" "[I" ∈ gx_T := List.mem_filter.mpr ⟨List.mem_append_right _ (List.mem_of_getElem? (i := 147) (by decide +kernel)), by decide +kernel⟩
theorem gw_149 : Cond.lays "CaseLayout$Exits" "CaseLayout$Exits" "size" "I" ∈ gx_T := List.mem_filter.mpr ⟨List.mem_append_right _ (List.mem_of_getElem? (i := 149) (by decide +kernel)), by decide +kernel⟩
theorem gw_151 : Cond.lays "CaseLayout$Exits" "CaseLayout$Exits" "furthest" "I" ∈ gx_T := List.mem_filter.mpr ⟨List.mem_append_right _ (List.mem_of_getElem? (i := 151) (by decide +kernel)), by decide +kernel⟩
theorem gw_154 : Cond.classLink "CaseLayout" 43 "CaseLayout$Floor" ∈ gx_T := List.mem_filter.mpr ⟨List.mem_append_right _ (List.mem_of_getElem? (i := 154) (by decide +kernel)), by decide +kernel⟩
theorem gw_155 : Cond.instantiable "CaseLayout$Floor" 5 ∈ gx_T := List.mem_filter.mpr ⟨List.mem_append_right _ (List.mem_of_getElem? (i := 155) (by decide +kernel)), by decide +kernel⟩
theorem gw_156 : Cond.methodLink "CaseLayout" 45 ⟨"CaseLayout$Floor", "<init>", "(LCaseLayout$Grid;)V"⟩ ∈ gx_T := List.mem_filter.mpr ⟨List.mem_append_right _ (List.mem_of_getElem? (i := 156) (by decide +kernel)), by decide +kernel⟩
theorem gw_157 : Cond.instanceMethod ⟨"CaseLayout$Floor", "<init>", "(LCaseLayout$Grid;)V"⟩ ∈ gx_T := List.mem_filter.mpr ⟨List.mem_append_right _ (List.mem_of_getElem? (i := 157) (by decide +kernel)), by decide +kernel⟩
theorem gw_158 : Cond.code ⟨"CaseLayout$Floor", "<init>", "(LCaseLayout$Grid;)V"⟩ prog_3_method_1_code 2 none ∈ gx_T := List.mem_filter.mpr ⟨List.mem_append_right _ (List.mem_of_getElem? (i := 158) (by decide +kernel)), by decide +kernel⟩
theorem gw_159 : Cond.methodLink "CaseLayout$Floor" 3 ⟨"java/lang/Object", "<init>", "()V"⟩ ∈ gx_T := List.mem_filter.mpr ⟨List.mem_append_right _ (List.mem_of_getElem? (i := 159) (by decide +kernel)), by decide +kernel⟩
theorem gw_160 : Cond.fieldLink "CaseLayout$Floor" 25 "CaseLayout$Floor" "grid" "LCaseLayout$Grid;" ∈ gx_T := List.mem_filter.mpr ⟨List.mem_append_right _ (List.mem_of_getElem? (i := 160) (by decide +kernel)), by decide +kernel⟩
theorem gw_161 : Cond.fieldLink "CaseLayout$Floor" 9 "CaseLayout$Floor" "owners" "[I" ∈ gx_T := List.mem_filter.mpr ⟨List.mem_append_right _ (List.mem_of_getElem? (i := 161) (by decide +kernel)), by decide +kernel⟩
theorem gw_162 : Cond.fieldLink "CaseLayout$Floor" 15 "CaseLayout$Floor" "steps" "[I" ∈ gx_T := List.mem_filter.mpr ⟨List.mem_append_right _ (List.mem_of_getElem? (i := 162) (by decide +kernel)), by decide +kernel⟩
theorem gw_164 : Cond.fieldLink "CaseLayout$Floor" 18 "CaseLayout$Floor" "reached" "[I" ∈ gx_T := List.mem_filter.mpr ⟨List.mem_append_right _ (List.mem_of_getElem? (i := 164) (by decide +kernel)), by decide +kernel⟩
theorem gw_165 : Cond.fieldLink "CaseLayout$Floor" 21 "CaseLayout$Floor" "reachedCount" "I" ∈ gx_T := List.mem_filter.mpr ⟨List.mem_append_right _ (List.mem_of_getElem? (i := 165) (by decide +kernel)), by decide +kernel⟩
theorem gw_166 : Cond.laysFinal "CaseLayout$Floor" "CaseLayout$Floor" "grid" "LCaseLayout$Grid;" ∈ gx_T := List.mem_filter.mpr ⟨List.mem_append_right _ (List.mem_of_getElem? (i := 166) (by decide +kernel)), by decide +kernel⟩
theorem gw_168 : Cond.laysFinal "CaseLayout$Floor" "CaseLayout$Floor" "owners" "[I" ∈ gx_T := List.mem_filter.mpr ⟨List.mem_append_right _ (List.mem_of_getElem? (i := 168) (by decide +kernel)), by decide +kernel⟩
theorem gw_170 : Cond.laysFinal "CaseLayout$Floor" "CaseLayout$Floor" "steps" "[I" ∈ gx_T := List.mem_filter.mpr ⟨List.mem_append_right _ (List.mem_of_getElem? (i := 170) (by decide +kernel)), by decide +kernel⟩
theorem gw_172 : Cond.laysFinal "CaseLayout$Floor" "CaseLayout$Floor" "reached" "[I" ∈ gx_T := List.mem_filter.mpr ⟨List.mem_append_right _ (List.mem_of_getElem? (i := 172) (by decide +kernel)), by decide +kernel⟩
theorem gw_174 : Cond.lays "CaseLayout$Floor" "CaseLayout$Floor" "reachedCount" "I" ∈ gx_T := List.mem_filter.mpr ⟨List.mem_append_right _ (List.mem_of_getElem? (i := 174) (by decide +kernel)), by decide +kernel⟩
theorem gw_177 : Cond.classLink "CaseLayout" 52 "CaseLayout$Search" ∈ gx_T := List.mem_filter.mpr ⟨List.mem_append_right _ (List.mem_of_getElem? (i := 177) (by decide +kernel)), by decide +kernel⟩
theorem gw_178 : Cond.instantiable "CaseLayout$Search" 12 ∈ gx_T := List.mem_filter.mpr ⟨List.mem_append_right _ (List.mem_of_getElem? (i := 178) (by decide +kernel)), by decide +kernel⟩
theorem gw_179 : Cond.methodLink "CaseLayout" 54 ⟨"CaseLayout$Search", "<init>", "(LCaseLayout$Grid;LCaseLayout$Things;LCaseLayout$Places;LCaseLayout$Exits;LCaseLayout$Floor;)V"⟩ ∈ gx_T := List.mem_filter.mpr ⟨List.mem_append_right _ (List.mem_of_getElem? (i := 179) (by decide +kernel)), by decide +kernel⟩
theorem gw_180 : Cond.instanceMethod ⟨"CaseLayout$Search", "<init>", "(LCaseLayout$Grid;LCaseLayout$Things;LCaseLayout$Places;LCaseLayout$Exits;LCaseLayout$Floor;)V"⟩ ∈ gx_T := List.mem_filter.mpr ⟨List.mem_append_right _ (List.mem_of_getElem? (i := 180) (by decide +kernel)), by decide +kernel⟩
theorem gw_181 : Cond.code ⟨"CaseLayout$Search", "<init>", "(LCaseLayout$Grid;LCaseLayout$Things;LCaseLayout$Places;LCaseLayout$Exits;LCaseLayout$Floor;)V"⟩ prog_7_method_1_code 6 none ∈ gx_T := List.mem_filter.mpr ⟨List.mem_append_right _ (List.mem_of_getElem? (i := 181) (by decide +kernel)), by decide +kernel⟩
theorem gw_182 : Cond.methodLink "CaseLayout$Search" 3 ⟨"java/lang/Object", "<init>", "()V"⟩ ∈ gx_T := List.mem_filter.mpr ⟨List.mem_append_right _ (List.mem_of_getElem? (i := 182) (by decide +kernel)), by decide +kernel⟩
theorem gw_183 : Cond.classLink "CaseLayout$Search" 48 "CaseLayout$Layout" ∈ gx_T := List.mem_filter.mpr ⟨List.mem_append_right _ (List.mem_of_getElem? (i := 183) (by decide +kernel)), by decide +kernel⟩
theorem gw_184 : Cond.instantiable "CaseLayout$Layout" 3 ∈ gx_T := List.mem_filter.mpr ⟨List.mem_append_right _ (List.mem_of_getElem? (i := 184) (by decide +kernel)), by decide +kernel⟩
theorem gw_185 : Cond.methodLink "CaseLayout$Search" 50 ⟨"CaseLayout$Layout", "<init>", "(LCaseLayout$Things;)V"⟩ ∈ gx_T := List.mem_filter.mpr ⟨List.mem_append_right _ (List.mem_of_getElem? (i := 185) (by decide +kernel)), by decide +kernel⟩
theorem gw_186 : Cond.instanceMethod ⟨"CaseLayout$Layout", "<init>", "(LCaseLayout$Things;)V"⟩ ∈ gx_T := List.mem_filter.mpr ⟨List.mem_append_right _ (List.mem_of_getElem? (i := 186) (by decide +kernel)), by decide +kernel⟩
theorem gw_187 : Cond.code ⟨"CaseLayout$Layout", "<init>", "(LCaseLayout$Things;)V"⟩ prog_5_method_1_code 2 none ∈ gx_T := List.mem_filter.mpr ⟨List.mem_append_right _ (List.mem_of_getElem? (i := 187) (by decide +kernel)), by decide +kernel⟩
theorem gw_188 : Cond.methodLink "CaseLayout$Layout" 3 ⟨"java/lang/Object", "<init>", "()V"⟩ ∈ gx_T := List.mem_filter.mpr ⟨List.mem_append_right _ (List.mem_of_getElem? (i := 188) (by decide +kernel)), by decide +kernel⟩
theorem gw_189 : Cond.fieldLink "CaseLayout$Layout" 18 "CaseLayout$Layout" "things" "LCaseLayout$Things;" ∈ gx_T := List.mem_filter.mpr ⟨List.mem_append_right _ (List.mem_of_getElem? (i := 189) (by decide +kernel)), by decide +kernel⟩
theorem gw_191 : Cond.fieldLink "CaseLayout$Layout" 9 "CaseLayout$Layout" "xs" "[I" ∈ gx_T := List.mem_filter.mpr ⟨List.mem_append_right _ (List.mem_of_getElem? (i := 191) (by decide +kernel)), by decide +kernel⟩
theorem gw_195 : Cond.fieldLink "CaseLayout$Layout" 15 "CaseLayout$Layout" "ys" "[I" ∈ gx_T := List.mem_filter.mpr ⟨List.mem_append_right _ (List.mem_of_getElem? (i := 195) (by decide +kernel)), by decide +kernel⟩
theorem gw_199 : Cond.laysFinal "CaseLayout$Layout" "CaseLayout$Layout" "things" "LCaseLayout$Things;" ∈ gx_T := List.mem_filter.mpr ⟨List.mem_append_right _ (List.mem_of_getElem? (i := 199) (by decide +kernel)), by decide +kernel⟩
theorem gw_201 : Cond.laysFinal "CaseLayout$Layout" "CaseLayout$Layout" "xs" "[I" ∈ gx_T := List.mem_filter.mpr ⟨List.mem_append_right _ (List.mem_of_getElem? (i := 201) (by decide +kernel)), by decide +kernel⟩
theorem gw_203 : Cond.laysFinal "CaseLayout$Layout" "CaseLayout$Layout" "ys" "[I" ∈ gx_T := List.mem_filter.mpr ⟨List.mem_append_right _ (List.mem_of_getElem? (i := 203) (by decide +kernel)), by decide +kernel⟩
theorem gw_206 : Cond.fieldLink "CaseLayout$Search" 28 "CaseLayout$Search" "grid" "LCaseLayout$Grid;" ∈ gx_T := List.mem_filter.mpr ⟨List.mem_append_right _ (List.mem_of_getElem? (i := 206) (by decide +kernel)), by decide +kernel⟩
theorem gw_207 : Cond.fieldLink "CaseLayout$Search" 32 "CaseLayout$Search" "things" "LCaseLayout$Things;" ∈ gx_T := List.mem_filter.mpr ⟨List.mem_append_right _ (List.mem_of_getElem? (i := 207) (by decide +kernel)), by decide +kernel⟩
theorem gw_208 : Cond.fieldLink "CaseLayout$Search" 36 "CaseLayout$Search" "places" "LCaseLayout$Places;" ∈ gx_T := List.mem_filter.mpr ⟨List.mem_append_right _ (List.mem_of_getElem? (i := 208) (by decide +kernel)), by decide +kernel⟩
theorem gw_209 : Cond.fieldLink "CaseLayout$Search" 40 "CaseLayout$Search" "exits" "LCaseLayout$Exits;" ∈ gx_T := List.mem_filter.mpr ⟨List.mem_append_right _ (List.mem_of_getElem? (i := 209) (by decide +kernel)), by decide +kernel⟩
theorem gw_210 : Cond.fieldLink "CaseLayout$Search" 44 "CaseLayout$Search" "floor" "LCaseLayout$Floor;" ∈ gx_T := List.mem_filter.mpr ⟨List.mem_append_right _ (List.mem_of_getElem? (i := 210) (by decide +kernel)), by decide +kernel⟩
theorem gw_211 : Cond.fieldLink "CaseLayout$Search" 53 "CaseLayout$Search" "trial" "LCaseLayout$Layout;" ∈ gx_T := List.mem_filter.mpr ⟨List.mem_append_right _ (List.mem_of_getElem? (i := 211) (by decide +kernel)), by decide +kernel⟩
theorem gw_212 : Cond.fieldLink "CaseLayout$Search" 57 "CaseLayout$Search" "best" "LCaseLayout$Layout;" ∈ gx_T := List.mem_filter.mpr ⟨List.mem_append_right _ (List.mem_of_getElem? (i := 212) (by decide +kernel)), by decide +kernel⟩
theorem gw_214 : Cond.fieldLink "CaseLayout$Search" 9 "CaseLayout$Search" "spots" "[I" ∈ gx_T := List.mem_filter.mpr ⟨List.mem_append_right _ (List.mem_of_getElem? (i := 214) (by decide +kernel)), by decide +kernel⟩
theorem gw_215 : Cond.fieldLink "CaseLayout$Search" 15 "CaseLayout$Search" "spotCounts" "[I" ∈ gx_T := List.mem_filter.mpr ⟨List.mem_append_right _ (List.mem_of_getElem? (i := 215) (by decide +kernel)), by decide +kernel⟩
theorem gw_216 : Cond.fieldLink "CaseLayout$Search" 18 "CaseLayout$Search" "limit" "I" ∈ gx_T := List.mem_filter.mpr ⟨List.mem_append_right _ (List.mem_of_getElem? (i := 216) (by decide +kernel)), by decide +kernel⟩
theorem gw_217 : Cond.fieldLink "CaseLayout$Search" 22 "CaseLayout$Search" "nodeCount" "I" ∈ gx_T := List.mem_filter.mpr ⟨List.mem_append_right _ (List.mem_of_getElem? (i := 217) (by decide +kernel)), by decide +kernel⟩
theorem gw_219 : Cond.fieldLink "CaseLayout$Search" 25 "CaseLayout$Search" "bestWorth" "I" ∈ gx_T := List.mem_filter.mpr ⟨List.mem_append_right _ (List.mem_of_getElem? (i := 219) (by decide +kernel)), by decide +kernel⟩
theorem gw_221 : Cond.laysFinal "CaseLayout$Search" "CaseLayout$Search" "grid" "LCaseLayout$Grid;" ∈ gx_T := List.mem_filter.mpr ⟨List.mem_append_right _ (List.mem_of_getElem? (i := 221) (by decide +kernel)), by decide +kernel⟩
theorem gw_223 : Cond.laysFinal "CaseLayout$Search" "CaseLayout$Search" "things" "LCaseLayout$Things;" ∈ gx_T := List.mem_filter.mpr ⟨List.mem_append_right _ (List.mem_of_getElem? (i := 223) (by decide +kernel)), by decide +kernel⟩
theorem gw_225 : Cond.laysFinal "CaseLayout$Search" "CaseLayout$Search" "places" "LCaseLayout$Places;" ∈ gx_T := List.mem_filter.mpr ⟨List.mem_append_right _ (List.mem_of_getElem? (i := 225) (by decide +kernel)), by decide +kernel⟩
theorem gw_227 : Cond.laysFinal "CaseLayout$Search" "CaseLayout$Search" "exits" "LCaseLayout$Exits;" ∈ gx_T := List.mem_filter.mpr ⟨List.mem_append_right _ (List.mem_of_getElem? (i := 227) (by decide +kernel)), by decide +kernel⟩
theorem gw_229 : Cond.laysFinal "CaseLayout$Search" "CaseLayout$Search" "floor" "LCaseLayout$Floor;" ∈ gx_T := List.mem_filter.mpr ⟨List.mem_append_right _ (List.mem_of_getElem? (i := 229) (by decide +kernel)), by decide +kernel⟩
theorem gw_231 : Cond.laysFinal "CaseLayout$Search" "CaseLayout$Search" "trial" "LCaseLayout$Layout;" ∈ gx_T := List.mem_filter.mpr ⟨List.mem_append_right _ (List.mem_of_getElem? (i := 231) (by decide +kernel)), by decide +kernel⟩
theorem gw_233 : Cond.laysFinal "CaseLayout$Search" "CaseLayout$Search" "best" "LCaseLayout$Layout;" ∈ gx_T := List.mem_filter.mpr ⟨List.mem_append_right _ (List.mem_of_getElem? (i := 233) (by decide +kernel)), by decide +kernel⟩
theorem gw_235 : Cond.laysFinal "CaseLayout$Search" "CaseLayout$Search" "spots" "[I" ∈ gx_T := List.mem_filter.mpr ⟨List.mem_append_right _ (List.mem_of_getElem? (i := 235) (by decide +kernel)), by decide +kernel⟩
theorem gw_237 : Cond.laysFinal "CaseLayout$Search" "CaseLayout$Search" "spotCounts" "[I" ∈ gx_T := List.mem_filter.mpr ⟨List.mem_append_right _ (List.mem_of_getElem? (i := 237) (by decide +kernel)), by decide +kernel⟩
theorem gw_239 : Cond.lays "CaseLayout$Search" "CaseLayout$Search" "limit" "I" ∈ gx_T := List.mem_filter.mpr ⟨List.mem_append_right _ (List.mem_of_getElem? (i := 239) (by decide +kernel)), by decide +kernel⟩
theorem gw_241 : Cond.lays "CaseLayout$Search" "CaseLayout$Search" "nodeCount" "I" ∈ gx_T := List.mem_filter.mpr ⟨List.mem_append_right _ (List.mem_of_getElem? (i := 241) (by decide +kernel)), by decide +kernel⟩
theorem gw_243 : Cond.lays "CaseLayout$Search" "CaseLayout$Search" "bestWorth" "I" ∈ gx_T := List.mem_filter.mpr ⟨List.mem_append_right _ (List.mem_of_getElem? (i := 243) (by decide +kernel)), by decide +kernel⟩
theorem gw_246 : Cond.fieldLink "CaseLayout" 18 "CaseLayout" "grid" "LCaseLayout$Grid;" ∈ gx_T := List.mem_filter.mpr ⟨List.mem_append_right _ (List.mem_of_getElem? (i := 246) (by decide +kernel)), by decide +kernel⟩
theorem gw_247 : Cond.fieldLink "CaseLayout" 25 "CaseLayout" "things" "LCaseLayout$Things;" ∈ gx_T := List.mem_filter.mpr ⟨List.mem_append_right _ (List.mem_of_getElem? (i := 247) (by decide +kernel)), by decide +kernel⟩
theorem gw_248 : Cond.fieldLink "CaseLayout" 32 "CaseLayout" "places" "LCaseLayout$Places;" ∈ gx_T := List.mem_filter.mpr ⟨List.mem_append_right _ (List.mem_of_getElem? (i := 248) (by decide +kernel)), by decide +kernel⟩
theorem gw_249 : Cond.fieldLink "CaseLayout" 39 "CaseLayout" "exits" "LCaseLayout$Exits;" ∈ gx_T := List.mem_filter.mpr ⟨List.mem_append_right _ (List.mem_of_getElem? (i := 249) (by decide +kernel)), by decide +kernel⟩
theorem gw_250 : Cond.fieldLink "CaseLayout" 48 "CaseLayout" "floor" "LCaseLayout$Floor;" ∈ gx_T := List.mem_filter.mpr ⟨List.mem_append_right _ (List.mem_of_getElem? (i := 250) (by decide +kernel)), by decide +kernel⟩
theorem gw_251 : Cond.fieldLink "CaseLayout" 57 "CaseLayout" "search" "LCaseLayout$Search;" ∈ gx_T := List.mem_filter.mpr ⟨List.mem_append_right _ (List.mem_of_getElem? (i := 251) (by decide +kernel)), by decide +kernel⟩
theorem gw_252 : Cond.laysFinal "CaseLayout" "CaseLayout" "grid" "LCaseLayout$Grid;" ∈ gx_T := List.mem_filter.mpr ⟨List.mem_append_right _ (List.mem_of_getElem? (i := 252) (by decide +kernel)), by decide +kernel⟩
theorem gw_254 : Cond.laysFinal "CaseLayout" "CaseLayout" "things" "LCaseLayout$Things;" ∈ gx_T := List.mem_filter.mpr ⟨List.mem_append_right _ (List.mem_of_getElem? (i := 254) (by decide +kernel)), by decide +kernel⟩
theorem gw_256 : Cond.laysFinal "CaseLayout" "CaseLayout" "places" "LCaseLayout$Places;" ∈ gx_T := List.mem_filter.mpr ⟨List.mem_append_right _ (List.mem_of_getElem? (i := 256) (by decide +kernel)), by decide +kernel⟩
theorem gw_258 : Cond.laysFinal "CaseLayout" "CaseLayout" "exits" "LCaseLayout$Exits;" ∈ gx_T := List.mem_filter.mpr ⟨List.mem_append_right _ (List.mem_of_getElem? (i := 258) (by decide +kernel)), by decide +kernel⟩
theorem gw_260 : Cond.laysFinal "CaseLayout" "CaseLayout" "floor" "LCaseLayout$Floor;" ∈ gx_T := List.mem_filter.mpr ⟨List.mem_append_right _ (List.mem_of_getElem? (i := 260) (by decide +kernel)), by decide +kernel⟩
theorem gw_262 : Cond.laysFinal "CaseLayout" "CaseLayout" "search" "LCaseLayout$Search;" ∈ gx_T := List.mem_filter.mpr ⟨List.mem_append_right _ (List.mem_of_getElem? (i := 262) (by decide +kernel)), by decide +kernel⟩
theorem gw_265 : Cond.methodLink "CaseLayoutLaw" 112 ⟨"CaseLayout", "nodes", "()I"⟩ ∈ gx_T := List.mem_filter.mpr ⟨List.mem_append_right _ (List.mem_of_getElem? (i := 265) (by decide +kernel)), by decide +kernel⟩
theorem gw_266 : Cond.instanceMethod ⟨"CaseLayout", "nodes", "()I"⟩ ∈ gx_T := List.mem_filter.mpr ⟨List.mem_append_right _ (List.mem_of_getElem? (i := 266) (by decide +kernel)), by decide +kernel⟩
theorem gw_267 : Cond.selects "CaseLayout" ⟨"CaseLayout", "nodes", "()I"⟩ ⟨"CaseLayout", "nodes", "()I"⟩ ∈ gx_T := List.mem_filter.mpr ⟨List.mem_append_right _ (List.mem_of_getElem? (i := 267) (by decide +kernel)), by decide +kernel⟩
theorem gw_268 : Cond.code ⟨"CaseLayout", "nodes", "()I"⟩ prog_1_method_12_code 1 (some .int) ∈ gx_T := List.mem_filter.mpr ⟨List.mem_append_right _ (List.mem_of_getElem? (i := 268) (by decide +kernel)), by decide +kernel⟩
theorem gw_269 : Cond.methodLink "CaseLayoutLaw" 119 ⟨"CaseLayout", "worth", "()I"⟩ ∈ gx_T := List.mem_filter.mpr ⟨List.mem_append_right _ (List.mem_of_getElem? (i := 269) (by decide +kernel)), by decide +kernel⟩
theorem gw_270 : Cond.instanceMethod ⟨"CaseLayout", "worth", "()I"⟩ ∈ gx_T := List.mem_filter.mpr ⟨List.mem_append_right _ (List.mem_of_getElem? (i := 270) (by decide +kernel)), by decide +kernel⟩
theorem gw_271 : Cond.selects "CaseLayout" ⟨"CaseLayout", "worth", "()I"⟩ ⟨"CaseLayout", "worth", "()I"⟩ ∈ gx_T := List.mem_filter.mpr ⟨List.mem_append_right _ (List.mem_of_getElem? (i := 271) (by decide +kernel)), by decide +kernel⟩
theorem gw_272 : Cond.code ⟨"CaseLayout", "worth", "()I"⟩ prog_1_method_14_code 1 (some .int) ∈ gx_T := List.mem_filter.mpr ⟨List.mem_append_right _ (List.mem_of_getElem? (i := 272) (by decide +kernel)), by decide +kernel⟩
theorem gw_273 : Cond.methodLink "CaseLayoutLaw" 62 ⟨"CaseLayoutLaw", "cell", "([II)I"⟩ ∈ gx_T := List.mem_filter.mpr ⟨List.mem_append_right _ (List.mem_of_getElem? (i := 273) (by decide +kernel)), by decide +kernel⟩
theorem gw_274 : Cond.static ⟨"CaseLayoutLaw", "cell", "([II)I"⟩ ∈ gx_T := List.mem_filter.mpr ⟨List.mem_append_right _ (List.mem_of_getElem? (i := 274) (by decide +kernel)), by decide +kernel⟩
theorem gw_275 : Cond.code ⟨"CaseLayoutLaw", "cell", "([II)I"⟩ method_2_code 2 (some .int) ∈ gx_T := List.mem_filter.mpr ⟨List.mem_append_right _ (List.mem_of_getElem? (i := 275) (by decide +kernel)), by decide +kernel⟩
theorem gw_276 : Cond.methodLink "CaseLayoutLaw" 74 ⟨"CaseLayoutLaw", "wall", "(LCaseLayout;IIZ[J)I"⟩ ∈ gx_T := List.mem_filter.mpr ⟨List.mem_append_right _ (List.mem_of_getElem? (i := 276) (by decide +kernel)), by decide +kernel⟩
theorem gw_277 : Cond.static ⟨"CaseLayoutLaw", "wall", "(LCaseLayout;IIZ[J)I"⟩ ∈ gx_T := List.mem_filter.mpr ⟨List.mem_append_right _ (List.mem_of_getElem? (i := 277) (by decide +kernel)), by decide +kernel⟩
theorem gw_278 : Cond.codeWith ⟨"CaseLayoutLaw", "wall", "(LCaseLayout;IIZ[J)I"⟩ method_3_code 6 (some .int) [(0, 19, 22, 13)] ∈ gx_T := List.mem_filter.mpr ⟨List.mem_append_right _ (List.mem_of_getElem? (i := 278) (by decide +kernel)), by decide +kernel⟩
theorem gw_279 : Cond.classLink "CaseLayoutLaw" 13 "java/lang/IndexOutOfBoundsException" ∈ gx_T := List.mem_filter.mpr ⟨List.mem_append_right _ (List.mem_of_getElem? (i := 279) (by decide +kernel)), by decide +kernel⟩
theorem gw_280 : Cond.methodLink "CaseLayoutLaw" 7 ⟨"CaseLayout", "wall", "(IIZ)Z"⟩ ∈ gx_T := List.mem_filter.mpr ⟨List.mem_append_right _ (List.mem_of_getElem? (i := 280) (by decide +kernel)), by decide +kernel⟩
theorem gw_281 : Cond.instanceMethod ⟨"CaseLayout", "wall", "(IIZ)Z"⟩ ∈ gx_T := List.mem_filter.mpr ⟨List.mem_append_right _ (List.mem_of_getElem? (i := 281) (by decide +kernel)), by decide +kernel⟩
theorem gw_282 : Cond.selects "CaseLayout" ⟨"CaseLayout", "wall", "(IIZ)Z"⟩ ⟨"CaseLayout", "wall", "(IIZ)Z"⟩ ∈ gx_T := List.mem_filter.mpr ⟨List.mem_append_right _ (List.mem_of_getElem? (i := 282) (by decide +kernel)), by decide +kernel⟩
theorem gw_283 : Cond.code ⟨"CaseLayout", "wall", "(IIZ)Z"⟩ prog_1_method_2_code 5 (some .boolean) ∈ gx_T := List.mem_filter.mpr ⟨List.mem_append_right _ (List.mem_of_getElem? (i := 283) (by decide +kernel)), by decide +kernel⟩
theorem gw_284 : Cond.methodLink "CaseLayout" 61 ⟨"CaseLayout", "needCell", "(II)V"⟩ ∈ gx_T := List.mem_filter.mpr ⟨List.mem_append_right _ (List.mem_of_getElem? (i := 284) (by decide +kernel)), by decide +kernel⟩
theorem gw_286 : Cond.instanceMethod ⟨"CaseLayout", "needCell", "(II)V"⟩ ∈ gx_T := List.mem_filter.mpr ⟨List.mem_append_right _ (List.mem_of_getElem? (i := 286) (by decide +kernel)), by decide +kernel⟩
theorem gw_287 : Cond.code ⟨"CaseLayout", "needCell", "(II)V"⟩ prog_1_method_18_code 3 none ∈ gx_T := List.mem_filter.mpr ⟨List.mem_append_right _ (List.mem_of_getElem? (i := 287) (by decide +kernel)), by decide +kernel⟩
theorem gw_288 : Cond.methodLink "CaseLayout" 212 ⟨"CaseLayout$Grid", "holds", "(II)Z"⟩ ∈ gx_T := List.mem_filter.mpr ⟨List.mem_append_right _ (List.mem_of_getElem? (i := 288) (by decide +kernel)), by decide +kernel⟩
theorem gw_289 : Cond.instanceMethod ⟨"CaseLayout$Grid", "holds", "(II)Z"⟩ ∈ gx_T := List.mem_filter.mpr ⟨List.mem_append_right _ (List.mem_of_getElem? (i := 289) (by decide +kernel)), by decide +kernel⟩
theorem gw_290 : Cond.selects "CaseLayout$Grid" ⟨"CaseLayout$Grid", "holds", "(II)Z"⟩ ⟨"CaseLayout$Grid", "holds", "(II)Z"⟩ ∈ gx_T := List.mem_filter.mpr ⟨List.mem_append_right _ (List.mem_of_getElem? (i := 290) (by decide +kernel)), by decide +kernel⟩
theorem gw_291 : Cond.code ⟨"CaseLayout$Grid", "holds", "(II)Z"⟩ prog_4_method_2_code 3 (some .boolean) ∈ gx_T := List.mem_filter.mpr ⟨List.mem_append_right _ (List.mem_of_getElem? (i := 291) (by decide +kernel)), by decide +kernel⟩
theorem gw_292 : Cond.classLink "CaseLayout" 167 "java/lang/IndexOutOfBoundsException" ∈ gx_T := List.mem_filter.mpr ⟨List.mem_append_right _ (List.mem_of_getElem? (i := 292) (by decide +kernel)), by decide +kernel⟩
theorem gw_293 : Cond.instantiable "java/lang/IndexOutOfBoundsException" 6 ∈ gx_T := List.mem_filter.mpr ⟨List.mem_append_right _ (List.mem_of_getElem? (i := 293) (by decide +kernel)), by decide +kernel⟩
theorem gw_301 : Cond.selects "java/lang/IndexOutOfBoundsException" ⟨"java/lang/Throwable", "fillInStackTrace", "(I)Ljava/lang/Throwable;"⟩ ⟨"java/lang/Throwable", "fillInStackTrace", "(I)Ljava/lang/Throwable;"⟩ ∈ gx_T := List.mem_filter.mpr ⟨List.mem_append_right _ (List.mem_of_getElem? (i := 301) (by decide +kernel)), by decide +kernel⟩
theorem gw_302 : Cond.selects "java/lang/IndexOutOfBoundsException" ⟨"java/lang/Throwable", "fillInStackTrace", "()Ljava/lang/Throwable;"⟩ ⟨"java/lang/Throwable", "fillInStackTrace", "()Ljava/lang/Throwable;"⟩ ∈ gx_T := List.mem_filter.mpr ⟨List.mem_append_right _ (List.mem_of_getElem? (i := 302) (by decide +kernel)), by decide +kernel⟩
theorem gw_303 : Cond.lays "java/lang/IndexOutOfBoundsException" "java/lang/Throwable" "cause" "Ljava/lang/Throwable;" ∈ gx_T := List.mem_filter.mpr ⟨List.mem_append_right _ (List.mem_of_getElem? (i := 303) (by decide +kernel)), by decide +kernel⟩
theorem gw_304 : Cond.lays "java/lang/Throwable" "java/lang/Throwable" "cause" "Ljava/lang/Throwable;" ∈ gx_T := List.mem_filter.mpr ⟨List.mem_append_right _ (List.mem_of_getElem? (i := 304) (by decide +kernel)), by decide +kernel⟩
theorem gw_305 : Cond.lays "java/lang/IndexOutOfBoundsException" "java/lang/Throwable" "stackTrace" "[Ljava/lang/StackTraceElement;" ∈ gx_T := List.mem_filter.mpr ⟨List.mem_append_right _ (List.mem_of_getElem? (i := 305) (by decide +kernel)), by decide +kernel⟩
theorem gw_306 : Cond.lays "java/lang/Throwable" "java/lang/Throwable" "stackTrace" "[Ljava/lang/StackTraceElement;" ∈ gx_T := List.mem_filter.mpr ⟨List.mem_append_right _ (List.mem_of_getElem? (i := 306) (by decide +kernel)), by decide +kernel⟩
theorem gw_307 : Cond.lays "java/lang/IndexOutOfBoundsException" "java/lang/Throwable" "suppressedExceptions" "Ljava/util/List;" ∈ gx_T := List.mem_filter.mpr ⟨List.mem_append_right _ (List.mem_of_getElem? (i := 307) (by decide +kernel)), by decide +kernel⟩
theorem gw_308 : Cond.lays "java/lang/Throwable" "java/lang/Throwable" "suppressedExceptions" "Ljava/util/List;" ∈ gx_T := List.mem_filter.mpr ⟨List.mem_append_right _ (List.mem_of_getElem? (i := 308) (by decide +kernel)), by decide +kernel⟩
theorem gw_309 : Cond.lays "java/lang/IndexOutOfBoundsException" "java/lang/Throwable" "detailMessage" "Ljava/lang/String;" ∈ gx_T := List.mem_filter.mpr ⟨List.mem_append_right _ (List.mem_of_getElem? (i := 309) (by decide +kernel)), by decide +kernel⟩
theorem gw_310 : Cond.lays "java/lang/Throwable" "java/lang/Throwable" "detailMessage" "Ljava/lang/String;" ∈ gx_T := List.mem_filter.mpr ⟨List.mem_append_right _ (List.mem_of_getElem? (i := 310) (by decide +kernel)), by decide +kernel⟩
theorem gw_311 : Cond.lays "java/lang/IndexOutOfBoundsException" "java/lang/Throwable" "backtrace" "Ljava/lang/Object;" ∈ gx_T := List.mem_filter.mpr ⟨List.mem_append_right _ (List.mem_of_getElem? (i := 311) (by decide +kernel)), by decide +kernel⟩
theorem gw_312 : Cond.lays "java/lang/Throwable" "java/lang/Throwable" "backtrace" "Ljava/lang/Object;" ∈ gx_T := List.mem_filter.mpr ⟨List.mem_append_right _ (List.mem_of_getElem? (i := 312) (by decide +kernel)), by decide +kernel⟩
theorem gw_313 : Cond.fieldLink "java/lang/Throwable" 198 "java/lang/Throwable" "backtrace" "Ljava/lang/Object;" ∈ gx_T := List.mem_filter.mpr ⟨List.mem_append_right _ (List.mem_of_getElem? (i := 313) (by decide +kernel)), by decide +kernel⟩
theorem gw_315 : Cond.instanceMethod ⟨"java/lang/Throwable", "<init>", "()V"⟩ ∈ gx_T := List.mem_filter.mpr ⟨List.mem_append_right _ (List.mem_of_getElem? (i := 315) (by decide +kernel)), by decide +kernel⟩
theorem gw_316 : Cond.code ⟨"java/lang/Throwable", "<init>", "()V"⟩ prog_19_method_1_code 1 none ∈ gx_T := List.mem_filter.mpr ⟨List.mem_append_right _ (List.mem_of_getElem? (i := 316) (by decide +kernel)), by decide +kernel⟩
theorem gw_317 : Cond.methodLink "java/lang/Throwable" 1 ⟨"java/lang/Object", "<init>", "()V"⟩ ∈ gx_T := List.mem_filter.mpr ⟨List.mem_append_right _ (List.mem_of_getElem? (i := 317) (by decide +kernel)), by decide +kernel⟩
theorem gw_318 : Cond.fieldLink "java/lang/Throwable" 13 "java/lang/Throwable" "UNASSIGNED_STACK" "[Ljava/lang/StackTraceElement;" ∈ gx_T := List.mem_filter.mpr ⟨List.mem_append_right _ (List.mem_of_getElem? (i := 318) (by decide +kernel)), by decide +kernel⟩
theorem gw_320 : Cond.fieldLink "java/lang/Throwable" 20 "java/lang/Throwable" "SUPPRESSED_SENTINEL" "Ljava/util/List;" ∈ gx_T := List.mem_filter.mpr ⟨List.mem_append_right _ (List.mem_of_getElem? (i := 320) (by decide +kernel)), by decide +kernel⟩
theorem gw_322 : Cond.methodLink "java/lang/Throwable" 27 ⟨"java/lang/Throwable", "fillInStackTrace", "()Ljava/lang/Throwable;"⟩ ∈ gx_T := List.mem_filter.mpr ⟨List.mem_append_right _ (List.mem_of_getElem? (i := 322) (by decide +kernel)), by decide +kernel⟩
theorem gw_323 : Cond.instanceMethod ⟨"java/lang/Throwable", "fillInStackTrace", "()Ljava/lang/Throwable;"⟩ ∈ gx_T := List.mem_filter.mpr ⟨List.mem_append_right _ (List.mem_of_getElem? (i := 323) (by decide +kernel)), by decide +kernel⟩
theorem gw_325 : Cond.selects "java/lang/IllegalArgumentException" ⟨"java/lang/Throwable", "fillInStackTrace", "()Ljava/lang/Throwable;"⟩ ⟨"java/lang/Throwable", "fillInStackTrace", "()Ljava/lang/Throwable;"⟩ ∈ gx_T := List.mem_filter.mpr ⟨List.mem_append_right _ (List.mem_of_getElem? (i := 325) (by decide +kernel)), by decide +kernel⟩
theorem gw_326 : Cond.selects "java/lang/IllegalStateException" ⟨"java/lang/Throwable", "fillInStackTrace", "()Ljava/lang/Throwable;"⟩ ⟨"java/lang/Throwable", "fillInStackTrace", "()Ljava/lang/Throwable;"⟩ ∈ gx_T := List.mem_filter.mpr ⟨List.mem_append_right _ (List.mem_of_getElem? (i := 326) (by decide +kernel)), by decide +kernel⟩
theorem gw_328 : Cond.methodLink "java/lang/Throwable" 202 ⟨"java/lang/Throwable", "fillInStackTrace", "(I)Ljava/lang/Throwable;"⟩ ∈ gx_T := List.mem_filter.mpr ⟨List.mem_append_right _ (List.mem_of_getElem? (i := 328) (by decide +kernel)), by decide +kernel⟩
theorem gw_330 : Cond.instanceMethod ⟨"java/lang/Throwable", "fillInStackTrace", "(I)Ljava/lang/Throwable;"⟩ ∈ gx_T := List.mem_filter.mpr ⟨List.mem_append_right _ (List.mem_of_getElem? (i := 330) (by decide +kernel)), by decide +kernel⟩
theorem gw_331 : Cond.instantiable "java/lang/Throwable" 6 ∈ gx_T := List.mem_filter.mpr ⟨List.mem_append_right _ (List.mem_of_getElem? (i := 331) (by decide +kernel)), by decide +kernel⟩
theorem gw_332 : Cond.native ⟨"java/lang/Throwable", "fillInStackTrace", "(I)Ljava/lang/Throwable;"⟩ ∈ gx_T := List.mem_filter.mpr ⟨List.mem_append_right _ (List.mem_of_getElem? (i := 332) (by decide +kernel)), by decide +kernel⟩
theorem gw_334 : Cond.methodLink "CaseLayout" 171 ⟨"java/lang/IndexOutOfBoundsException", "<init>", "(Ljava/lang/String;)V"⟩ ∈ gx_T := List.mem_filter.mpr ⟨List.mem_append_right _ (List.mem_of_getElem? (i := 334) (by decide +kernel)), by decide +kernel⟩
theorem gw_335 : Cond.instanceMethod ⟨"java/lang/IndexOutOfBoundsException", "<init>", "(Ljava/lang/String;)V"⟩ ∈ gx_T := List.mem_filter.mpr ⟨List.mem_append_right _ (List.mem_of_getElem? (i := 335) (by decide +kernel)), by decide +kernel⟩
theorem gw_336 : Cond.code ⟨"java/lang/IndexOutOfBoundsException", "<init>", "(Ljava/lang/String;)V"⟩ prog_14_method_2_code 2 none ∈ gx_T := List.mem_filter.mpr ⟨List.mem_append_right _ (List.mem_of_getElem? (i := 336) (by decide +kernel)), by decide +kernel⟩
theorem gw_337 : Cond.methodLink "java/lang/IndexOutOfBoundsException" 7 ⟨"java/lang/RuntimeException", "<init>", "(Ljava/lang/String;)V"⟩ ∈ gx_T := List.mem_filter.mpr ⟨List.mem_append_right _ (List.mem_of_getElem? (i := 337) (by decide +kernel)), by decide +kernel⟩
theorem gw_338 : Cond.instanceMethod ⟨"java/lang/RuntimeException", "<init>", "(Ljava/lang/String;)V"⟩ ∈ gx_T := List.mem_filter.mpr ⟨List.mem_append_right _ (List.mem_of_getElem? (i := 338) (by decide +kernel)), by decide +kernel⟩
theorem gw_339 : Cond.code ⟨"java/lang/RuntimeException", "<init>", "(Ljava/lang/String;)V"⟩ prog_16_method_2_code 2 none ∈ gx_T := List.mem_filter.mpr ⟨List.mem_append_right _ (List.mem_of_getElem? (i := 339) (by decide +kernel)), by decide +kernel⟩
theorem gw_340 : Cond.methodLink "java/lang/RuntimeException" 7 ⟨"java/lang/Exception", "<init>", "(Ljava/lang/String;)V"⟩ ∈ gx_T := List.mem_filter.mpr ⟨List.mem_append_right _ (List.mem_of_getElem? (i := 340) (by decide +kernel)), by decide +kernel⟩
theorem gw_341 : Cond.instanceMethod ⟨"java/lang/Exception", "<init>", "(Ljava/lang/String;)V"⟩ ∈ gx_T := List.mem_filter.mpr ⟨List.mem_append_right _ (List.mem_of_getElem? (i := 341) (by decide +kernel)), by decide +kernel⟩
theorem gw_342 : Cond.code ⟨"java/lang/Exception", "<init>", "(Ljava/lang/String;)V"⟩ prog_11_method_2_code 2 none ∈ gx_T := List.mem_filter.mpr ⟨List.mem_append_right _ (List.mem_of_getElem? (i := 342) (by decide +kernel)), by decide +kernel⟩
theorem gw_343 : Cond.methodLink "java/lang/Exception" 7 ⟨"java/lang/Throwable", "<init>", "(Ljava/lang/String;)V"⟩ ∈ gx_T := List.mem_filter.mpr ⟨List.mem_append_right _ (List.mem_of_getElem? (i := 343) (by decide +kernel)), by decide +kernel⟩
theorem gw_344 : Cond.instanceMethod ⟨"java/lang/Throwable", "<init>", "(Ljava/lang/String;)V"⟩ ∈ gx_T := List.mem_filter.mpr ⟨List.mem_append_right _ (List.mem_of_getElem? (i := 344) (by decide +kernel)), by decide +kernel⟩
theorem gw_345 : Cond.code ⟨"java/lang/Throwable", "<init>", "(Ljava/lang/String;)V"⟩ prog_19_method_2_code 2 none ∈ gx_T := List.mem_filter.mpr ⟨List.mem_append_right _ (List.mem_of_getElem? (i := 345) (by decide +kernel)), by decide +kernel⟩
theorem gw_347 : Cond.fieldLink "java/lang/Throwable" 31 "java/lang/Throwable" "detailMessage" "Ljava/lang/String;" ∈ gx_T := List.mem_filter.mpr ⟨List.mem_append_right _ (List.mem_of_getElem? (i := 347) (by decide +kernel)), by decide +kernel⟩
theorem gw_348 : Cond.fieldLink "java/lang/Throwable" 7 "java/lang/Throwable" "cause" "Ljava/lang/Throwable;" ∈ gx_T := List.mem_filter.mpr ⟨List.mem_append_right _ (List.mem_of_getElem? (i := 348) (by decide +kernel)), by decide +kernel⟩
theorem gw_349 : Cond.fieldLink "java/lang/Throwable" 17 "java/lang/Throwable" "stackTrace" "[Ljava/lang/StackTraceElement;" ∈ gx_T := List.mem_filter.mpr ⟨List.mem_append_right _ (List.mem_of_getElem? (i := 349) (by decide +kernel)), by decide +kernel⟩
theorem gw_350 : Cond.fieldLink "java/lang/Throwable" 24 "java/lang/Throwable" "suppressedExceptions" "Ljava/util/List;" ∈ gx_T := List.mem_filter.mpr ⟨List.mem_append_right _ (List.mem_of_getElem? (i := 350) (by decide +kernel)), by decide +kernel⟩
theorem gw_355 : Cond.lays "java/lang/IndexOutOfBoundsException" "java/lang/Throwable" "depth" "I" ∈ gx_T := List.mem_filter.mpr ⟨List.mem_append_right _ (List.mem_of_getElem? (i := 355) (by decide +kernel)), by decide +kernel⟩
theorem gw_359 : Cond.arrayClass .byte ∈ gx_T := List.mem_filter.mpr ⟨List.mem_append_right _ (List.mem_of_getElem? (i := 359) (by decide +kernel)), by decide +kernel⟩
theorem gw_360 : Cond.methodLink "CaseLayout" 64 ⟨"CaseLayout", "cellOf", "(II)I"⟩ ∈ gx_T := List.mem_filter.mpr ⟨List.mem_append_right _ (List.mem_of_getElem? (i := 360) (by decide +kernel)), by decide +kernel⟩
theorem gw_361 : Cond.static ⟨"CaseLayout", "cellOf", "(II)I"⟩ ∈ gx_T := List.mem_filter.mpr ⟨List.mem_append_right _ (List.mem_of_getElem? (i := 361) (by decide +kernel)), by decide +kernel⟩
theorem gw_362 : Cond.code ⟨"CaseLayout", "cellOf", "(II)I"⟩ prog_1_method_25_code 2 (some .int) ∈ gx_T := List.mem_filter.mpr ⟨List.mem_append_right _ (List.mem_of_getElem? (i := 362) (by decide +kernel)), by decide +kernel⟩
theorem gw_363 : Cond.methodLink "CaseLayout" 72 ⟨"CaseLayout$Places", "standOn", "(I)Z"⟩ ∈ gx_T := List.mem_filter.mpr ⟨List.mem_append_right _ (List.mem_of_getElem? (i := 363) (by decide +kernel)), by decide +kernel⟩
theorem gw_364 : Cond.instanceMethod ⟨"CaseLayout$Places", "standOn", "(I)Z"⟩ ∈ gx_T := List.mem_filter.mpr ⟨List.mem_append_right _ (List.mem_of_getElem? (i := 364) (by decide +kernel)), by decide +kernel⟩
theorem gw_365 : Cond.selects "CaseLayout$Places" ⟨"CaseLayout$Places", "standOn", "(I)Z"⟩ ⟨"CaseLayout$Places", "standOn", "(I)Z"⟩ ∈ gx_T := List.mem_filter.mpr ⟨List.mem_append_right _ (List.mem_of_getElem? (i := 365) (by decide +kernel)), by decide +kernel⟩
theorem gw_366 : Cond.code ⟨"CaseLayout$Places", "standOn", "(I)Z"⟩ prog_6_method_3_code 3 (some .boolean) ∈ gx_T := List.mem_filter.mpr ⟨List.mem_append_right _ (List.mem_of_getElem? (i := 366) (by decide +kernel)), by decide +kernel⟩
theorem gw_368 : Cond.methodLink "CaseLayout" 76 ⟨"CaseLayout$Exits", "standOn", "(I)Z"⟩ ∈ gx_T := List.mem_filter.mpr ⟨List.mem_append_right _ (List.mem_of_getElem? (i := 368) (by decide +kernel)), by decide +kernel⟩
theorem gw_369 : Cond.instanceMethod ⟨"CaseLayout$Exits", "standOn", "(I)Z"⟩ ∈ gx_T := List.mem_filter.mpr ⟨List.mem_append_right _ (List.mem_of_getElem? (i := 369) (by decide +kernel)), by decide +kernel⟩
theorem gw_370 : Cond.selects "CaseLayout$Exits" ⟨"CaseLayout$Exits", "standOn", "(I)Z"⟩ ⟨"CaseLayout$Exits", "standOn", "(I)Z"⟩ ∈ gx_T := List.mem_filter.mpr ⟨List.mem_append_right _ (List.mem_of_getElem? (i := 370) (by decide +kernel)), by decide +kernel⟩
theorem gw_371 : Cond.code ⟨"CaseLayout$Exits", "standOn", "(I)Z"⟩ prog_2_method_3_code 3 (some .boolean) ∈ gx_T := List.mem_filter.mpr ⟨List.mem_append_right _ (List.mem_of_getElem? (i := 371) (by decide +kernel)), by decide +kernel⟩
theorem gw_372 : Cond.methodLink "CaseLayout" 77 ⟨"CaseLayout$Grid", "setWall", "(IZ)V"⟩ ∈ gx_T := List.mem_filter.mpr ⟨List.mem_append_right _ (List.mem_of_getElem? (i := 372) (by decide +kernel)), by decide +kernel⟩
theorem gw_373 : Cond.instanceMethod ⟨"CaseLayout$Grid", "setWall", "(IZ)V"⟩ ∈ gx_T := List.mem_filter.mpr ⟨List.mem_append_right _ (List.mem_of_getElem? (i := 373) (by decide +kernel)), by decide +kernel⟩
theorem gw_374 : Cond.selects "CaseLayout$Grid" ⟨"CaseLayout$Grid", "setWall", "(IZ)V"⟩ ⟨"CaseLayout$Grid", "setWall", "(IZ)V"⟩ ∈ gx_T := List.mem_filter.mpr ⟨List.mem_append_right _ (List.mem_of_getElem? (i := 374) (by decide +kernel)), by decide +kernel⟩
theorem gw_375 : Cond.code ⟨"CaseLayout$Grid", "setWall", "(IZ)V"⟩ prog_4_method_3_code 3 none ∈ gx_T := List.mem_filter.mpr ⟨List.mem_append_right _ (List.mem_of_getElem? (i := 375) (by decide +kernel)), by decide +kernel⟩
theorem gw_376 : Cond.methodLink "CaseLayout" 81 ⟨"CaseLayout$Search", "forget", "()V"⟩ ∈ gx_T := List.mem_filter.mpr ⟨List.mem_append_right _ (List.mem_of_getElem? (i := 376) (by decide +kernel)), by decide +kernel⟩
theorem gw_377 : Cond.instanceMethod ⟨"CaseLayout$Search", "forget", "()V"⟩ ∈ gx_T := List.mem_filter.mpr ⟨List.mem_append_right _ (List.mem_of_getElem? (i := 377) (by decide +kernel)), by decide +kernel⟩
theorem gw_378 : Cond.selects "CaseLayout$Search" ⟨"CaseLayout$Search", "forget", "()V"⟩ ⟨"CaseLayout$Search", "forget", "()V"⟩ ∈ gx_T := List.mem_filter.mpr ⟨List.mem_append_right _ (List.mem_of_getElem? (i := 378) (by decide +kernel)), by decide +kernel⟩
theorem gw_379 : Cond.code ⟨"CaseLayout$Search", "forget", "()V"⟩ prog_7_method_2_code 1 none ∈ gx_T := List.mem_filter.mpr ⟨List.mem_append_right _ (List.mem_of_getElem? (i := 379) (by decide +kernel)), by decide +kernel⟩
theorem gw_380 : Cond.methodLink "CaseLayoutLaw" 82 ⟨"CaseLayoutLaw", "zone", "(LCaseLayout;III[J)I"⟩ ∈ gx_T := List.mem_filter.mpr ⟨List.mem_append_right _ (List.mem_of_getElem? (i := 380) (by decide +kernel)), by decide +kernel⟩
theorem gw_381 : Cond.static ⟨"CaseLayoutLaw", "zone", "(LCaseLayout;III[J)I"⟩ ∈ gx_T := List.mem_filter.mpr ⟨List.mem_append_right _ (List.mem_of_getElem? (i := 381) (by decide +kernel)), by decide +kernel⟩
theorem gw_382 : Cond.codeWith ⟨"CaseLayoutLaw", "zone", "(LCaseLayout;III[J)I"⟩ method_4_code 6 (some .int) [(0, 12, 15, 13), (0, 12, 19, 19)] ∈ gx_T := List.mem_filter.mpr ⟨List.mem_append_right _ (List.mem_of_getElem? (i := 382) (by decide +kernel)), by decide +kernel⟩
theorem gw_383 : Cond.classLink "CaseLayoutLaw" 19 "java/lang/IllegalArgumentException" ∈ gx_T := List.mem_filter.mpr ⟨List.mem_append_right _ (List.mem_of_getElem? (i := 383) (by decide +kernel)), by decide +kernel⟩
theorem gw_384 : Cond.methodLink "CaseLayoutLaw" 15 ⟨"CaseLayout", "zone", "(III)I"⟩ ∈ gx_T := List.mem_filter.mpr ⟨List.mem_append_right _ (List.mem_of_getElem? (i := 384) (by decide +kernel)), by decide +kernel⟩
theorem gw_385 : Cond.instanceMethod ⟨"CaseLayout", "zone", "(III)I"⟩ ∈ gx_T := List.mem_filter.mpr ⟨List.mem_append_right _ (List.mem_of_getElem? (i := 385) (by decide +kernel)), by decide +kernel⟩
theorem gw_386 : Cond.selects "CaseLayout" ⟨"CaseLayout", "zone", "(III)I"⟩ ⟨"CaseLayout", "zone", "(III)I"⟩ ∈ gx_T := List.mem_filter.mpr ⟨List.mem_append_right _ (List.mem_of_getElem? (i := 386) (by decide +kernel)), by decide +kernel⟩
theorem gw_387 : Cond.code ⟨"CaseLayout", "zone", "(III)I"⟩ prog_1_method_3_code 6 (some .int) ∈ gx_T := List.mem_filter.mpr ⟨List.mem_append_right _ (List.mem_of_getElem? (i := 387) (by decide +kernel)), by decide +kernel⟩
theorem gw_388 : Cond.methodLink "CaseLayout" 84 ⟨"CaseLayout", "needWithin", "(III)V"⟩ ∈ gx_T := List.mem_filter.mpr ⟨List.mem_append_right _ (List.mem_of_getElem? (i := 388) (by decide +kernel)), by decide +kernel⟩
theorem gw_389 : Cond.static ⟨"CaseLayout", "needWithin", "(III)V"⟩ ∈ gx_T := List.mem_filter.mpr ⟨List.mem_append_right _ (List.mem_of_getElem? (i := 389) (by decide +kernel)), by decide +kernel⟩
theorem gw_390 : Cond.code ⟨"CaseLayout", "needWithin", "(III)V"⟩ prog_1_method_23_code 3 none ∈ gx_T := List.mem_filter.mpr ⟨List.mem_append_right _ (List.mem_of_getElem? (i := 390) (by decide +kernel)), by decide +kernel⟩
theorem gw_391 : Cond.classLink "CaseLayout" 122 "java/lang/IllegalArgumentException" ∈ gx_T := List.mem_filter.mpr ⟨List.mem_append_right _ (List.mem_of_getElem? (i := 391) (by decide +kernel)), by decide +kernel⟩
theorem gw_392 : Cond.instantiable "java/lang/IllegalArgumentException" 6 ∈ gx_T := List.mem_filter.mpr ⟨List.mem_append_right _ (List.mem_of_getElem? (i := 392) (by decide +kernel)), by decide +kernel⟩
theorem gw_394 : Cond.selects "java/lang/IllegalArgumentException" ⟨"java/lang/Throwable", "fillInStackTrace", "(I)Ljava/lang/Throwable;"⟩ ⟨"java/lang/Throwable", "fillInStackTrace", "(I)Ljava/lang/Throwable;"⟩ ∈ gx_T := List.mem_filter.mpr ⟨List.mem_append_right _ (List.mem_of_getElem? (i := 394) (by decide +kernel)), by decide +kernel⟩
theorem gw_395 : Cond.lays "java/lang/IllegalArgumentException" "java/lang/Throwable" "cause" "Ljava/lang/Throwable;" ∈ gx_T := List.mem_filter.mpr ⟨List.mem_append_right _ (List.mem_of_getElem? (i := 395) (by decide +kernel)), by decide +kernel⟩
theorem gw_396 : Cond.lays "java/lang/IllegalArgumentException" "java/lang/Throwable" "stackTrace" "[Ljava/lang/StackTraceElement;" ∈ gx_T := List.mem_filter.mpr ⟨List.mem_append_right _ (List.mem_of_getElem? (i := 396) (by decide +kernel)), by decide +kernel⟩
theorem gw_397 : Cond.lays "java/lang/IllegalArgumentException" "java/lang/Throwable" "suppressedExceptions" "Ljava/util/List;" ∈ gx_T := List.mem_filter.mpr ⟨List.mem_append_right _ (List.mem_of_getElem? (i := 397) (by decide +kernel)), by decide +kernel⟩
theorem gw_398 : Cond.lays "java/lang/IllegalArgumentException" "java/lang/Throwable" "detailMessage" "Ljava/lang/String;" ∈ gx_T := List.mem_filter.mpr ⟨List.mem_append_right _ (List.mem_of_getElem? (i := 398) (by decide +kernel)), by decide +kernel⟩
theorem gw_399 : Cond.lays "java/lang/IllegalArgumentException" "java/lang/Throwable" "backtrace" "Ljava/lang/Object;" ∈ gx_T := List.mem_filter.mpr ⟨List.mem_append_right _ (List.mem_of_getElem? (i := 399) (by decide +kernel)), by decide +kernel⟩
theorem gw_401 : Cond.methodLink "CaseLayout" 126 ⟨"java/lang/IllegalArgumentException", "<init>", "(Ljava/lang/String;)V"⟩ ∈ gx_T := List.mem_filter.mpr ⟨List.mem_append_right _ (List.mem_of_getElem? (i := 401) (by decide +kernel)), by decide +kernel⟩
theorem gw_402 : Cond.instanceMethod ⟨"java/lang/IllegalArgumentException", "<init>", "(Ljava/lang/String;)V"⟩ ∈ gx_T := List.mem_filter.mpr ⟨List.mem_append_right _ (List.mem_of_getElem? (i := 402) (by decide +kernel)), by decide +kernel⟩
theorem gw_403 : Cond.code ⟨"java/lang/IllegalArgumentException", "<init>", "(Ljava/lang/String;)V"⟩ prog_12_method_2_code 2 none ∈ gx_T := List.mem_filter.mpr ⟨List.mem_append_right _ (List.mem_of_getElem? (i := 403) (by decide +kernel)), by decide +kernel⟩
theorem gw_404 : Cond.methodLink "java/lang/IllegalArgumentException" 7 ⟨"java/lang/RuntimeException", "<init>", "(Ljava/lang/String;)V"⟩ ∈ gx_T := List.mem_filter.mpr ⟨List.mem_append_right _ (List.mem_of_getElem? (i := 404) (by decide +kernel)), by decide +kernel⟩
theorem gw_405 : Cond.lays "java/lang/IllegalArgumentException" "java/lang/Throwable" "depth" "I" ∈ gx_T := List.mem_filter.mpr ⟨List.mem_append_right _ (List.mem_of_getElem? (i := 405) (by decide +kernel)), by decide +kernel⟩
theorem gw_407 : Cond.methodLink "CaseLayoutLaw" 86 ⟨"CaseLayoutLaw", "thing", "(LCaseLayout;III[J)I"⟩ ∈ gx_T := List.mem_filter.mpr ⟨List.mem_append_right _ (List.mem_of_getElem? (i := 407) (by decide +kernel)), by decide +kernel⟩
theorem gw_408 : Cond.static ⟨"CaseLayoutLaw", "thing", "(LCaseLayout;III[J)I"⟩ ∈ gx_T := List.mem_filter.mpr ⟨List.mem_append_right _ (List.mem_of_getElem? (i := 408) (by decide +kernel)), by decide +kernel⟩
theorem gw_409 : Cond.codeWith ⟨"CaseLayoutLaw", "thing", "(LCaseLayout;III[J)I"⟩ method_5_code 6 (some .int) [(0, 12, 15, 24), (0, 12, 19, 19)] ∈ gx_T := List.mem_filter.mpr ⟨List.mem_append_right _ (List.mem_of_getElem? (i := 409) (by decide +kernel)), by decide +kernel⟩
theorem gw_410 : Cond.classLink "CaseLayoutLaw" 24 "java/lang/IllegalStateException" ∈ gx_T := List.mem_filter.mpr ⟨List.mem_append_right _ (List.mem_of_getElem? (i := 410) (by decide +kernel)), by decide +kernel⟩
theorem gw_411 : Cond.methodLink "CaseLayoutLaw" 21 ⟨"CaseLayout", "thing", "(III)I"⟩ ∈ gx_T := List.mem_filter.mpr ⟨List.mem_append_right _ (List.mem_of_getElem? (i := 411) (by decide +kernel)), by decide +kernel⟩
theorem gw_412 : Cond.instanceMethod ⟨"CaseLayout", "thing", "(III)I"⟩ ∈ gx_T := List.mem_filter.mpr ⟨List.mem_append_right _ (List.mem_of_getElem? (i := 412) (by decide +kernel)), by decide +kernel⟩
theorem gw_413 : Cond.selects "CaseLayout" ⟨"CaseLayout", "thing", "(III)I"⟩ ⟨"CaseLayout", "thing", "(III)I"⟩ ∈ gx_T := List.mem_filter.mpr ⟨List.mem_append_right _ (List.mem_of_getElem? (i := 413) (by decide +kernel)), by decide +kernel⟩
theorem gw_414 : Cond.code ⟨"CaseLayout", "thing", "(III)I"⟩ prog_1_method_4_code 4 (some .int) ∈ gx_T := List.mem_filter.mpr ⟨List.mem_append_right _ (List.mem_of_getElem? (i := 414) (by decide +kernel)), by decide +kernel⟩
theorem gw_415 : Cond.classLink "CaseLayout" 96 "java/lang/IllegalStateException" ∈ gx_T := List.mem_filter.mpr ⟨List.mem_append_right _ (List.mem_of_getElem? (i := 415) (by decide +kernel)), by decide +kernel⟩
theorem gw_416 : Cond.instantiable "java/lang/IllegalStateException" 6 ∈ gx_T := List.mem_filter.mpr ⟨List.mem_append_right _ (List.mem_of_getElem? (i := 416) (by decide +kernel)), by decide +kernel⟩
theorem gw_418 : Cond.selects "java/lang/IllegalStateException" ⟨"java/lang/Throwable", "fillInStackTrace", "(I)Ljava/lang/Throwable;"⟩ ⟨"java/lang/Throwable", "fillInStackTrace", "(I)Ljava/lang/Throwable;"⟩ ∈ gx_T := List.mem_filter.mpr ⟨List.mem_append_right _ (List.mem_of_getElem? (i := 418) (by decide +kernel)), by decide +kernel⟩
theorem gw_419 : Cond.lays "java/lang/IllegalStateException" "java/lang/Throwable" "cause" "Ljava/lang/Throwable;" ∈ gx_T := List.mem_filter.mpr ⟨List.mem_append_right _ (List.mem_of_getElem? (i := 419) (by decide +kernel)), by decide +kernel⟩
theorem gw_420 : Cond.lays "java/lang/IllegalStateException" "java/lang/Throwable" "stackTrace" "[Ljava/lang/StackTraceElement;" ∈ gx_T := List.mem_filter.mpr ⟨List.mem_append_right _ (List.mem_of_getElem? (i := 420) (by decide +kernel)), by decide +kernel⟩
theorem gw_421 : Cond.lays "java/lang/IllegalStateException" "java/lang/Throwable" "suppressedExceptions" "Ljava/util/List;" ∈ gx_T := List.mem_filter.mpr ⟨List.mem_append_right _ (List.mem_of_getElem? (i := 421) (by decide +kernel)), by decide +kernel⟩
theorem gw_422 : Cond.lays "java/lang/IllegalStateException" "java/lang/Throwable" "detailMessage" "Ljava/lang/String;" ∈ gx_T := List.mem_filter.mpr ⟨List.mem_append_right _ (List.mem_of_getElem? (i := 422) (by decide +kernel)), by decide +kernel⟩
theorem gw_423 : Cond.lays "java/lang/IllegalStateException" "java/lang/Throwable" "backtrace" "Ljava/lang/Object;" ∈ gx_T := List.mem_filter.mpr ⟨List.mem_append_right _ (List.mem_of_getElem? (i := 423) (by decide +kernel)), by decide +kernel⟩
theorem gw_425 : Cond.methodLink "CaseLayout" 100 ⟨"java/lang/IllegalStateException", "<init>", "(Ljava/lang/String;)V"⟩ ∈ gx_T := List.mem_filter.mpr ⟨List.mem_append_right _ (List.mem_of_getElem? (i := 425) (by decide +kernel)), by decide +kernel⟩
theorem gw_426 : Cond.instanceMethod ⟨"java/lang/IllegalStateException", "<init>", "(Ljava/lang/String;)V"⟩ ∈ gx_T := List.mem_filter.mpr ⟨List.mem_append_right _ (List.mem_of_getElem? (i := 426) (by decide +kernel)), by decide +kernel⟩
theorem gw_427 : Cond.code ⟨"java/lang/IllegalStateException", "<init>", "(Ljava/lang/String;)V"⟩ prog_13_method_2_code 2 none ∈ gx_T := List.mem_filter.mpr ⟨List.mem_append_right _ (List.mem_of_getElem? (i := 427) (by decide +kernel)), by decide +kernel⟩
theorem gw_428 : Cond.methodLink "java/lang/IllegalStateException" 7 ⟨"java/lang/RuntimeException", "<init>", "(Ljava/lang/String;)V"⟩ ∈ gx_T := List.mem_filter.mpr ⟨List.mem_append_right _ (List.mem_of_getElem? (i := 428) (by decide +kernel)), by decide +kernel⟩
theorem gw_429 : Cond.lays "java/lang/IllegalStateException" "java/lang/Throwable" "depth" "I" ∈ gx_T := List.mem_filter.mpr ⟨List.mem_append_right _ (List.mem_of_getElem? (i := 429) (by decide +kernel)), by decide +kernel⟩
theorem gw_431 : Cond.methodLink "CaseLayout" 103 ⟨"CaseLayout$Things", "add", "(III)I"⟩ ∈ gx_T := List.mem_filter.mpr ⟨List.mem_append_right _ (List.mem_of_getElem? (i := 431) (by decide +kernel)), by decide +kernel⟩
theorem gw_432 : Cond.instanceMethod ⟨"CaseLayout$Things", "add", "(III)I"⟩ ∈ gx_T := List.mem_filter.mpr ⟨List.mem_append_right _ (List.mem_of_getElem? (i := 432) (by decide +kernel)), by decide +kernel⟩
theorem gw_433 : Cond.selects "CaseLayout$Things" ⟨"CaseLayout$Things", "add", "(III)I"⟩ ⟨"CaseLayout$Things", "add", "(III)I"⟩ ∈ gx_T := List.mem_filter.mpr ⟨List.mem_append_right _ (List.mem_of_getElem? (i := 433) (by decide +kernel)), by decide +kernel⟩
theorem gw_434 : Cond.code ⟨"CaseLayout$Things", "add", "(III)I"⟩ prog_8_method_2_code 5 (some .int) ∈ gx_T := List.mem_filter.mpr ⟨List.mem_append_right _ (List.mem_of_getElem? (i := 434) (by decide +kernel)), by decide +kernel⟩
theorem gw_435 : Cond.methodLink "CaseLayoutLaw" 89 ⟨"CaseLayoutLaw", "apart", "(LCaseLayout;III[J)I"⟩ ∈ gx_T := List.mem_filter.mpr ⟨List.mem_append_right _ (List.mem_of_getElem? (i := 435) (by decide +kernel)), by decide +kernel⟩
theorem gw_436 : Cond.static ⟨"CaseLayoutLaw", "apart", "(LCaseLayout;III[J)I"⟩ ∈ gx_T := List.mem_filter.mpr ⟨List.mem_append_right _ (List.mem_of_getElem? (i := 436) (by decide +kernel)), by decide +kernel⟩
theorem gw_437 : Cond.codeWith ⟨"CaseLayoutLaw", "apart", "(LCaseLayout;III[J)I"⟩ method_6_code 6 (some .int) [(0, 12, 15, 13), (0, 12, 19, 19)] ∈ gx_T := List.mem_filter.mpr ⟨List.mem_append_right _ (List.mem_of_getElem? (i := 437) (by decide +kernel)), by decide +kernel⟩
theorem gw_438 : Cond.methodLink "CaseLayoutLaw" 26 ⟨"CaseLayout", "apart", "(III)I"⟩ ∈ gx_T := List.mem_filter.mpr ⟨List.mem_append_right _ (List.mem_of_getElem? (i := 438) (by decide +kernel)), by decide +kernel⟩
theorem gw_439 : Cond.instanceMethod ⟨"CaseLayout", "apart", "(III)I"⟩ ∈ gx_T := List.mem_filter.mpr ⟨List.mem_append_right _ (List.mem_of_getElem? (i := 439) (by decide +kernel)), by decide +kernel⟩
theorem gw_440 : Cond.selects "CaseLayout" ⟨"CaseLayout", "apart", "(III)I"⟩ ⟨"CaseLayout", "apart", "(III)I"⟩ ∈ gx_T := List.mem_filter.mpr ⟨List.mem_append_right _ (List.mem_of_getElem? (i := 440) (by decide +kernel)), by decide +kernel⟩
theorem gw_441 : Cond.code ⟨"CaseLayout", "apart", "(III)I"⟩ prog_1_method_5_code 4 (some .int) ∈ gx_T := List.mem_filter.mpr ⟨List.mem_append_right _ (List.mem_of_getElem? (i := 441) (by decide +kernel)), by decide +kernel⟩
theorem gw_442 : Cond.methodLink "CaseLayout" 106 ⟨"CaseLayout", "needPair", "(II)V"⟩ ∈ gx_T := List.mem_filter.mpr ⟨List.mem_append_right _ (List.mem_of_getElem? (i := 442) (by decide +kernel)), by decide +kernel⟩
theorem gw_444 : Cond.instanceMethod ⟨"CaseLayout", "needPair", "(II)V"⟩ ∈ gx_T := List.mem_filter.mpr ⟨List.mem_append_right _ (List.mem_of_getElem? (i := 444) (by decide +kernel)), by decide +kernel⟩
theorem gw_445 : Cond.code ⟨"CaseLayout", "needPair", "(II)V"⟩ prog_1_method_21_code 3 none ∈ gx_T := List.mem_filter.mpr ⟨List.mem_append_right _ (List.mem_of_getElem? (i := 445) (by decide +kernel)), by decide +kernel⟩
theorem gw_446 : Cond.methodLink "CaseLayout" 133 ⟨"CaseLayout", "needThing", "(I)V"⟩ ∈ gx_T := List.mem_filter.mpr ⟨List.mem_append_right _ (List.mem_of_getElem? (i := 446) (by decide +kernel)), by decide +kernel⟩
theorem gw_448 : Cond.instanceMethod ⟨"CaseLayout", "needThing", "(I)V"⟩ ∈ gx_T := List.mem_filter.mpr ⟨List.mem_append_right _ (List.mem_of_getElem? (i := 448) (by decide +kernel)), by decide +kernel⟩
theorem gw_449 : Cond.code ⟨"CaseLayout", "needThing", "(I)V"⟩ prog_1_method_19_code 2 none ∈ gx_T := List.mem_filter.mpr ⟨List.mem_append_right _ (List.mem_of_getElem? (i := 449) (by decide +kernel)), by decide +kernel⟩
theorem gw_452 : Cond.methodLink "CaseLayout" 112 ⟨"CaseLayout", "setBoth", "([IIII)I"⟩ ∈ gx_T := List.mem_filter.mpr ⟨List.mem_append_right _ (List.mem_of_getElem? (i := 452) (by decide +kernel)), by decide +kernel⟩
theorem gw_453 : Cond.static ⟨"CaseLayout", "setBoth", "([IIII)I"⟩ ∈ gx_T := List.mem_filter.mpr ⟨List.mem_append_right _ (List.mem_of_getElem? (i := 453) (by decide +kernel)), by decide +kernel⟩
theorem gw_454 : Cond.code ⟨"CaseLayout", "setBoth", "([IIII)I"⟩ prog_1_method_28_code 5 (some .int) ∈ gx_T := List.mem_filter.mpr ⟨List.mem_append_right _ (List.mem_of_getElem? (i := 454) (by decide +kernel)), by decide +kernel⟩
theorem gw_455 : Cond.methodLink "CaseLayout" 235 ⟨"CaseLayout", "pairOf", "(II)I"⟩ ∈ gx_T := List.mem_filter.mpr ⟨List.mem_append_right _ (List.mem_of_getElem? (i := 455) (by decide +kernel)), by decide +kernel⟩
theorem gw_456 : Cond.static ⟨"CaseLayout", "pairOf", "(II)I"⟩ ∈ gx_T := List.mem_filter.mpr ⟨List.mem_append_right _ (List.mem_of_getElem? (i := 456) (by decide +kernel)), by decide +kernel⟩
theorem gw_457 : Cond.code ⟨"CaseLayout", "pairOf", "(II)I"⟩ prog_1_method_26_code 2 (some .int) ∈ gx_T := List.mem_filter.mpr ⟨List.mem_append_right _ (List.mem_of_getElem? (i := 457) (by decide +kernel)), by decide +kernel⟩
theorem gw_458 : Cond.methodLink "CaseLayoutLaw" 92 ⟨"CaseLayoutLaw", "wish", "(LCaseLayout;III[J)I"⟩ ∈ gx_T := List.mem_filter.mpr ⟨List.mem_append_right _ (List.mem_of_getElem? (i := 458) (by decide +kernel)), by decide +kernel⟩
theorem gw_459 : Cond.static ⟨"CaseLayoutLaw", "wish", "(LCaseLayout;III[J)I"⟩ ∈ gx_T := List.mem_filter.mpr ⟨List.mem_append_right _ (List.mem_of_getElem? (i := 459) (by decide +kernel)), by decide +kernel⟩
theorem gw_460 : Cond.codeWith ⟨"CaseLayoutLaw", "wish", "(LCaseLayout;III[J)I"⟩ method_7_code 6 (some .int) [(0, 12, 15, 13), (0, 12, 19, 19)] ∈ gx_T := List.mem_filter.mpr ⟨List.mem_append_right _ (List.mem_of_getElem? (i := 460) (by decide +kernel)), by decide +kernel⟩
theorem gw_461 : Cond.methodLink "CaseLayoutLaw" 29 ⟨"CaseLayout", "wish", "(III)I"⟩ ∈ gx_T := List.mem_filter.mpr ⟨List.mem_append_right _ (List.mem_of_getElem? (i := 461) (by decide +kernel)), by decide +kernel⟩
theorem gw_462 : Cond.instanceMethod ⟨"CaseLayout", "wish", "(III)I"⟩ ∈ gx_T := List.mem_filter.mpr ⟨List.mem_append_right _ (List.mem_of_getElem? (i := 462) (by decide +kernel)), by decide +kernel⟩
theorem gw_463 : Cond.selects "CaseLayout" ⟨"CaseLayout", "wish", "(III)I"⟩ ⟨"CaseLayout", "wish", "(III)I"⟩ ∈ gx_T := List.mem_filter.mpr ⟨List.mem_append_right _ (List.mem_of_getElem? (i := 463) (by decide +kernel)), by decide +kernel⟩
theorem gw_464 : Cond.code ⟨"CaseLayout", "wish", "(III)I"⟩ prog_1_method_6_code 4 (some .int) ∈ gx_T := List.mem_filter.mpr ⟨List.mem_append_right _ (List.mem_of_getElem? (i := 464) (by decide +kernel)), by decide +kernel⟩
theorem gw_465 : Cond.methodLink "CaseLayoutLaw" 95 ⟨"CaseLayoutLaw", "place", "(LCaseLayout;II[J)I"⟩ ∈ gx_T := List.mem_filter.mpr ⟨List.mem_append_right _ (List.mem_of_getElem? (i := 465) (by decide +kernel)), by decide +kernel⟩
theorem gw_466 : Cond.static ⟨"CaseLayoutLaw", "place", "(LCaseLayout;II[J)I"⟩ ∈ gx_T := List.mem_filter.mpr ⟨List.mem_append_right _ (List.mem_of_getElem? (i := 466) (by decide +kernel)), by decide +kernel⟩
theorem gw_467 : Cond.codeWith ⟨"CaseLayoutLaw", "place", "(LCaseLayout;II[J)I"⟩ method_8_code 5 (some .int) [(0, 10, 13, 13), (0, 10, 17, 24), (0, 10, 21, 19)] ∈ gx_T := List.mem_filter.mpr ⟨List.mem_append_right _ (List.mem_of_getElem? (i := 467) (by decide +kernel)), by decide +kernel⟩
theorem gw_468 : Cond.methodLink "CaseLayoutLaw" 32 ⟨"CaseLayout", "place", "(II)I"⟩ ∈ gx_T := List.mem_filter.mpr ⟨List.mem_append_right _ (List.mem_of_getElem? (i := 468) (by decide +kernel)), by decide +kernel⟩
theorem gw_469 : Cond.instanceMethod ⟨"CaseLayout", "place", "(II)I"⟩ ∈ gx_T := List.mem_filter.mpr ⟨List.mem_append_right _ (List.mem_of_getElem? (i := 469) (by decide +kernel)), by decide +kernel⟩
theorem gw_470 : Cond.selects "CaseLayout" ⟨"CaseLayout", "place", "(II)I"⟩ ⟨"CaseLayout", "place", "(II)I"⟩ ∈ gx_T := List.mem_filter.mpr ⟨List.mem_append_right _ (List.mem_of_getElem? (i := 470) (by decide +kernel)), by decide +kernel⟩
theorem gw_471 : Cond.code ⟨"CaseLayout", "place", "(II)I"⟩ prog_1_method_7_code 3 (some .int) ∈ gx_T := List.mem_filter.mpr ⟨List.mem_append_right _ (List.mem_of_getElem? (i := 471) (by decide +kernel)), by decide +kernel⟩
theorem gw_474 : Cond.methodLink "CaseLayout" 127 ⟨"CaseLayout$Places", "add", "(II)I"⟩ ∈ gx_T := List.mem_filter.mpr ⟨List.mem_append_right _ (List.mem_of_getElem? (i := 474) (by decide +kernel)), by decide +kernel⟩
theorem gw_475 : Cond.instanceMethod ⟨"CaseLayout$Places", "add", "(II)I"⟩ ∈ gx_T := List.mem_filter.mpr ⟨List.mem_append_right _ (List.mem_of_getElem? (i := 475) (by decide +kernel)), by decide +kernel⟩
theorem gw_476 : Cond.selects "CaseLayout$Places" ⟨"CaseLayout$Places", "add", "(II)I"⟩ ⟨"CaseLayout$Places", "add", "(II)I"⟩ ∈ gx_T := List.mem_filter.mpr ⟨List.mem_append_right _ (List.mem_of_getElem? (i := 476) (by decide +kernel)), by decide +kernel⟩
theorem gw_477 : Cond.code ⟨"CaseLayout$Places", "add", "(II)I"⟩ prog_6_method_2_code 4 (some .int) ∈ gx_T := List.mem_filter.mpr ⟨List.mem_append_right _ (List.mem_of_getElem? (i := 477) (by decide +kernel)), by decide +kernel⟩
theorem gw_478 : Cond.methodLink "CaseLayoutLaw" 99 ⟨"CaseLayoutLaw", "sees", "(LCaseLayout;IIZ[J)I"⟩ ∈ gx_T := List.mem_filter.mpr ⟨List.mem_append_right _ (List.mem_of_getElem? (i := 478) (by decide +kernel)), by decide +kernel⟩
theorem gw_479 : Cond.static ⟨"CaseLayoutLaw", "sees", "(LCaseLayout;IIZ[J)I"⟩ ∈ gx_T := List.mem_filter.mpr ⟨List.mem_append_right _ (List.mem_of_getElem? (i := 479) (by decide +kernel)), by decide +kernel⟩
theorem gw_480 : Cond.codeWith ⟨"CaseLayoutLaw", "sees", "(LCaseLayout;IIZ[J)I"⟩ method_9_code 6 (some .int) [(0, 19, 22, 13)] ∈ gx_T := List.mem_filter.mpr ⟨List.mem_append_right _ (List.mem_of_getElem? (i := 480) (by decide +kernel)), by decide +kernel⟩
theorem gw_481 : Cond.methodLink "CaseLayoutLaw" 36 ⟨"CaseLayout", "sees", "(IIZ)Z"⟩ ∈ gx_T := List.mem_filter.mpr ⟨List.mem_append_right _ (List.mem_of_getElem? (i := 481) (by decide +kernel)), by decide +kernel⟩
theorem gw_482 : Cond.instanceMethod ⟨"CaseLayout", "sees", "(IIZ)Z"⟩ ∈ gx_T := List.mem_filter.mpr ⟨List.mem_append_right _ (List.mem_of_getElem? (i := 482) (by decide +kernel)), by decide +kernel⟩
theorem gw_483 : Cond.selects "CaseLayout" ⟨"CaseLayout", "sees", "(IIZ)Z"⟩ ⟨"CaseLayout", "sees", "(IIZ)Z"⟩ ∈ gx_T := List.mem_filter.mpr ⟨List.mem_append_right _ (List.mem_of_getElem? (i := 483) (by decide +kernel)), by decide +kernel⟩
theorem gw_484 : Cond.code ⟨"CaseLayout", "sees", "(IIZ)Z"⟩ prog_1_method_8_code 6 (some .boolean) ∈ gx_T := List.mem_filter.mpr ⟨List.mem_append_right _ (List.mem_of_getElem? (i := 484) (by decide +kernel)), by decide +kernel⟩
theorem gw_485 : Cond.methodLink "CaseLayout" 129 ⟨"CaseLayout", "needPlace", "(I)V"⟩ ∈ gx_T := List.mem_filter.mpr ⟨List.mem_append_right _ (List.mem_of_getElem? (i := 485) (by decide +kernel)), by decide +kernel⟩
theorem gw_487 : Cond.instanceMethod ⟨"CaseLayout", "needPlace", "(I)V"⟩ ∈ gx_T := List.mem_filter.mpr ⟨List.mem_append_right _ (List.mem_of_getElem? (i := 487) (by decide +kernel)), by decide +kernel⟩
theorem gw_488 : Cond.code ⟨"CaseLayout", "needPlace", "(I)V"⟩ prog_1_method_20_code 2 none ∈ gx_T := List.mem_filter.mpr ⟨List.mem_append_right _ (List.mem_of_getElem? (i := 488) (by decide +kernel)), by decide +kernel⟩
theorem gw_490 : Cond.methodLink "CaseLayout" 136 ⟨"CaseLayout", "sightOf", "(II)I"⟩ ∈ gx_T := List.mem_filter.mpr ⟨List.mem_append_right _ (List.mem_of_getElem? (i := 490) (by decide +kernel)), by decide +kernel⟩
theorem gw_491 : Cond.static ⟨"CaseLayout", "sightOf", "(II)I"⟩ ∈ gx_T := List.mem_filter.mpr ⟨List.mem_append_right _ (List.mem_of_getElem? (i := 491) (by decide +kernel)), by decide +kernel⟩
theorem gw_492 : Cond.code ⟨"CaseLayout", "sightOf", "(II)I"⟩ prog_1_method_27_code 2 (some .int) ∈ gx_T := List.mem_filter.mpr ⟨List.mem_append_right _ (List.mem_of_getElem? (i := 492) (by decide +kernel)), by decide +kernel⟩
theorem gw_493 : Cond.methodLink "CaseLayoutLaw" 102 ⟨"CaseLayoutLaw", "exit", "(LCaseLayout;II[J)I"⟩ ∈ gx_T := List.mem_filter.mpr ⟨List.mem_append_right _ (List.mem_of_getElem? (i := 493) (by decide +kernel)), by decide +kernel⟩
theorem gw_494 : Cond.static ⟨"CaseLayoutLaw", "exit", "(LCaseLayout;II[J)I"⟩ ∈ gx_T := List.mem_filter.mpr ⟨List.mem_append_right _ (List.mem_of_getElem? (i := 494) (by decide +kernel)), by decide +kernel⟩
theorem gw_495 : Cond.codeWith ⟨"CaseLayoutLaw", "exit", "(LCaseLayout;II[J)I"⟩ method_10_code 5 (some .int) [(0, 10, 13, 13), (0, 10, 17, 24), (0, 10, 21, 19)] ∈ gx_T := List.mem_filter.mpr ⟨List.mem_append_right _ (List.mem_of_getElem? (i := 495) (by decide +kernel)), by decide +kernel⟩
theorem gw_496 : Cond.methodLink "CaseLayoutLaw" 39 ⟨"CaseLayout", "exit", "(II)I"⟩ ∈ gx_T := List.mem_filter.mpr ⟨List.mem_append_right _ (List.mem_of_getElem? (i := 496) (by decide +kernel)), by decide +kernel⟩
theorem gw_497 : Cond.instanceMethod ⟨"CaseLayout", "exit", "(II)I"⟩ ∈ gx_T := List.mem_filter.mpr ⟨List.mem_append_right _ (List.mem_of_getElem? (i := 497) (by decide +kernel)), by decide +kernel⟩
theorem gw_498 : Cond.selects "CaseLayout" ⟨"CaseLayout", "exit", "(II)I"⟩ ⟨"CaseLayout", "exit", "(II)I"⟩ ∈ gx_T := List.mem_filter.mpr ⟨List.mem_append_right _ (List.mem_of_getElem? (i := 498) (by decide +kernel)), by decide +kernel⟩
theorem gw_499 : Cond.code ⟨"CaseLayout", "exit", "(II)I"⟩ prog_1_method_9_code 4 (some .int) ∈ gx_T := List.mem_filter.mpr ⟨List.mem_append_right _ (List.mem_of_getElem? (i := 499) (by decide +kernel)), by decide +kernel⟩
theorem gw_502 : Cond.methodLink "CaseLayout" 147 ⟨"CaseLayout$Exits", "add", "(I)I"⟩ ∈ gx_T := List.mem_filter.mpr ⟨List.mem_append_right _ (List.mem_of_getElem? (i := 502) (by decide +kernel)), by decide +kernel⟩
theorem gw_503 : Cond.instanceMethod ⟨"CaseLayout$Exits", "add", "(I)I"⟩ ∈ gx_T := List.mem_filter.mpr ⟨List.mem_append_right _ (List.mem_of_getElem? (i := 503) (by decide +kernel)), by decide +kernel⟩
theorem gw_504 : Cond.selects "CaseLayout$Exits" ⟨"CaseLayout$Exits", "add", "(I)I"⟩ ⟨"CaseLayout$Exits", "add", "(I)I"⟩ ∈ gx_T := List.mem_filter.mpr ⟨List.mem_append_right _ (List.mem_of_getElem? (i := 504) (by decide +kernel)), by decide +kernel⟩
theorem gw_505 : Cond.code ⟨"CaseLayout$Exits", "add", "(I)I"⟩ prog_2_method_2_code 2 (some .int) ∈ gx_T := List.mem_filter.mpr ⟨List.mem_append_right _ (List.mem_of_getElem? (i := 505) (by decide +kernel)), by decide +kernel⟩
theorem gw_506 : Cond.methodLink "CaseLayoutLaw" 105 ⟨"CaseLayoutLaw", "most", "(LCaseLayout;I[J)I"⟩ ∈ gx_T := List.mem_filter.mpr ⟨List.mem_append_right _ (List.mem_of_getElem? (i := 506) (by decide +kernel)), by decide +kernel⟩
