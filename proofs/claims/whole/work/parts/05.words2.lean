theorem gw_507 : Cond.static ⟨"CaseLayoutLaw", "most", "(LCaseLayout;I[J)I"⟩ ∈ gx_T := List.mem_filter.mpr ⟨List.mem_append_right _ (List.mem_of_getElem? (i := 507) (by decide +kernel)), by decide +kernel⟩
theorem gw_508 : Cond.codeWith ⟨"CaseLayoutLaw", "most", "(LCaseLayout;I[J)I"⟩ method_11_code 4 (some .int) [(0, 9, 12, 19)] ∈ gx_T := List.mem_filter.mpr ⟨List.mem_append_right _ (List.mem_of_getElem? (i := 508) (by decide +kernel)), by decide +kernel⟩
theorem gw_509 : Cond.methodLink "CaseLayoutLaw" 42 ⟨"CaseLayout", "most", "(I)I"⟩ ∈ gx_T := List.mem_filter.mpr ⟨List.mem_append_right _ (List.mem_of_getElem? (i := 509) (by decide +kernel)), by decide +kernel⟩
theorem gw_510 : Cond.instanceMethod ⟨"CaseLayout", "most", "(I)I"⟩ ∈ gx_T := List.mem_filter.mpr ⟨List.mem_append_right _ (List.mem_of_getElem? (i := 510) (by decide +kernel)), by decide +kernel⟩
theorem gw_511 : Cond.selects "CaseLayout" ⟨"CaseLayout", "most", "(I)I"⟩ ⟨"CaseLayout", "most", "(I)I"⟩ ∈ gx_T := List.mem_filter.mpr ⟨List.mem_append_right _ (List.mem_of_getElem? (i := 511) (by decide +kernel)), by decide +kernel⟩
theorem gw_512 : Cond.code ⟨"CaseLayout", "most", "(I)I"⟩ prog_1_method_10_code 3 (some .int) ∈ gx_T := List.mem_filter.mpr ⟨List.mem_append_right _ (List.mem_of_getElem? (i := 512) (by decide +kernel)), by decide +kernel⟩
theorem gw_513 : Cond.methodLink "CaseLayoutLaw" 109 ⟨"CaseLayoutLaw", "run", "(LCaseLayout;I[J)I"⟩ ∈ gx_T := List.mem_filter.mpr ⟨List.mem_append_right _ (List.mem_of_getElem? (i := 513) (by decide +kernel)), by decide +kernel⟩
theorem gw_514 : Cond.static ⟨"CaseLayoutLaw", "run", "(LCaseLayout;I[J)I"⟩ ∈ gx_T := List.mem_filter.mpr ⟨List.mem_append_right _ (List.mem_of_getElem? (i := 514) (by decide +kernel)), by decide +kernel⟩
theorem gw_515 : Cond.codeWith ⟨"CaseLayoutLaw", "run", "(LCaseLayout;I[J)I"⟩ method_12_code 4 (some .int) [(0, 9, 12, 19)] ∈ gx_T := List.mem_filter.mpr ⟨List.mem_append_right _ (List.mem_of_getElem? (i := 515) (by decide +kernel)), by decide +kernel⟩
theorem gw_516 : Cond.methodLink "CaseLayoutLaw" 46 ⟨"CaseLayout", "run", "(I)I"⟩ ∈ gx_T := List.mem_filter.mpr ⟨List.mem_append_right _ (List.mem_of_getElem? (i := 516) (by decide +kernel)), by decide +kernel⟩
theorem gw_517 : Cond.instanceMethod ⟨"CaseLayout", "run", "(I)I"⟩ ∈ gx_T := List.mem_filter.mpr ⟨List.mem_append_right _ (List.mem_of_getElem? (i := 517) (by decide +kernel)), by decide +kernel⟩
theorem gw_518 : Cond.selects "CaseLayout" ⟨"CaseLayout", "run", "(I)I"⟩ ⟨"CaseLayout", "run", "(I)I"⟩ ∈ gx_T := List.mem_filter.mpr ⟨List.mem_append_right _ (List.mem_of_getElem? (i := 518) (by decide +kernel)), by decide +kernel⟩
theorem gw_519 : Cond.code ⟨"CaseLayout", "run", "(I)I"⟩ prog_1_method_11_code 2 (some .int) ∈ gx_T := List.mem_filter.mpr ⟨List.mem_append_right _ (List.mem_of_getElem? (i := 519) (by decide +kernel)), by decide +kernel⟩
theorem gw_520 : Cond.methodLink "CaseLayout" 153 ⟨"CaseLayout$Search", "begin", "(I)V"⟩ ∈ gx_T := List.mem_filter.mpr ⟨List.mem_append_right _ (List.mem_of_getElem? (i := 520) (by decide +kernel)), by decide +kernel⟩
theorem gw_521 : Cond.instanceMethod ⟨"CaseLayout$Search", "begin", "(I)V"⟩ ∈ gx_T := List.mem_filter.mpr ⟨List.mem_append_right _ (List.mem_of_getElem? (i := 521) (by decide +kernel)), by decide +kernel⟩
theorem gw_522 : Cond.selects "CaseLayout$Search" ⟨"CaseLayout$Search", "begin", "(I)V"⟩ ⟨"CaseLayout$Search", "begin", "(I)V"⟩ ∈ gx_T := List.mem_filter.mpr ⟨List.mem_append_right _ (List.mem_of_getElem? (i := 522) (by decide +kernel)), by decide +kernel⟩
theorem gw_523 : Cond.code ⟨"CaseLayout$Search", "begin", "(I)V"⟩ prog_7_method_4_code 3 none ∈ gx_T := List.mem_filter.mpr ⟨List.mem_append_right _ (List.mem_of_getElem? (i := 523) (by decide +kernel)), by decide +kernel⟩
theorem gw_524 : Cond.methodLink "CaseLayout$Search" 60 ⟨"CaseLayout$Search", "forget", "()V"⟩ ∈ gx_T := List.mem_filter.mpr ⟨List.mem_append_right _ (List.mem_of_getElem? (i := 524) (by decide +kernel)), by decide +kernel⟩
theorem gw_525 : Cond.methodLink "CaseLayout$Search" 68 ⟨"CaseLayout$Search", "listSpots", "(I)V"⟩ ∈ gx_T := List.mem_filter.mpr ⟨List.mem_append_right _ (List.mem_of_getElem? (i := 525) (by decide +kernel)), by decide +kernel⟩
theorem gw_527 : Cond.instanceMethod ⟨"CaseLayout$Search", "listSpots", "(I)V"⟩ ∈ gx_T := List.mem_filter.mpr ⟨List.mem_append_right _ (List.mem_of_getElem? (i := 527) (by decide +kernel)), by decide +kernel⟩
theorem gw_528 : Cond.code ⟨"CaseLayout$Search", "listSpots", "(I)V"⟩ prog_7_method_5_code 5 none ∈ gx_T := List.mem_filter.mpr ⟨List.mem_append_right _ (List.mem_of_getElem? (i := 528) (by decide +kernel)), by decide +kernel⟩
theorem gw_529 : Cond.methodLink "CaseLayout$Search" 89 ⟨"CaseLayout$Grid", "carries", "(IIIII)Z"⟩ ∈ gx_T := List.mem_filter.mpr ⟨List.mem_append_right _ (List.mem_of_getElem? (i := 529) (by decide +kernel)), by decide +kernel⟩
theorem gw_530 : Cond.instanceMethod ⟨"CaseLayout$Grid", "carries", "(IIIII)Z"⟩ ∈ gx_T := List.mem_filter.mpr ⟨List.mem_append_right _ (List.mem_of_getElem? (i := 530) (by decide +kernel)), by decide +kernel⟩
theorem gw_531 : Cond.selects "CaseLayout$Grid" ⟨"CaseLayout$Grid", "carries", "(IIIII)Z"⟩ ⟨"CaseLayout$Grid", "carries", "(IIIII)Z"⟩ ∈ gx_T := List.mem_filter.mpr ⟨List.mem_append_right _ (List.mem_of_getElem? (i := 531) (by decide +kernel)), by decide +kernel⟩
theorem gw_532 : Cond.code ⟨"CaseLayout$Grid", "carries", "(IIIII)Z"⟩ prog_4_method_4_code 9 (some .boolean) ∈ gx_T := List.mem_filter.mpr ⟨List.mem_append_right _ (List.mem_of_getElem? (i := 532) (by decide +kernel)), by decide +kernel⟩
theorem gw_533 : Cond.methodLink "CaseLayout$Grid" 29 ⟨"CaseLayout$Grid", "holds", "(II)Z"⟩ ∈ gx_T := List.mem_filter.mpr ⟨List.mem_append_right _ (List.mem_of_getElem? (i := 533) (by decide +kernel)), by decide +kernel⟩
theorem gw_536 : Cond.methodLink "CaseLayout" 156 ⟨"CaseLayout$Search", "tryThing", "(II)Z"⟩ ∈ gx_T := List.mem_filter.mpr ⟨List.mem_append_right _ (List.mem_of_getElem? (i := 536) (by decide +kernel)), by decide +kernel⟩
theorem gw_537 : Cond.instanceMethod ⟨"CaseLayout$Search", "tryThing", "(II)Z"⟩ ∈ gx_T := List.mem_filter.mpr ⟨List.mem_append_right _ (List.mem_of_getElem? (i := 537) (by decide +kernel)), by decide +kernel⟩
theorem gw_538 : Cond.selects "CaseLayout$Search" ⟨"CaseLayout$Search", "tryThing", "(II)Z"⟩ ⟨"CaseLayout$Search", "tryThing", "(II)Z"⟩ ∈ gx_T := List.mem_filter.mpr ⟨List.mem_append_right _ (List.mem_of_getElem? (i := 538) (by decide +kernel)), by decide +kernel⟩
theorem gw_539 : Cond.code ⟨"CaseLayout$Search", "tryThing", "(II)Z"⟩ prog_7_method_6_code 5 (some .boolean) ∈ gx_T := List.mem_filter.mpr ⟨List.mem_append_right _ (List.mem_of_getElem? (i := 539) (by decide +kernel)), by decide +kernel⟩
theorem gw_540 : Cond.methodLink "CaseLayout$Search" 97 ⟨"CaseLayout$Search", "judge", "(I)V"⟩ ∈ gx_T := List.mem_filter.mpr ⟨List.mem_append_right _ (List.mem_of_getElem? (i := 540) (by decide +kernel)), by decide +kernel⟩
theorem gw_542 : Cond.instanceMethod ⟨"CaseLayout$Search", "judge", "(I)V"⟩ ∈ gx_T := List.mem_filter.mpr ⟨List.mem_append_right _ (List.mem_of_getElem? (i := 542) (by decide +kernel)), by decide +kernel⟩
theorem gw_543 : Cond.code ⟨"CaseLayout$Search", "judge", "(I)V"⟩ prog_7_method_9_code 2 none ∈ gx_T := List.mem_filter.mpr ⟨List.mem_append_right _ (List.mem_of_getElem? (i := 543) (by decide +kernel)), by decide +kernel⟩
theorem gw_544 : Cond.methodLink "CaseLayout$Search" 130 ⟨"CaseLayout$Floor", "lay", "(LCaseLayout$Layout;)V"⟩ ∈ gx_T := List.mem_filter.mpr ⟨List.mem_append_right _ (List.mem_of_getElem? (i := 544) (by decide +kernel)), by decide +kernel⟩
theorem gw_545 : Cond.instanceMethod ⟨"CaseLayout$Floor", "lay", "(LCaseLayout$Layout;)V"⟩ ∈ gx_T := List.mem_filter.mpr ⟨List.mem_append_right _ (List.mem_of_getElem? (i := 545) (by decide +kernel)), by decide +kernel⟩
theorem gw_546 : Cond.selects "CaseLayout$Floor" ⟨"CaseLayout$Floor", "lay", "(LCaseLayout$Layout;)V"⟩ ⟨"CaseLayout$Floor", "lay", "(LCaseLayout$Layout;)V"⟩ ∈ gx_T := List.mem_filter.mpr ⟨List.mem_append_right _ (List.mem_of_getElem? (i := 546) (by decide +kernel)), by decide +kernel⟩
theorem gw_547 : Cond.code ⟨"CaseLayout$Floor", "lay", "(LCaseLayout$Layout;)V"⟩ prog_3_method_2_code 3 none ∈ gx_T := List.mem_filter.mpr ⟨List.mem_append_right _ (List.mem_of_getElem? (i := 547) (by decide +kernel)), by decide +kernel⟩
theorem gw_548 : Cond.methodLink "CaseLayout$Floor" 46 ⟨"CaseLayout$Floor", "cover", "(LCaseLayout$Layout;I)V"⟩ ∈ gx_T := List.mem_filter.mpr ⟨List.mem_append_right _ (List.mem_of_getElem? (i := 548) (by decide +kernel)), by decide +kernel⟩
theorem gw_550 : Cond.instanceMethod ⟨"CaseLayout$Floor", "cover", "(LCaseLayout$Layout;I)V"⟩ ∈ gx_T := List.mem_filter.mpr ⟨List.mem_append_right _ (List.mem_of_getElem? (i := 550) (by decide +kernel)), by decide +kernel⟩
theorem gw_551 : Cond.code ⟨"CaseLayout$Floor", "cover", "(LCaseLayout$Layout;I)V"⟩ prog_3_method_3_code 7 none ∈ gx_T := List.mem_filter.mpr ⟨List.mem_append_right _ (List.mem_of_getElem? (i := 551) (by decide +kernel)), by decide +kernel⟩
theorem gw_552 : Cond.methodLink "CaseLayout$Floor" 62 ⟨"CaseLayout$Grid", "holds", "(II)Z"⟩ ∈ gx_T := List.mem_filter.mpr ⟨List.mem_append_right _ (List.mem_of_getElem? (i := 552) (by decide +kernel)), by decide +kernel⟩
theorem gw_554 : Cond.methodLink "CaseLayout$Search" 136 ⟨"CaseLayout$Search", "allSeen", "()Z"⟩ ∈ gx_T := List.mem_filter.mpr ⟨List.mem_append_right _ (List.mem_of_getElem? (i := 554) (by decide +kernel)), by decide +kernel⟩
theorem gw_556 : Cond.instanceMethod ⟨"CaseLayout$Search", "allSeen", "()Z"⟩ ∈ gx_T := List.mem_filter.mpr ⟨List.mem_append_right _ (List.mem_of_getElem? (i := 556) (by decide +kernel)), by decide +kernel⟩
theorem gw_557 : Cond.code ⟨"CaseLayout$Search", "allSeen", "()Z"⟩ prog_7_method_10_code 3 (some .boolean) ∈ gx_T := List.mem_filter.mpr ⟨List.mem_append_right _ (List.mem_of_getElem? (i := 557) (by decide +kernel)), by decide +kernel⟩
theorem gw_559 : Cond.methodLink "CaseLayout$Search" 158 ⟨"CaseLayout$Floor", "isSeen", "(LCaseLayout$Layout;III)Z"⟩ ∈ gx_T := List.mem_filter.mpr ⟨List.mem_append_right _ (List.mem_of_getElem? (i := 559) (by decide +kernel)), by decide +kernel⟩
theorem gw_560 : Cond.instanceMethod ⟨"CaseLayout$Floor", "isSeen", "(LCaseLayout$Layout;III)Z"⟩ ∈ gx_T := List.mem_filter.mpr ⟨List.mem_append_right _ (List.mem_of_getElem? (i := 560) (by decide +kernel)), by decide +kernel⟩
theorem gw_561 : Cond.selects "CaseLayout$Floor" ⟨"CaseLayout$Floor", "isSeen", "(LCaseLayout$Layout;III)Z"⟩ ⟨"CaseLayout$Floor", "isSeen", "(LCaseLayout$Layout;III)Z"⟩ ∈ gx_T := List.mem_filter.mpr ⟨List.mem_append_right _ (List.mem_of_getElem? (i := 561) (by decide +kernel)), by decide +kernel⟩
theorem gw_562 : Cond.code ⟨"CaseLayout$Floor", "isSeen", "(LCaseLayout$Layout;III)Z"⟩ prog_3_method_4_code 9 (some .boolean) ∈ gx_T := List.mem_filter.mpr ⟨List.mem_append_right _ (List.mem_of_getElem? (i := 562) (by decide +kernel)), by decide +kernel⟩
theorem gw_563 : Cond.methodLink "CaseLayout$Floor" 70 ⟨"java/lang/Math", "min", "(II)I"⟩ ∈ gx_T := List.mem_filter.mpr ⟨List.mem_append_right _ (List.mem_of_getElem? (i := 563) (by decide +kernel)), by decide +kernel⟩
theorem gw_564 : Cond.methodLink "CaseLayout$Floor" 75 ⟨"java/lang/Math", "max", "(II)I"⟩ ∈ gx_T := List.mem_filter.mpr ⟨List.mem_append_right _ (List.mem_of_getElem? (i := 564) (by decide +kernel)), by decide +kernel⟩
theorem gw_565 : Cond.methodLink "CaseLayout$Floor" 78 ⟨"CaseLayout$Floor", "hides", "(III)Z"⟩ ∈ gx_T := List.mem_filter.mpr ⟨List.mem_append_right _ (List.mem_of_getElem? (i := 565) (by decide +kernel)), by decide +kernel⟩
theorem gw_567 : Cond.instanceMethod ⟨"CaseLayout$Floor", "hides", "(III)Z"⟩ ∈ gx_T := List.mem_filter.mpr ⟨List.mem_append_right _ (List.mem_of_getElem? (i := 567) (by decide +kernel)), by decide +kernel⟩
theorem gw_568 : Cond.code ⟨"CaseLayout$Floor", "hides", "(III)Z"⟩ prog_3_method_5_code 5 (some .boolean) ∈ gx_T := List.mem_filter.mpr ⟨List.mem_append_right _ (List.mem_of_getElem? (i := 568) (by decide +kernel)), by decide +kernel⟩
theorem gw_569 : Cond.methodLink "CaseLayout$Floor" 82 ⟨"CaseLayout$Floor", "isCrossed", "(IIII)Z"⟩ ∈ gx_T := List.mem_filter.mpr ⟨List.mem_append_right _ (List.mem_of_getElem? (i := 569) (by decide +kernel)), by decide +kernel⟩
theorem gw_570 : Cond.static ⟨"CaseLayout$Floor", "isCrossed", "(IIII)Z"⟩ ∈ gx_T := List.mem_filter.mpr ⟨List.mem_append_right _ (List.mem_of_getElem? (i := 570) (by decide +kernel)), by decide +kernel⟩
theorem gw_571 : Cond.code ⟨"CaseLayout$Floor", "isCrossed", "(IIII)Z"⟩ prog_3_method_6_code 4 (some .boolean) ∈ gx_T := List.mem_filter.mpr ⟨List.mem_append_right _ (List.mem_of_getElem? (i := 571) (by decide +kernel)), by decide +kernel⟩
theorem gw_572 : Cond.methodLink "CaseLayout$Floor" 86 ⟨"java/lang/Math", "abs", "(I)I"⟩ ∈ gx_T := List.mem_filter.mpr ⟨List.mem_append_right _ (List.mem_of_getElem? (i := 572) (by decide +kernel)), by decide +kernel⟩
theorem gw_573 : Cond.static ⟨"java/lang/Math", "abs", "(I)I"⟩ ∈ gx_T := List.mem_filter.mpr ⟨List.mem_append_right _ (List.mem_of_getElem? (i := 573) (by decide +kernel)), by decide +kernel⟩
theorem gw_574 : Cond.code ⟨"java/lang/Math", "abs", "(I)I"⟩ prog_15_method_59_code 1 (some .int) ∈ gx_T := List.mem_filter.mpr ⟨List.mem_append_right _ (List.mem_of_getElem? (i := 574) (by decide +kernel)), by decide +kernel⟩
theorem gw_575 : Cond.methodLink "CaseLayout$Search" 140 ⟨"CaseLayout$Search", "allEscape", "()Z"⟩ ∈ gx_T := List.mem_filter.mpr ⟨List.mem_append_right _ (List.mem_of_getElem? (i := 575) (by decide +kernel)), by decide +kernel⟩
theorem gw_577 : Cond.instanceMethod ⟨"CaseLayout$Search", "allEscape", "()Z"⟩ ∈ gx_T := List.mem_filter.mpr ⟨List.mem_append_right _ (List.mem_of_getElem? (i := 577) (by decide +kernel)), by decide +kernel⟩
theorem gw_578 : Cond.code ⟨"CaseLayout$Search", "allEscape", "()Z"⟩ prog_7_method_11_code 2 (some .boolean) ∈ gx_T := List.mem_filter.mpr ⟨List.mem_append_right _ (List.mem_of_getElem? (i := 578) (by decide +kernel)), by decide +kernel⟩
theorem gw_579 : Cond.methodLink "CaseLayout$Search" 165 ⟨"CaseLayout$Floor", "measure", "(LCaseLayout$Exits;)V"⟩ ∈ gx_T := List.mem_filter.mpr ⟨List.mem_append_right _ (List.mem_of_getElem? (i := 579) (by decide +kernel)), by decide +kernel⟩
theorem gw_580 : Cond.instanceMethod ⟨"CaseLayout$Floor", "measure", "(LCaseLayout$Exits;)V"⟩ ∈ gx_T := List.mem_filter.mpr ⟨List.mem_append_right _ (List.mem_of_getElem? (i := 580) (by decide +kernel)), by decide +kernel⟩
theorem gw_581 : Cond.selects "CaseLayout$Floor" ⟨"CaseLayout$Floor", "measure", "(LCaseLayout$Exits;)V"⟩ ⟨"CaseLayout$Floor", "measure", "(LCaseLayout$Exits;)V"⟩ ∈ gx_T := List.mem_filter.mpr ⟨List.mem_append_right _ (List.mem_of_getElem? (i := 581) (by decide +kernel)), by decide +kernel⟩
theorem gw_582 : Cond.code ⟨"CaseLayout$Floor", "measure", "(LCaseLayout$Exits;)V"⟩ prog_3_method_7_code 6 none ∈ gx_T := List.mem_filter.mpr ⟨List.mem_append_right _ (List.mem_of_getElem? (i := 582) (by decide +kernel)), by decide +kernel⟩
theorem gw_583 : Cond.methodLink "CaseLayout$Floor" 90 ⟨"java/util/Arrays", "fill", "([II)V"⟩ ∈ gx_T := List.mem_filter.mpr ⟨List.mem_append_right _ (List.mem_of_getElem? (i := 583) (by decide +kernel)), by decide +kernel⟩
theorem gw_584 : Cond.static ⟨"java/util/Arrays", "fill", "([II)V"⟩ ∈ gx_T := List.mem_filter.mpr ⟨List.mem_append_right _ (List.mem_of_getElem? (i := 584) (by decide +kernel)), by decide +kernel⟩
theorem gw_585 : Cond.code ⟨"java/util/Arrays", "fill", "([II)V"⟩ prog_20_method_103_code 4 none ∈ gx_T := List.mem_filter.mpr ⟨List.mem_append_right _ (List.mem_of_getElem? (i := 585) (by decide +kernel)), by decide +kernel⟩
theorem gw_586 : Cond.methodLink "CaseLayout$Floor" 102 ⟨"CaseLayout$Floor", "reach", "(III)V"⟩ ∈ gx_T := List.mem_filter.mpr ⟨List.mem_append_right _ (List.mem_of_getElem? (i := 586) (by decide +kernel)), by decide +kernel⟩
theorem gw_588 : Cond.instanceMethod ⟨"CaseLayout$Floor", "reach", "(III)V"⟩ ∈ gx_T := List.mem_filter.mpr ⟨List.mem_append_right _ (List.mem_of_getElem? (i := 588) (by decide +kernel)), by decide +kernel⟩
theorem gw_589 : Cond.code ⟨"CaseLayout$Floor", "reach", "(III)V"⟩ prog_3_method_8_code 5 none ∈ gx_T := List.mem_filter.mpr ⟨List.mem_append_right _ (List.mem_of_getElem? (i := 589) (by decide +kernel)), by decide +kernel⟩
theorem gw_590 : Cond.methodLink "CaseLayout$Search" 172 ⟨"CaseLayout$Floor", "hasEscape", "(LCaseLayout$Layout;II)Z"⟩ ∈ gx_T := List.mem_filter.mpr ⟨List.mem_append_right _ (List.mem_of_getElem? (i := 590) (by decide +kernel)), by decide +kernel⟩
theorem gw_591 : Cond.instanceMethod ⟨"CaseLayout$Floor", "hasEscape", "(LCaseLayout$Layout;II)Z"⟩ ∈ gx_T := List.mem_filter.mpr ⟨List.mem_append_right _ (List.mem_of_getElem? (i := 591) (by decide +kernel)), by decide +kernel⟩
theorem gw_592 : Cond.selects "CaseLayout$Floor" ⟨"CaseLayout$Floor", "hasEscape", "(LCaseLayout$Layout;II)Z"⟩ ⟨"CaseLayout$Floor", "hasEscape", "(LCaseLayout$Layout;II)Z"⟩ ∈ gx_T := List.mem_filter.mpr ⟨List.mem_append_right _ (List.mem_of_getElem? (i := 592) (by decide +kernel)), by decide +kernel⟩
theorem gw_593 : Cond.code ⟨"CaseLayout$Floor", "hasEscape", "(LCaseLayout$Layout;II)Z"⟩ prog_3_method_9_code 9 (some .boolean) ∈ gx_T := List.mem_filter.mpr ⟨List.mem_append_right _ (List.mem_of_getElem? (i := 593) (by decide +kernel)), by decide +kernel⟩
theorem gw_594 : Cond.methodLink "CaseLayout$Floor" 106 ⟨"CaseLayout$Floor", "isNear", "(III)Z"⟩ ∈ gx_T := List.mem_filter.mpr ⟨List.mem_append_right _ (List.mem_of_getElem? (i := 594) (by decide +kernel)), by decide +kernel⟩
theorem gw_596 : Cond.instanceMethod ⟨"CaseLayout$Floor", "isNear", "(III)Z"⟩ ∈ gx_T := List.mem_filter.mpr ⟨List.mem_append_right _ (List.mem_of_getElem? (i := 596) (by decide +kernel)), by decide +kernel⟩
theorem gw_597 : Cond.code ⟨"CaseLayout$Floor", "isNear", "(III)Z"⟩ prog_3_method_10_code 5 (some .boolean) ∈ gx_T := List.mem_filter.mpr ⟨List.mem_append_right _ (List.mem_of_getElem? (i := 597) (by decide +kernel)), by decide +kernel⟩
theorem gw_598 : Cond.methodLink "CaseLayout$Search" 143 ⟨"CaseLayout$Layout", "copyFrom", "(LCaseLayout$Layout;)V"⟩ ∈ gx_T := List.mem_filter.mpr ⟨List.mem_append_right _ (List.mem_of_getElem? (i := 598) (by decide +kernel)), by decide +kernel⟩
theorem gw_599 : Cond.instanceMethod ⟨"CaseLayout$Layout", "copyFrom", "(LCaseLayout$Layout;)V"⟩ ∈ gx_T := List.mem_filter.mpr ⟨List.mem_append_right _ (List.mem_of_getElem? (i := 599) (by decide +kernel)), by decide +kernel⟩
theorem gw_600 : Cond.selects "CaseLayout$Layout" ⟨"CaseLayout$Layout", "copyFrom", "(LCaseLayout$Layout;)V"⟩ ⟨"CaseLayout$Layout", "copyFrom", "(LCaseLayout$Layout;)V"⟩ ∈ gx_T := List.mem_filter.mpr ⟨List.mem_append_right _ (List.mem_of_getElem? (i := 600) (by decide +kernel)), by decide +kernel⟩
theorem gw_601 : Cond.code ⟨"CaseLayout$Layout", "copyFrom", "(LCaseLayout$Layout;)V"⟩ prog_5_method_3_code 2 none ∈ gx_T := List.mem_filter.mpr ⟨List.mem_append_right _ (List.mem_of_getElem? (i := 601) (by decide +kernel)), by decide +kernel⟩
theorem gw_602 : Cond.methodLink "CaseLayout$Layout" 40 ⟨"java/lang/System", "arraycopy", "(Ljava/lang/Object;ILjava/lang/Object;II)V"⟩ ∈ gx_T := List.mem_filter.mpr ⟨List.mem_append_right _ (List.mem_of_getElem? (i := 602) (by decide +kernel)), by decide +kernel⟩
theorem gw_603 : Cond.static ⟨"java/lang/System", "arraycopy", "(Ljava/lang/Object;ILjava/lang/Object;II)V"⟩ ∈ gx_T := List.mem_filter.mpr ⟨List.mem_append_right _ (List.mem_of_getElem? (i := 603) (by decide +kernel)), by decide +kernel⟩
theorem gw_604 : Cond.native ⟨"java/lang/System", "arraycopy", "(Ljava/lang/Object;ILjava/lang/Object;II)V"⟩ ∈ gx_T := List.mem_filter.mpr ⟨List.mem_append_right _ (List.mem_of_getElem? (i := 604) (by decide +kernel)), by decide +kernel⟩
theorem gw_605 : Cond.methodLink "CaseLayout$Search" 106 ⟨"CaseLayout$Search", "keepsApart", "(I)Z"⟩ ∈ gx_T := List.mem_filter.mpr ⟨List.mem_append_right _ (List.mem_of_getElem? (i := 605) (by decide +kernel)), by decide +kernel⟩
theorem gw_607 : Cond.instanceMethod ⟨"CaseLayout$Search", "keepsApart", "(I)Z"⟩ ∈ gx_T := List.mem_filter.mpr ⟨List.mem_append_right _ (List.mem_of_getElem? (i := 607) (by decide +kernel)), by decide +kernel⟩
theorem gw_608 : Cond.code ⟨"CaseLayout$Search", "keepsApart", "(I)Z"⟩ prog_7_method_7_code 3 (some .boolean) ∈ gx_T := List.mem_filter.mpr ⟨List.mem_append_right _ (List.mem_of_getElem? (i := 608) (by decide +kernel)), by decide +kernel⟩
theorem gw_609 : Cond.methodLink "CaseLayout$Search" 118 ⟨"CaseLayout$Layout", "gapOf", "(II)I"⟩ ∈ gx_T := List.mem_filter.mpr ⟨List.mem_append_right _ (List.mem_of_getElem? (i := 609) (by decide +kernel)), by decide +kernel⟩
theorem gw_610 : Cond.instanceMethod ⟨"CaseLayout$Layout", "gapOf", "(II)I"⟩ ∈ gx_T := List.mem_filter.mpr ⟨List.mem_append_right _ (List.mem_of_getElem? (i := 610) (by decide +kernel)), by decide +kernel⟩
theorem gw_611 : Cond.selects "CaseLayout$Layout" ⟨"CaseLayout$Layout", "gapOf", "(II)I"⟩ ⟨"CaseLayout$Layout", "gapOf", "(II)I"⟩ ∈ gx_T := List.mem_filter.mpr ⟨List.mem_append_right _ (List.mem_of_getElem? (i := 611) (by decide +kernel)), by decide +kernel⟩
theorem gw_612 : Cond.code ⟨"CaseLayout$Layout", "gapOf", "(II)I"⟩ prog_5_method_2_code 5 (some .int) ∈ gx_T := List.mem_filter.mpr ⟨List.mem_append_right _ (List.mem_of_getElem? (i := 612) (by decide +kernel)), by decide +kernel⟩
theorem gw_613 : Cond.methodLink "CaseLayout$Layout" 27 ⟨"CaseLayout$Layout", "between", "(IIII)I"⟩ ∈ gx_T := List.mem_filter.mpr ⟨List.mem_append_right _ (List.mem_of_getElem? (i := 613) (by decide +kernel)), by decide +kernel⟩
theorem gw_614 : Cond.static ⟨"CaseLayout$Layout", "between", "(IIII)I"⟩ ∈ gx_T := List.mem_filter.mpr ⟨List.mem_append_right _ (List.mem_of_getElem? (i := 614) (by decide +kernel)), by decide +kernel⟩
theorem gw_615 : Cond.code ⟨"CaseLayout$Layout", "between", "(IIII)I"⟩ prog_5_method_4_code 4 (some .int) ∈ gx_T := List.mem_filter.mpr ⟨List.mem_append_right _ (List.mem_of_getElem? (i := 615) (by decide +kernel)), by decide +kernel⟩
theorem gw_616 : Cond.methodLink "CaseLayout$Layout" 34 ⟨"java/lang/Math", "max", "(II)I"⟩ ∈ gx_T := List.mem_filter.mpr ⟨List.mem_append_right _ (List.mem_of_getElem? (i := 616) (by decide +kernel)), by decide +kernel⟩
theorem gw_618 : Cond.methodLink "CaseLayout$Search" 110 ⟨"CaseLayout$Search", "gainOf", "(I)I"⟩ ∈ gx_T := List.mem_filter.mpr ⟨List.mem_append_right _ (List.mem_of_getElem? (i := 618) (by decide +kernel)), by decide +kernel⟩
theorem gw_620 : Cond.instanceMethod ⟨"CaseLayout$Search", "gainOf", "(I)I"⟩ ∈ gx_T := List.mem_filter.mpr ⟨List.mem_append_right _ (List.mem_of_getElem? (i := 620) (by decide +kernel)), by decide +kernel⟩
theorem gw_621 : Cond.code ⟨"CaseLayout$Search", "gainOf", "(I)I"⟩ prog_7_method_8_code 5 (some .int) ∈ gx_T := List.mem_filter.mpr ⟨List.mem_append_right _ (List.mem_of_getElem? (i := 621) (by decide +kernel)), by decide +kernel⟩
theorem gw_622 : Cond.methodLink "CaseLayout$Search" 114 ⟨"CaseLayout$Search", "tryThing", "(II)Z"⟩ ∈ gx_T := List.mem_filter.mpr ⟨List.mem_append_right _ (List.mem_of_getElem? (i := 622) (by decide +kernel)), by decide +kernel⟩
theorem gw_623 : Cond.methodLink "CaseLayout" 160 ⟨"CaseLayout$Search", "hasFound", "()Z"⟩ ∈ gx_T := List.mem_filter.mpr ⟨List.mem_append_right _ (List.mem_of_getElem? (i := 623) (by decide +kernel)), by decide +kernel⟩
theorem gw_624 : Cond.instanceMethod ⟨"CaseLayout$Search", "hasFound", "()Z"⟩ ∈ gx_T := List.mem_filter.mpr ⟨List.mem_append_right _ (List.mem_of_getElem? (i := 624) (by decide +kernel)), by decide +kernel⟩
theorem gw_625 : Cond.selects "CaseLayout$Search" ⟨"CaseLayout$Search", "hasFound", "()Z"⟩ ⟨"CaseLayout$Search", "hasFound", "()Z"⟩ ∈ gx_T := List.mem_filter.mpr ⟨List.mem_append_right _ (List.mem_of_getElem? (i := 625) (by decide +kernel)), by decide +kernel⟩
theorem gw_626 : Cond.code ⟨"CaseLayout$Search", "hasFound", "()Z"⟩ prog_7_method_3_code 1 (some .boolean) ∈ gx_T := List.mem_filter.mpr ⟨List.mem_append_right _ (List.mem_of_getElem? (i := 626) (by decide +kernel)), by decide +kernel⟩
theorem gw_627 : Cond.methodLink "CaseLayoutLaw" 116 ⟨"CaseLayoutLaw", "at", "(LCaseLayout;II[J)I"⟩ ∈ gx_T := List.mem_filter.mpr ⟨List.mem_append_right _ (List.mem_of_getElem? (i := 627) (by decide +kernel)), by decide +kernel⟩
theorem gw_628 : Cond.static ⟨"CaseLayoutLaw", "at", "(LCaseLayout;II[J)I"⟩ ∈ gx_T := List.mem_filter.mpr ⟨List.mem_append_right _ (List.mem_of_getElem? (i := 628) (by decide +kernel)), by decide +kernel⟩
theorem gw_629 : Cond.codeWith ⟨"CaseLayoutLaw", "at", "(LCaseLayout;II[J)I"⟩ method_13_code 5 (some .int) [(0, 10, 13, 13), (0, 10, 17, 24)] ∈ gx_T := List.mem_filter.mpr ⟨List.mem_append_right _ (List.mem_of_getElem? (i := 629) (by decide +kernel)), by decide +kernel⟩
theorem gw_630 : Cond.methodLink "CaseLayoutLaw" 49 ⟨"CaseLayout", "at", "(II)I"⟩ ∈ gx_T := List.mem_filter.mpr ⟨List.mem_append_right _ (List.mem_of_getElem? (i := 630) (by decide +kernel)), by decide +kernel⟩
theorem gw_631 : Cond.instanceMethod ⟨"CaseLayout", "at", "(II)I"⟩ ∈ gx_T := List.mem_filter.mpr ⟨List.mem_append_right _ (List.mem_of_getElem? (i := 631) (by decide +kernel)), by decide +kernel⟩
theorem gw_632 : Cond.selects "CaseLayout" ⟨"CaseLayout", "at", "(II)I"⟩ ⟨"CaseLayout", "at", "(II)I"⟩ ∈ gx_T := List.mem_filter.mpr ⟨List.mem_append_right _ (List.mem_of_getElem? (i := 632) (by decide +kernel)), by decide +kernel⟩
theorem gw_633 : Cond.code ⟨"CaseLayout", "at", "(II)I"⟩ prog_1_method_13_code 3 (some .int) ∈ gx_T := List.mem_filter.mpr ⟨List.mem_append_right _ (List.mem_of_getElem? (i := 633) (by decide +kernel)), by decide +kernel⟩
theorem gw_635 : Cond.methodLink "CaseLayout" 172 ⟨"CaseLayout", "needFound", "()V"⟩ ∈ gx_T := List.mem_filter.mpr ⟨List.mem_append_right _ (List.mem_of_getElem? (i := 635) (by decide +kernel)), by decide +kernel⟩
theorem gw_637 : Cond.instanceMethod ⟨"CaseLayout", "needFound", "()V"⟩ ∈ gx_T := List.mem_filter.mpr ⟨List.mem_append_right _ (List.mem_of_getElem? (i := 637) (by decide +kernel)), by decide +kernel⟩
theorem gw_638 : Cond.code ⟨"CaseLayout", "needFound", "()V"⟩ prog_1_method_22_code 1 none ∈ gx_T := List.mem_filter.mpr ⟨List.mem_append_right _ (List.mem_of_getElem? (i := 638) (by decide +kernel)), by decide +kernel⟩
theorem gw_640 : Cond.methodLink "CaseLayoutLaw" 123 ⟨"CaseLayoutLaw", "sight", "(LCaseLayout;II[J)I"⟩ ∈ gx_T := List.mem_filter.mpr ⟨List.mem_append_right _ (List.mem_of_getElem? (i := 640) (by decide +kernel)), by decide +kernel⟩
theorem gw_641 : Cond.static ⟨"CaseLayoutLaw", "sight", "(LCaseLayout;II[J)I"⟩ ∈ gx_T := List.mem_filter.mpr ⟨List.mem_append_right _ (List.mem_of_getElem? (i := 641) (by decide +kernel)), by decide +kernel⟩
theorem gw_642 : Cond.codeWith ⟨"CaseLayoutLaw", "sight", "(LCaseLayout;II[J)I"⟩ method_14_code 5 (some .int) [(0, 17, 20, 13), (0, 17, 24, 24)] ∈ gx_T := List.mem_filter.mpr ⟨List.mem_append_right _ (List.mem_of_getElem? (i := 642) (by decide +kernel)), by decide +kernel⟩
theorem gw_643 : Cond.methodLink "CaseLayoutLaw" 52 ⟨"CaseLayout", "sight", "(II)Z"⟩ ∈ gx_T := List.mem_filter.mpr ⟨List.mem_append_right _ (List.mem_of_getElem? (i := 643) (by decide +kernel)), by decide +kernel⟩
theorem gw_644 : Cond.instanceMethod ⟨"CaseLayout", "sight", "(II)Z"⟩ ∈ gx_T := List.mem_filter.mpr ⟨List.mem_append_right _ (List.mem_of_getElem? (i := 644) (by decide +kernel)), by decide +kernel⟩
theorem gw_645 : Cond.selects "CaseLayout" ⟨"CaseLayout", "sight", "(II)Z"⟩ ⟨"CaseLayout", "sight", "(II)Z"⟩ ∈ gx_T := List.mem_filter.mpr ⟨List.mem_append_right _ (List.mem_of_getElem? (i := 645) (by decide +kernel)), by decide +kernel⟩
theorem gw_646 : Cond.code ⟨"CaseLayout", "sight", "(II)Z"⟩ prog_1_method_15_code 3 (some .boolean) ∈ gx_T := List.mem_filter.mpr ⟨List.mem_append_right _ (List.mem_of_getElem? (i := 646) (by decide +kernel)), by decide +kernel⟩
theorem gw_647 : Cond.methodLink "CaseLayout" 190 ⟨"CaseLayout$Floor", "lay", "(LCaseLayout$Layout;)V"⟩ ∈ gx_T := List.mem_filter.mpr ⟨List.mem_append_right _ (List.mem_of_getElem? (i := 647) (by decide +kernel)), by decide +kernel⟩
theorem gw_648 : Cond.methodLink "CaseLayout" 196 ⟨"CaseLayout$Floor", "isSeen", "(LCaseLayout$Layout;III)Z"⟩ ∈ gx_T := List.mem_filter.mpr ⟨List.mem_append_right _ (List.mem_of_getElem? (i := 648) (by decide +kernel)), by decide +kernel⟩
theorem gw_649 : Cond.methodLink "CaseLayoutLaw" 126 ⟨"CaseLayoutLaw", "escape", "(LCaseLayout;II[J)I"⟩ ∈ gx_T := List.mem_filter.mpr ⟨List.mem_append_right _ (List.mem_of_getElem? (i := 649) (by decide +kernel)), by decide +kernel⟩
theorem gw_650 : Cond.static ⟨"CaseLayoutLaw", "escape", "(LCaseLayout;II[J)I"⟩ ∈ gx_T := List.mem_filter.mpr ⟨List.mem_append_right _ (List.mem_of_getElem? (i := 650) (by decide +kernel)), by decide +kernel⟩
theorem gw_651 : Cond.codeWith ⟨"CaseLayoutLaw", "escape", "(LCaseLayout;II[J)I"⟩ method_15_code 5 (some .int) [(0, 10, 13, 13), (0, 10, 17, 24)] ∈ gx_T := List.mem_filter.mpr ⟨List.mem_append_right _ (List.mem_of_getElem? (i := 651) (by decide +kernel)), by decide +kernel⟩
theorem gw_652 : Cond.methodLink "CaseLayoutLaw" 56 ⟨"CaseLayout", "escape", "(II)I"⟩ ∈ gx_T := List.mem_filter.mpr ⟨List.mem_append_right _ (List.mem_of_getElem? (i := 652) (by decide +kernel)), by decide +kernel⟩
theorem gw_653 : Cond.instanceMethod ⟨"CaseLayout", "escape", "(II)I"⟩ ∈ gx_T := List.mem_filter.mpr ⟨List.mem_append_right _ (List.mem_of_getElem? (i := 653) (by decide +kernel)), by decide +kernel⟩
theorem gw_654 : Cond.selects "CaseLayout" ⟨"CaseLayout", "escape", "(II)I"⟩ ⟨"CaseLayout", "escape", "(II)I"⟩ ∈ gx_T := List.mem_filter.mpr ⟨List.mem_append_right _ (List.mem_of_getElem? (i := 654) (by decide +kernel)), by decide +kernel⟩
theorem gw_655 : Cond.code ⟨"CaseLayout", "escape", "(II)I"⟩ prog_1_method_16_code 3 (some .int) ∈ gx_T := List.mem_filter.mpr ⟨List.mem_append_right _ (List.mem_of_getElem? (i := 655) (by decide +kernel)), by decide +kernel⟩
theorem gw_656 : Cond.methodLink "CaseLayout" 200 ⟨"CaseLayout$Floor", "measure", "(LCaseLayout$Exits;)V"⟩ ∈ gx_T := List.mem_filter.mpr ⟨List.mem_append_right _ (List.mem_of_getElem? (i := 656) (by decide +kernel)), by decide +kernel⟩
theorem gw_657 : Cond.methodLink "CaseLayoutLaw" 129 ⟨"CaseLayoutLaw", "count", "(LCaseLayout;I[J)I"⟩ ∈ gx_T := List.mem_filter.mpr ⟨List.mem_append_right _ (List.mem_of_getElem? (i := 657) (by decide +kernel)), by decide +kernel⟩
theorem gw_658 : Cond.static ⟨"CaseLayoutLaw", "count", "(LCaseLayout;I[J)I"⟩ ∈ gx_T := List.mem_filter.mpr ⟨List.mem_append_right _ (List.mem_of_getElem? (i := 658) (by decide +kernel)), by decide +kernel⟩
theorem gw_659 : Cond.codeWith ⟨"CaseLayoutLaw", "count", "(LCaseLayout;I[J)I"⟩ method_16_code 4 (some .int) [(0, 9, 12, 13)] ∈ gx_T := List.mem_filter.mpr ⟨List.mem_append_right _ (List.mem_of_getElem? (i := 659) (by decide +kernel)), by decide +kernel⟩
theorem gw_660 : Cond.methodLink "CaseLayoutLaw" 59 ⟨"CaseLayout", "count", "(I)I"⟩ ∈ gx_T := List.mem_filter.mpr ⟨List.mem_append_right _ (List.mem_of_getElem? (i := 660) (by decide +kernel)), by decide +kernel⟩
theorem gw_661 : Cond.instanceMethod ⟨"CaseLayout", "count", "(I)I"⟩ ∈ gx_T := List.mem_filter.mpr ⟨List.mem_append_right _ (List.mem_of_getElem? (i := 661) (by decide +kernel)), by decide +kernel⟩
theorem gw_662 : Cond.selects "CaseLayout" ⟨"CaseLayout", "count", "(I)I"⟩ ⟨"CaseLayout", "count", "(I)I"⟩ ∈ gx_T := List.mem_filter.mpr ⟨List.mem_append_right _ (List.mem_of_getElem? (i := 662) (by decide +kernel)), by decide +kernel⟩
theorem gw_663 : Cond.code ⟨"CaseLayout", "count", "(I)I"⟩ prog_1_method_17_code 2 (some .int) ∈ gx_T := List.mem_filter.mpr ⟨List.mem_append_right _ (List.mem_of_getElem? (i := 663) (by decide +kernel)), by decide +kernel⟩
theorem gw_665 : Cond.classLink "CaseLayoutLaw" 71 "CaseLayoutModel" ∈ gx_T := List.mem_filter.mpr ⟨List.mem_append_right _ (List.mem_of_getElem? (i := 665) (by decide +kernel)), by decide +kernel⟩
theorem gw_666 : Cond.instantiable "CaseLayoutModel" 28 ∈ gx_T := List.mem_filter.mpr ⟨List.mem_append_right _ (List.mem_of_getElem? (i := 666) (by decide +kernel)), by decide +kernel⟩
theorem gw_667 : Cond.methodLink "CaseLayoutLaw" 73 ⟨"CaseLayoutModel", "<init>", "(II)V"⟩ ∈ gx_T := List.mem_filter.mpr ⟨List.mem_append_right _ (List.mem_of_getElem? (i := 667) (by decide +kernel)), by decide +kernel⟩
theorem gw_668 : Cond.instanceMethod ⟨"CaseLayoutModel", "<init>", "(II)V"⟩ ∈ gx_T := List.mem_filter.mpr ⟨List.mem_append_right _ (List.mem_of_getElem? (i := 668) (by decide +kernel)), by decide +kernel⟩
theorem gw_669 : Cond.code ⟨"CaseLayoutModel", "<init>", "(II)V"⟩ prog_10_method_1_code 3 none ∈ gx_T := List.mem_filter.mpr ⟨List.mem_append_right _ (List.mem_of_getElem? (i := 669) (by decide +kernel)), by decide +kernel⟩
theorem gw_670 : Cond.methodLink "CaseLayoutModel" 1 ⟨"java/lang/Object", "<init>", "()V"⟩ ∈ gx_T := List.mem_filter.mpr ⟨List.mem_append_right _ (List.mem_of_getElem? (i := 670) (by decide +kernel)), by decide +kernel⟩
theorem gw_671 : Cond.methodLink "CaseLayoutModel" 69 ⟨"CaseLayoutModel", "held", "(I)I"⟩ ∈ gx_T := List.mem_filter.mpr ⟨List.mem_append_right _ (List.mem_of_getElem? (i := 671) (by decide +kernel)), by decide +kernel⟩
theorem gw_672 : Cond.static ⟨"CaseLayoutModel", "held", "(I)I"⟩ ∈ gx_T := List.mem_filter.mpr ⟨List.mem_append_right _ (List.mem_of_getElem? (i := 672) (by decide +kernel)), by decide +kernel⟩
theorem gw_673 : Cond.code ⟨"CaseLayoutModel", "held", "(I)I"⟩ prog_10_method_2_code 1 (some .int) ∈ gx_T := List.mem_filter.mpr ⟨List.mem_append_right _ (List.mem_of_getElem? (i := 673) (by decide +kernel)), by decide +kernel⟩
theorem gw_674 : Cond.fieldLink "CaseLayoutModel" 79 "CaseLayoutModel" "thrown" "I" ∈ gx_T := List.mem_filter.mpr ⟨List.mem_append_right _ (List.mem_of_getElem? (i := 674) (by decide +kernel)), by decide +kernel⟩
theorem gw_675 : Cond.fieldLink "CaseLayoutModel" 73 "CaseLayoutModel" "width" "I" ∈ gx_T := List.mem_filter.mpr ⟨List.mem_append_right _ (List.mem_of_getElem? (i := 675) (by decide +kernel)), by decide +kernel⟩
theorem gw_676 : Cond.fieldLink "CaseLayoutModel" 76 "CaseLayoutModel" "height" "I" ∈ gx_T := List.mem_filter.mpr ⟨List.mem_append_right _ (List.mem_of_getElem? (i := 676) (by decide +kernel)), by decide +kernel⟩
theorem gw_677 : Cond.fieldLink "CaseLayoutModel" 7 "CaseLayoutModel" "walls" "[Z" ∈ gx_T := List.mem_filter.mpr ⟨List.mem_append_right _ (List.mem_of_getElem? (i := 677) (by decide +kernel)), by decide +kernel⟩
theorem gw_678 : Cond.fieldLink "CaseLayoutModel" 13 "CaseLayoutModel" "zones" "[I" ∈ gx_T := List.mem_filter.mpr ⟨List.mem_append_right _ (List.mem_of_getElem? (i := 678) (by decide +kernel)), by decide +kernel⟩
theorem gw_679 : Cond.fieldLink "CaseLayoutModel" 86 "CaseLayoutModel" "things" "I" ∈ gx_T := List.mem_filter.mpr ⟨List.mem_append_right _ (List.mem_of_getElem? (i := 679) (by decide +kernel)), by decide +kernel⟩
theorem gw_680 : Cond.fieldLink "CaseLayoutModel" 17 "CaseLayoutModel" "wide" "[I" ∈ gx_T := List.mem_filter.mpr ⟨List.mem_append_right _ (List.mem_of_getElem? (i := 680) (by decide +kernel)), by decide +kernel⟩
theorem gw_681 : Cond.fieldLink "CaseLayoutModel" 20 "CaseLayoutModel" "high" "[I" ∈ gx_T := List.mem_filter.mpr ⟨List.mem_append_right _ (List.mem_of_getElem? (i := 681) (by decide +kernel)), by decide +kernel⟩
theorem gw_682 : Cond.fieldLink "CaseLayoutModel" 23 "CaseLayoutModel" "classes" "[I" ∈ gx_T := List.mem_filter.mpr ⟨List.mem_append_right _ (List.mem_of_getElem? (i := 682) (by decide +kernel)), by decide +kernel⟩
theorem gw_683 : Cond.fieldLink "CaseLayoutModel" 26 "CaseLayoutModel" "apart" "[I" ∈ gx_T := List.mem_filter.mpr ⟨List.mem_append_right _ (List.mem_of_getElem? (i := 683) (by decide +kernel)), by decide +kernel⟩
theorem gw_684 : Cond.fieldLink "CaseLayoutModel" 29 "CaseLayoutModel" "wishes" "[I" ∈ gx_T := List.mem_filter.mpr ⟨List.mem_append_right _ (List.mem_of_getElem? (i := 684) (by decide +kernel)), by decide +kernel⟩
theorem gw_685 : Cond.fieldLink "CaseLayoutModel" 99 "CaseLayoutModel" "places" "I" ∈ gx_T := List.mem_filter.mpr ⟨List.mem_append_right _ (List.mem_of_getElem? (i := 685) (by decide +kernel)), by decide +kernel⟩
theorem gw_686 : Cond.fieldLink "CaseLayoutModel" 32 "CaseLayoutModel" "placeX" "[I" ∈ gx_T := List.mem_filter.mpr ⟨List.mem_append_right _ (List.mem_of_getElem? (i := 686) (by decide +kernel)), by decide +kernel⟩
theorem gw_687 : Cond.fieldLink "CaseLayoutModel" 35 "CaseLayoutModel" "placeY" "[I" ∈ gx_T := List.mem_filter.mpr ⟨List.mem_append_right _ (List.mem_of_getElem? (i := 687) (by decide +kernel)), by decide +kernel⟩
theorem gw_688 : Cond.fieldLink "CaseLayoutModel" 38 "CaseLayoutModel" "sees" "[Z" ∈ gx_T := List.mem_filter.mpr ⟨List.mem_append_right _ (List.mem_of_getElem? (i := 688) (by decide +kernel)), by decide +kernel⟩
theorem gw_689 : Cond.fieldLink "CaseLayoutModel" 96 "CaseLayoutModel" "exits" "I" ∈ gx_T := List.mem_filter.mpr ⟨List.mem_append_right _ (List.mem_of_getElem? (i := 689) (by decide +kernel)), by decide +kernel⟩
theorem gw_690 : Cond.fieldLink "CaseLayoutModel" 41 "CaseLayoutModel" "exitX" "[I" ∈ gx_T := List.mem_filter.mpr ⟨List.mem_append_right _ (List.mem_of_getElem? (i := 690) (by decide +kernel)), by decide +kernel⟩
theorem gw_691 : Cond.fieldLink "CaseLayoutModel" 44 "CaseLayoutModel" "exitY" "[I" ∈ gx_T := List.mem_filter.mpr ⟨List.mem_append_right _ (List.mem_of_getElem? (i := 691) (by decide +kernel)), by decide +kernel⟩
theorem gw_692 : Cond.fieldLink "CaseLayoutModel" 47 "CaseLayoutModel" "most" "I" ∈ gx_T := List.mem_filter.mpr ⟨List.mem_append_right _ (List.mem_of_getElem? (i := 692) (by decide +kernel)), by decide +kernel⟩
theorem gw_693 : Cond.fieldLink "CaseLayoutModel" 51 "CaseLayoutModel" "atX" "[I" ∈ gx_T := List.mem_filter.mpr ⟨List.mem_append_right _ (List.mem_of_getElem? (i := 693) (by decide +kernel)), by decide +kernel⟩
theorem gw_694 : Cond.fieldLink "CaseLayoutModel" 54 "CaseLayoutModel" "atY" "[I" ∈ gx_T := List.mem_filter.mpr ⟨List.mem_append_right _ (List.mem_of_getElem? (i := 694) (by decide +kernel)), by decide +kernel⟩
theorem gw_695 : Cond.fieldLink "CaseLayoutModel" 57 "CaseLayoutModel" "next" "[I" ∈ gx_T := List.mem_filter.mpr ⟨List.mem_append_right _ (List.mem_of_getElem? (i := 695) (by decide +kernel)), by decide +kernel⟩
theorem gw_696 : Cond.fieldLink "CaseLayoutModel" 60 "CaseLayoutModel" "bestX" "[I" ∈ gx_T := List.mem_filter.mpr ⟨List.mem_append_right _ (List.mem_of_getElem? (i := 696) (by decide +kernel)), by decide +kernel⟩
theorem gw_697 : Cond.fieldLink "CaseLayoutModel" 63 "CaseLayoutModel" "bestY" "[I" ∈ gx_T := List.mem_filter.mpr ⟨List.mem_append_right _ (List.mem_of_getElem? (i := 697) (by decide +kernel)), by decide +kernel⟩
theorem gw_698 : Cond.fieldLink "CaseLayoutModel" 89 "CaseLayoutModel" "found" "Z" ∈ gx_T := List.mem_filter.mpr ⟨List.mem_append_right _ (List.mem_of_getElem? (i := 698) (by decide +kernel)), by decide +kernel⟩
theorem gw_699 : Cond.fieldLink "CaseLayoutModel" 163 "CaseLayoutModel" "worth" "I" ∈ gx_T := List.mem_filter.mpr ⟨List.mem_append_right _ (List.mem_of_getElem? (i := 699) (by decide +kernel)), by decide +kernel⟩
theorem gw_700 : Cond.fieldLink "CaseLayoutModel" 93 "CaseLayoutModel" "nodes" "I" ∈ gx_T := List.mem_filter.mpr ⟨List.mem_append_right _ (List.mem_of_getElem? (i := 700) (by decide +kernel)), by decide +kernel⟩
theorem gw_701 : Cond.fieldLink "CaseLayoutModel" 66 "CaseLayoutModel" "steps" "[I" ∈ gx_T := List.mem_filter.mpr ⟨List.mem_append_right _ (List.mem_of_getElem? (i := 701) (by decide +kernel)), by decide +kernel⟩
theorem gw_702 : Cond.lays "CaseLayoutModel" "CaseLayoutModel" "thrown" "I" ∈ gx_T := List.mem_filter.mpr ⟨List.mem_append_right _ (List.mem_of_getElem? (i := 702) (by decide +kernel)), by decide +kernel⟩
theorem gw_704 : Cond.laysFinal "CaseLayoutModel" "CaseLayoutModel" "width" "I" ∈ gx_T := List.mem_filter.mpr ⟨List.mem_append_right _ (List.mem_of_getElem? (i := 704) (by decide +kernel)), by decide +kernel⟩
theorem gw_706 : Cond.laysFinal "CaseLayoutModel" "CaseLayoutModel" "height" "I" ∈ gx_T := List.mem_filter.mpr ⟨List.mem_append_right _ (List.mem_of_getElem? (i := 706) (by decide +kernel)), by decide +kernel⟩
theorem gw_708 : Cond.laysFinal "CaseLayoutModel" "CaseLayoutModel" "walls" "[Z" ∈ gx_T := List.mem_filter.mpr ⟨List.mem_append_right _ (List.mem_of_getElem? (i := 708) (by decide +kernel)), by decide +kernel⟩
theorem gw_710 : Cond.laysFinal "CaseLayoutModel" "CaseLayoutModel" "zones" "[I" ∈ gx_T := List.mem_filter.mpr ⟨List.mem_append_right _ (List.mem_of_getElem? (i := 710) (by decide +kernel)), by decide +kernel⟩
theorem gw_712 : Cond.lays "CaseLayoutModel" "CaseLayoutModel" "things" "I" ∈ gx_T := List.mem_filter.mpr ⟨List.mem_append_right _ (List.mem_of_getElem? (i := 712) (by decide +kernel)), by decide +kernel⟩
theorem gw_714 : Cond.laysFinal "CaseLayoutModel" "CaseLayoutModel" "wide" "[I" ∈ gx_T := List.mem_filter.mpr ⟨List.mem_append_right _ (List.mem_of_getElem? (i := 714) (by decide +kernel)), by decide +kernel⟩
theorem gw_716 : Cond.laysFinal "CaseLayoutModel" "CaseLayoutModel" "high" "[I" ∈ gx_T := List.mem_filter.mpr ⟨List.mem_append_right _ (List.mem_of_getElem? (i := 716) (by decide +kernel)), by decide +kernel⟩
theorem gw_718 : Cond.laysFinal "CaseLayoutModel" "CaseLayoutModel" "classes" "[I" ∈ gx_T := List.mem_filter.mpr ⟨List.mem_append_right _ (List.mem_of_getElem? (i := 718) (by decide +kernel)), by decide +kernel⟩
theorem gw_720 : Cond.laysFinal "CaseLayoutModel" "CaseLayoutModel" "apart" "[I" ∈ gx_T := List.mem_filter.mpr ⟨List.mem_append_right _ (List.mem_of_getElem? (i := 720) (by decide +kernel)), by decide +kernel⟩
theorem gw_722 : Cond.laysFinal "CaseLayoutModel" "CaseLayoutModel" "wishes" "[I" ∈ gx_T := List.mem_filter.mpr ⟨List.mem_append_right _ (List.mem_of_getElem? (i := 722) (by decide +kernel)), by decide +kernel⟩
theorem gw_724 : Cond.lays "CaseLayoutModel" "CaseLayoutModel" "places" "I" ∈ gx_T := List.mem_filter.mpr ⟨List.mem_append_right _ (List.mem_of_getElem? (i := 724) (by decide +kernel)), by decide +kernel⟩
theorem gw_726 : Cond.laysFinal "CaseLayoutModel" "CaseLayoutModel" "placeX" "[I" ∈ gx_T := List.mem_filter.mpr ⟨List.mem_append_right _ (List.mem_of_getElem? (i := 726) (by decide +kernel)), by decide +kernel⟩
theorem gw_728 : Cond.laysFinal "CaseLayoutModel" "CaseLayoutModel" "placeY" "[I" ∈ gx_T := List.mem_filter.mpr ⟨List.mem_append_right _ (List.mem_of_getElem? (i := 728) (by decide +kernel)), by decide +kernel⟩
theorem gw_730 : Cond.laysFinal "CaseLayoutModel" "CaseLayoutModel" "sees" "[Z" ∈ gx_T := List.mem_filter.mpr ⟨List.mem_append_right _ (List.mem_of_getElem? (i := 730) (by decide +kernel)), by decide +kernel⟩
theorem gw_732 : Cond.lays "CaseLayoutModel" "CaseLayoutModel" "exits" "I" ∈ gx_T := List.mem_filter.mpr ⟨List.mem_append_right _ (List.mem_of_getElem? (i := 732) (by decide +kernel)), by decide +kernel⟩
theorem gw_734 : Cond.laysFinal "CaseLayoutModel" "CaseLayoutModel" "exitX" "[I" ∈ gx_T := List.mem_filter.mpr ⟨List.mem_append_right _ (List.mem_of_getElem? (i := 734) (by decide +kernel)), by decide +kernel⟩
theorem gw_736 : Cond.laysFinal "CaseLayoutModel" "CaseLayoutModel" "exitY" "[I" ∈ gx_T := List.mem_filter.mpr ⟨List.mem_append_right _ (List.mem_of_getElem? (i := 736) (by decide +kernel)), by decide +kernel⟩
theorem gw_738 : Cond.lays "CaseLayoutModel" "CaseLayoutModel" "most" "I" ∈ gx_T := List.mem_filter.mpr ⟨List.mem_append_right _ (List.mem_of_getElem? (i := 738) (by decide +kernel)), by decide +kernel⟩
theorem gw_740 : Cond.laysFinal "CaseLayoutModel" "CaseLayoutModel" "atX" "[I" ∈ gx_T := List.mem_filter.mpr ⟨List.mem_append_right _ (List.mem_of_getElem? (i := 740) (by decide +kernel)), by decide +kernel⟩
theorem gw_742 : Cond.laysFinal "CaseLayoutModel" "CaseLayoutModel" "atY" "[I" ∈ gx_T := List.mem_filter.mpr ⟨List.mem_append_right _ (List.mem_of_getElem? (i := 742) (by decide +kernel)), by decide +kernel⟩
theorem gw_744 : Cond.laysFinal "CaseLayoutModel" "CaseLayoutModel" "next" "[I" ∈ gx_T := List.mem_filter.mpr ⟨List.mem_append_right _ (List.mem_of_getElem? (i := 744) (by decide +kernel)), by decide +kernel⟩
theorem gw_746 : Cond.laysFinal "CaseLayoutModel" "CaseLayoutModel" "bestX" "[I" ∈ gx_T := List.mem_filter.mpr ⟨List.mem_append_right _ (List.mem_of_getElem? (i := 746) (by decide +kernel)), by decide +kernel⟩
theorem gw_748 : Cond.laysFinal "CaseLayoutModel" "CaseLayoutModel" "bestY" "[I" ∈ gx_T := List.mem_filter.mpr ⟨List.mem_append_right _ (List.mem_of_getElem? (i := 748) (by decide +kernel)), by decide +kernel⟩
theorem gw_750 : Cond.lays "CaseLayoutModel" "CaseLayoutModel" "found" "Z" ∈ gx_T := List.mem_filter.mpr ⟨List.mem_append_right _ (List.mem_of_getElem? (i := 750) (by decide +kernel)), by decide +kernel⟩
theorem gw_752 : Cond.lays "CaseLayoutModel" "CaseLayoutModel" "worth" "I" ∈ gx_T := List.mem_filter.mpr ⟨List.mem_append_right _ (List.mem_of_getElem? (i := 752) (by decide +kernel)), by decide +kernel⟩
theorem gw_754 : Cond.lays "CaseLayoutModel" "CaseLayoutModel" "nodes" "I" ∈ gx_T := List.mem_filter.mpr ⟨List.mem_append_right _ (List.mem_of_getElem? (i := 754) (by decide +kernel)), by decide +kernel⟩
theorem gw_756 : Cond.laysFinal "CaseLayoutModel" "CaseLayoutModel" "steps" "[I" ∈ gx_T := List.mem_filter.mpr ⟨List.mem_append_right _ (List.mem_of_getElem? (i := 756) (by decide +kernel)), by decide +kernel⟩
theorem gw_759 : Cond.methodLink "CaseLayoutLaw" 78 ⟨"CaseLayoutModel", "thrown", "()I"⟩ ∈ gx_T := List.mem_filter.mpr ⟨List.mem_append_right _ (List.mem_of_getElem? (i := 759) (by decide +kernel)), by decide +kernel⟩
theorem gw_760 : Cond.instanceMethod ⟨"CaseLayoutModel", "thrown", "()I"⟩ ∈ gx_T := List.mem_filter.mpr ⟨List.mem_append_right _ (List.mem_of_getElem? (i := 760) (by decide +kernel)), by decide +kernel⟩
theorem gw_761 : Cond.selects "CaseLayoutModel" ⟨"CaseLayoutModel", "thrown", "()I"⟩ ⟨"CaseLayoutModel", "thrown", "()I"⟩ ∈ gx_T := List.mem_filter.mpr ⟨List.mem_append_right _ (List.mem_of_getElem? (i := 761) (by decide +kernel)), by decide +kernel⟩
theorem gw_762 : Cond.code ⟨"CaseLayoutModel", "thrown", "()I"⟩ prog_10_method_3_code 1 (some .int) ∈ gx_T := List.mem_filter.mpr ⟨List.mem_append_right _ (List.mem_of_getElem? (i := 762) (by decide +kernel)), by decide +kernel⟩
theorem gw_763 : Cond.methodLink "CaseLayoutLaw" 77 ⟨"CaseLayoutModel", "wall", "(IIZ)Z"⟩ ∈ gx_T := List.mem_filter.mpr ⟨List.mem_append_right _ (List.mem_of_getElem? (i := 763) (by decide +kernel)), by decide +kernel⟩
theorem gw_764 : Cond.instanceMethod ⟨"CaseLayoutModel", "wall", "(IIZ)Z"⟩ ∈ gx_T := List.mem_filter.mpr ⟨List.mem_append_right _ (List.mem_of_getElem? (i := 764) (by decide +kernel)), by decide +kernel⟩
theorem gw_765 : Cond.selects "CaseLayoutModel" ⟨"CaseLayoutModel", "wall", "(IIZ)Z"⟩ ⟨"CaseLayoutModel", "wall", "(IIZ)Z"⟩ ∈ gx_T := List.mem_filter.mpr ⟨List.mem_append_right _ (List.mem_of_getElem? (i := 765) (by decide +kernel)), by decide +kernel⟩
theorem gw_766 : Cond.code ⟨"CaseLayoutModel", "wall", "(IIZ)Z"⟩ prog_10_method_11_code 4 (some .boolean) ∈ gx_T := List.mem_filter.mpr ⟨List.mem_append_right _ (List.mem_of_getElem? (i := 766) (by decide +kernel)), by decide +kernel⟩
theorem gw_767 : Cond.methodLink "CaseLayoutModel" 102 ⟨"CaseLayoutModel", "isCell", "(II)Z"⟩ ∈ gx_T := List.mem_filter.mpr ⟨List.mem_append_right _ (List.mem_of_getElem? (i := 767) (by decide +kernel)), by decide +kernel⟩
theorem gw_769 : Cond.instanceMethod ⟨"CaseLayoutModel", "isCell", "(II)Z"⟩ ∈ gx_T := List.mem_filter.mpr ⟨List.mem_append_right _ (List.mem_of_getElem? (i := 769) (by decide +kernel)), by decide +kernel⟩
theorem gw_770 : Cond.code ⟨"CaseLayoutModel", "isCell", "(II)Z"⟩ prog_10_method_6_code 3 (some .boolean) ∈ gx_T := List.mem_filter.mpr ⟨List.mem_append_right _ (List.mem_of_getElem? (i := 770) (by decide +kernel)), by decide +kernel⟩
theorem gw_771 : Cond.methodLink "CaseLayoutModel" 82 ⟨"CaseLayoutModel", "in", "(III)Z"⟩ ∈ gx_T := List.mem_filter.mpr ⟨List.mem_append_right _ (List.mem_of_getElem? (i := 771) (by decide +kernel)), by decide +kernel⟩
theorem gw_772 : Cond.static ⟨"CaseLayoutModel", "in", "(III)Z"⟩ ∈ gx_T := List.mem_filter.mpr ⟨List.mem_append_right _ (List.mem_of_getElem? (i := 772) (by decide +kernel)), by decide +kernel⟩
theorem gw_773 : Cond.code ⟨"CaseLayoutModel", "in", "(III)Z"⟩ prog_10_method_5_code 3 (some .boolean) ∈ gx_T := List.mem_filter.mpr ⟨List.mem_append_right _ (List.mem_of_getElem? (i := 773) (by decide +kernel)), by decide +kernel⟩
theorem gw_774 : Cond.methodLink "CaseLayoutModel" 106 ⟨"CaseLayoutModel", "throwing", "(ZZZ)Z"⟩ ∈ gx_T := List.mem_filter.mpr ⟨List.mem_append_right _ (List.mem_of_getElem? (i := 774) (by decide +kernel)), by decide +kernel⟩
theorem gw_776 : Cond.instanceMethod ⟨"CaseLayoutModel", "throwing", "(ZZZ)Z"⟩ ∈ gx_T := List.mem_filter.mpr ⟨List.mem_append_right _ (List.mem_of_getElem? (i := 776) (by decide +kernel)), by decide +kernel⟩
theorem gw_777 : Cond.code ⟨"CaseLayoutModel", "throwing", "(ZZZ)Z"⟩ prog_10_method_4_code 4 (some .boolean) ∈ gx_T := List.mem_filter.mpr ⟨List.mem_append_right _ (List.mem_of_getElem? (i := 777) (by decide +kernel)), by decide +kernel⟩
theorem gw_778 : Cond.methodLink "CaseLayoutModel" 110 ⟨"CaseLayoutModel", "isExit", "(II)Z"⟩ ∈ gx_T := List.mem_filter.mpr ⟨List.mem_append_right _ (List.mem_of_getElem? (i := 778) (by decide +kernel)), by decide +kernel⟩
theorem gw_780 : Cond.instanceMethod ⟨"CaseLayoutModel", "isExit", "(II)Z"⟩ ∈ gx_T := List.mem_filter.mpr ⟨List.mem_append_right _ (List.mem_of_getElem? (i := 780) (by decide +kernel)), by decide +kernel⟩
theorem gw_781 : Cond.code ⟨"CaseLayoutModel", "isExit", "(II)Z"⟩ prog_10_method_9_code 5 (some .boolean) ∈ gx_T := List.mem_filter.mpr ⟨List.mem_append_right _ (List.mem_of_getElem? (i := 781) (by decide +kernel)), by decide +kernel⟩
theorem gw_782 : Cond.methodLink "CaseLayoutModel" 113 ⟨"CaseLayoutModel", "isPlace", "(II)Z"⟩ ∈ gx_T := List.mem_filter.mpr ⟨List.mem_append_right _ (List.mem_of_getElem? (i := 782) (by decide +kernel)), by decide +kernel⟩
theorem gw_784 : Cond.instanceMethod ⟨"CaseLayoutModel", "isPlace", "(II)Z"⟩ ∈ gx_T := List.mem_filter.mpr ⟨List.mem_append_right _ (List.mem_of_getElem? (i := 784) (by decide +kernel)), by decide +kernel⟩
theorem gw_785 : Cond.code ⟨"CaseLayoutModel", "isPlace", "(II)Z"⟩ prog_10_method_10_code 5 (some .boolean) ∈ gx_T := List.mem_filter.mpr ⟨List.mem_append_right _ (List.mem_of_getElem? (i := 785) (by decide +kernel)), by decide +kernel⟩
theorem gw_786 : Cond.methodLink "CaseLayoutModel" 116 ⟨"CaseLayoutModel", "forget", "()V"⟩ ∈ gx_T := List.mem_filter.mpr ⟨List.mem_append_right _ (List.mem_of_getElem? (i := 786) (by decide +kernel)), by decide +kernel⟩
theorem gw_788 : Cond.instanceMethod ⟨"CaseLayoutModel", "forget", "()V"⟩ ∈ gx_T := List.mem_filter.mpr ⟨List.mem_append_right _ (List.mem_of_getElem? (i := 788) (by decide +kernel)), by decide +kernel⟩
theorem gw_789 : Cond.code ⟨"CaseLayoutModel", "forget", "()V"⟩ prog_10_method_8_code 1 none ∈ gx_T := List.mem_filter.mpr ⟨List.mem_append_right _ (List.mem_of_getElem? (i := 789) (by decide +kernel)), by decide +kernel⟩
theorem gw_790 : Cond.methodLink "CaseLayoutLaw" 85 ⟨"CaseLayoutModel", "zone", "(III)I"⟩ ∈ gx_T := List.mem_filter.mpr ⟨List.mem_append_right _ (List.mem_of_getElem? (i := 790) (by decide +kernel)), by decide +kernel⟩
theorem gw_791 : Cond.instanceMethod ⟨"CaseLayoutModel", "zone", "(III)I"⟩ ∈ gx_T := List.mem_filter.mpr ⟨List.mem_append_right _ (List.mem_of_getElem? (i := 791) (by decide +kernel)), by decide +kernel⟩
theorem gw_792 : Cond.selects "CaseLayoutModel" ⟨"CaseLayoutModel", "zone", "(III)I"⟩ ⟨"CaseLayoutModel", "zone", "(III)I"⟩ ∈ gx_T := List.mem_filter.mpr ⟨List.mem_append_right _ (List.mem_of_getElem? (i := 792) (by decide +kernel)), by decide +kernel⟩
theorem gw_793 : Cond.code ⟨"CaseLayoutModel", "zone", "(III)I"⟩ prog_10_method_12_code 5 (some .int) ∈ gx_T := List.mem_filter.mpr ⟨List.mem_append_right _ (List.mem_of_getElem? (i := 793) (by decide +kernel)), by decide +kernel⟩
theorem gw_794 : Cond.methodLink "CaseLayoutLaw" 88 ⟨"CaseLayoutModel", "thing", "(III)I"⟩ ∈ gx_T := List.mem_filter.mpr ⟨List.mem_append_right _ (List.mem_of_getElem? (i := 794) (by decide +kernel)), by decide +kernel⟩
theorem gw_795 : Cond.instanceMethod ⟨"CaseLayoutModel", "thing", "(III)I"⟩ ∈ gx_T := List.mem_filter.mpr ⟨List.mem_append_right _ (List.mem_of_getElem? (i := 795) (by decide +kernel)), by decide +kernel⟩
theorem gw_796 : Cond.selects "CaseLayoutModel" ⟨"CaseLayoutModel", "thing", "(III)I"⟩ ⟨"CaseLayoutModel", "thing", "(III)I"⟩ ∈ gx_T := List.mem_filter.mpr ⟨List.mem_append_right _ (List.mem_of_getElem? (i := 796) (by decide +kernel)), by decide +kernel⟩
theorem gw_797 : Cond.code ⟨"CaseLayoutModel", "thing", "(III)I"⟩ prog_10_method_13_code 4 (some .int) ∈ gx_T := List.mem_filter.mpr ⟨List.mem_append_right _ (List.mem_of_getElem? (i := 797) (by decide +kernel)), by decide +kernel⟩
theorem gw_798 : Cond.methodLink "CaseLayoutLaw" 91 ⟨"CaseLayoutModel", "apart", "(III)I"⟩ ∈ gx_T := List.mem_filter.mpr ⟨List.mem_append_right _ (List.mem_of_getElem? (i := 798) (by decide +kernel)), by decide +kernel⟩
theorem gw_799 : Cond.instanceMethod ⟨"CaseLayoutModel", "apart", "(III)I"⟩ ∈ gx_T := List.mem_filter.mpr ⟨List.mem_append_right _ (List.mem_of_getElem? (i := 799) (by decide +kernel)), by decide +kernel⟩
theorem gw_800 : Cond.selects "CaseLayoutModel" ⟨"CaseLayoutModel", "apart", "(III)I"⟩ ⟨"CaseLayoutModel", "apart", "(III)I"⟩ ∈ gx_T := List.mem_filter.mpr ⟨List.mem_append_right _ (List.mem_of_getElem? (i := 800) (by decide +kernel)), by decide +kernel⟩
theorem gw_801 : Cond.code ⟨"CaseLayoutModel", "apart", "(III)I"⟩ prog_10_method_14_code 5 (some .int) ∈ gx_T := List.mem_filter.mpr ⟨List.mem_append_right _ (List.mem_of_getElem? (i := 801) (by decide +kernel)), by decide +kernel⟩
theorem gw_802 : Cond.methodLink "CaseLayoutModel" 119 ⟨"CaseLayoutModel", "isThing", "(I)Z"⟩ ∈ gx_T := List.mem_filter.mpr ⟨List.mem_append_right _ (List.mem_of_getElem? (i := 802) (by decide +kernel)), by decide +kernel⟩
theorem gw_804 : Cond.instanceMethod ⟨"CaseLayoutModel", "isThing", "(I)Z"⟩ ∈ gx_T := List.mem_filter.mpr ⟨List.mem_append_right _ (List.mem_of_getElem? (i := 804) (by decide +kernel)), by decide +kernel⟩
theorem gw_805 : Cond.code ⟨"CaseLayoutModel", "isThing", "(I)Z"⟩ prog_10_method_7_code 2 (some .boolean) ∈ gx_T := List.mem_filter.mpr ⟨List.mem_append_right _ (List.mem_of_getElem? (i := 805) (by decide +kernel)), by decide +kernel⟩
theorem gw_806 : Cond.methodLink "CaseLayoutLaw" 94 ⟨"CaseLayoutModel", "wish", "(III)I"⟩ ∈ gx_T := List.mem_filter.mpr ⟨List.mem_append_right _ (List.mem_of_getElem? (i := 806) (by decide +kernel)), by decide +kernel⟩
theorem gw_807 : Cond.instanceMethod ⟨"CaseLayoutModel", "wish", "(III)I"⟩ ∈ gx_T := List.mem_filter.mpr ⟨List.mem_append_right _ (List.mem_of_getElem? (i := 807) (by decide +kernel)), by decide +kernel⟩
theorem gw_808 : Cond.selects "CaseLayoutModel" ⟨"CaseLayoutModel", "wish", "(III)I"⟩ ⟨"CaseLayoutModel", "wish", "(III)I"⟩ ∈ gx_T := List.mem_filter.mpr ⟨List.mem_append_right _ (List.mem_of_getElem? (i := 808) (by decide +kernel)), by decide +kernel⟩
theorem gw_809 : Cond.code ⟨"CaseLayoutModel", "wish", "(III)I"⟩ prog_10_method_15_code 5 (some .int) ∈ gx_T := List.mem_filter.mpr ⟨List.mem_append_right _ (List.mem_of_getElem? (i := 809) (by decide +kernel)), by decide +kernel⟩
theorem gw_810 : Cond.methodLink "CaseLayoutLaw" 98 ⟨"CaseLayoutModel", "place", "(II)I"⟩ ∈ gx_T := List.mem_filter.mpr ⟨List.mem_append_right _ (List.mem_of_getElem? (i := 810) (by decide +kernel)), by decide +kernel⟩
theorem gw_811 : Cond.instanceMethod ⟨"CaseLayoutModel", "place", "(II)I"⟩ ∈ gx_T := List.mem_filter.mpr ⟨List.mem_append_right _ (List.mem_of_getElem? (i := 811) (by decide +kernel)), by decide +kernel⟩
theorem gw_812 : Cond.selects "CaseLayoutModel" ⟨"CaseLayoutModel", "place", "(II)I"⟩ ⟨"CaseLayoutModel", "place", "(II)I"⟩ ∈ gx_T := List.mem_filter.mpr ⟨List.mem_append_right _ (List.mem_of_getElem? (i := 812) (by decide +kernel)), by decide +kernel⟩
theorem gw_813 : Cond.code ⟨"CaseLayoutModel", "place", "(II)I"⟩ prog_10_method_16_code 4 (some .int) ∈ gx_T := List.mem_filter.mpr ⟨List.mem_append_right _ (List.mem_of_getElem? (i := 813) (by decide +kernel)), by decide +kernel⟩
theorem gw_814 : Cond.methodLink "CaseLayoutLaw" 101 ⟨"CaseLayoutModel", "sees", "(IIZ)Z"⟩ ∈ gx_T := List.mem_filter.mpr ⟨List.mem_append_right _ (List.mem_of_getElem? (i := 814) (by decide +kernel)), by decide +kernel⟩
theorem gw_815 : Cond.instanceMethod ⟨"CaseLayoutModel", "sees", "(IIZ)Z"⟩ ∈ gx_T := List.mem_filter.mpr ⟨List.mem_append_right _ (List.mem_of_getElem? (i := 815) (by decide +kernel)), by decide +kernel⟩
theorem gw_816 : Cond.selects "CaseLayoutModel" ⟨"CaseLayoutModel", "sees", "(IIZ)Z"⟩ ⟨"CaseLayoutModel", "sees", "(IIZ)Z"⟩ ∈ gx_T := List.mem_filter.mpr ⟨List.mem_append_right _ (List.mem_of_getElem? (i := 816) (by decide +kernel)), by decide +kernel⟩
theorem gw_817 : Cond.code ⟨"CaseLayoutModel", "sees", "(IIZ)Z"⟩ prog_10_method_17_code 5 (some .boolean) ∈ gx_T := List.mem_filter.mpr ⟨List.mem_append_right _ (List.mem_of_getElem? (i := 817) (by decide +kernel)), by decide +kernel⟩
theorem gw_818 : Cond.methodLink "CaseLayoutLaw" 104 ⟨"CaseLayoutModel", "exit", "(II)I"⟩ ∈ gx_T := List.mem_filter.mpr ⟨List.mem_append_right _ (List.mem_of_getElem? (i := 818) (by decide +kernel)), by decide +kernel⟩
theorem gw_819 : Cond.instanceMethod ⟨"CaseLayoutModel", "exit", "(II)I"⟩ ∈ gx_T := List.mem_filter.mpr ⟨List.mem_append_right _ (List.mem_of_getElem? (i := 819) (by decide +kernel)), by decide +kernel⟩
theorem gw_820 : Cond.selects "CaseLayoutModel" ⟨"CaseLayoutModel", "exit", "(II)I"⟩ ⟨"CaseLayoutModel", "exit", "(II)I"⟩ ∈ gx_T := List.mem_filter.mpr ⟨List.mem_append_right _ (List.mem_of_getElem? (i := 820) (by decide +kernel)), by decide +kernel⟩
theorem gw_821 : Cond.code ⟨"CaseLayoutModel", "exit", "(II)I"⟩ prog_10_method_18_code 4 (some .int) ∈ gx_T := List.mem_filter.mpr ⟨List.mem_append_right _ (List.mem_of_getElem? (i := 821) (by decide +kernel)), by decide +kernel⟩
theorem gw_822 : Cond.methodLink "CaseLayoutLaw" 108 ⟨"CaseLayoutModel", "most", "(I)I"⟩ ∈ gx_T := List.mem_filter.mpr ⟨List.mem_append_right _ (List.mem_of_getElem? (i := 822) (by decide +kernel)), by decide +kernel⟩
theorem gw_823 : Cond.instanceMethod ⟨"CaseLayoutModel", "most", "(I)I"⟩ ∈ gx_T := List.mem_filter.mpr ⟨List.mem_append_right _ (List.mem_of_getElem? (i := 823) (by decide +kernel)), by decide +kernel⟩
theorem gw_824 : Cond.selects "CaseLayoutModel" ⟨"CaseLayoutModel", "most", "(I)I"⟩ ⟨"CaseLayoutModel", "most", "(I)I"⟩ ∈ gx_T := List.mem_filter.mpr ⟨List.mem_append_right _ (List.mem_of_getElem? (i := 824) (by decide +kernel)), by decide +kernel⟩
theorem gw_825 : Cond.code ⟨"CaseLayoutModel", "most", "(I)I"⟩ prog_10_method_19_code 3 (some .int) ∈ gx_T := List.mem_filter.mpr ⟨List.mem_append_right _ (List.mem_of_getElem? (i := 825) (by decide +kernel)), by decide +kernel⟩
theorem gw_826 : Cond.methodLink "CaseLayoutLaw" 111 ⟨"CaseLayoutModel", "run", "(I)I"⟩ ∈ gx_T := List.mem_filter.mpr ⟨List.mem_append_right _ (List.mem_of_getElem? (i := 826) (by decide +kernel)), by decide +kernel⟩
theorem gw_827 : Cond.instanceMethod ⟨"CaseLayoutModel", "run", "(I)I"⟩ ∈ gx_T := List.mem_filter.mpr ⟨List.mem_append_right _ (List.mem_of_getElem? (i := 827) (by decide +kernel)), by decide +kernel⟩
theorem gw_828 : Cond.selects "CaseLayoutModel" ⟨"CaseLayoutModel", "run", "(I)I"⟩ ⟨"CaseLayoutModel", "run", "(I)I"⟩ ∈ gx_T := List.mem_filter.mpr ⟨List.mem_append_right _ (List.mem_of_getElem? (i := 828) (by decide +kernel)), by decide +kernel⟩
theorem gw_829 : Cond.code ⟨"CaseLayoutModel", "run", "(I)I"⟩ prog_10_method_36_code 3 (some .int) ∈ gx_T := List.mem_filter.mpr ⟨List.mem_append_right _ (List.mem_of_getElem? (i := 829) (by decide +kernel)), by decide +kernel⟩
theorem gw_830 : Cond.methodLink "CaseLayoutModel" 176 ⟨"CaseLayoutModel", "search", "(I)Z"⟩ ∈ gx_T := List.mem_filter.mpr ⟨List.mem_append_right _ (List.mem_of_getElem? (i := 830) (by decide +kernel)), by decide +kernel⟩
theorem gw_832 : Cond.instanceMethod ⟨"CaseLayoutModel", "search", "(I)Z"⟩ ∈ gx_T := List.mem_filter.mpr ⟨List.mem_append_right _ (List.mem_of_getElem? (i := 832) (by decide +kernel)), by decide +kernel⟩
theorem gw_833 : Cond.code ⟨"CaseLayoutModel", "search", "(I)Z"⟩ prog_10_method_35_code 3 (some .boolean) ∈ gx_T := List.mem_filter.mpr ⟨List.mem_append_right _ (List.mem_of_getElem? (i := 833) (by decide +kernel)), by decide +kernel⟩
theorem gw_834 : Cond.methodLink "CaseLayoutModel" 166 ⟨"CaseLayoutModel", "isLayout", "()Z"⟩ ∈ gx_T := List.mem_filter.mpr ⟨List.mem_append_right _ (List.mem_of_getElem? (i := 834) (by decide +kernel)), by decide +kernel⟩
theorem gw_836 : Cond.instanceMethod ⟨"CaseLayoutModel", "isLayout", "()Z"⟩ ∈ gx_T := List.mem_filter.mpr ⟨List.mem_append_right _ (List.mem_of_getElem? (i := 836) (by decide +kernel)), by decide +kernel⟩
theorem gw_837 : Cond.code ⟨"CaseLayoutModel", "isLayout", "()Z"⟩ prog_10_method_32_code 3 (some .boolean) ∈ gx_T := List.mem_filter.mpr ⟨List.mem_append_right _ (List.mem_of_getElem? (i := 837) (by decide +kernel)), by decide +kernel⟩
theorem gw_838 : Cond.methodLink "CaseLayoutModel" 150 ⟨"CaseLayoutModel", "isSeen", "(II)Z"⟩ ∈ gx_T := List.mem_filter.mpr ⟨List.mem_append_right _ (List.mem_of_getElem? (i := 838) (by decide +kernel)), by decide +kernel⟩
theorem gw_840 : Cond.instanceMethod ⟨"CaseLayoutModel", "isSeen", "(II)Z"⟩ ∈ gx_T := List.mem_filter.mpr ⟨List.mem_append_right _ (List.mem_of_getElem? (i := 840) (by decide +kernel)), by decide +kernel⟩
theorem gw_841 : Cond.code ⟨"CaseLayoutModel", "isSeen", "(II)Z"⟩ prog_10_method_27_code 13 (some .boolean) ∈ gx_T := List.mem_filter.mpr ⟨List.mem_append_right _ (List.mem_of_getElem? (i := 841) (by decide +kernel)), by decide +kernel⟩
theorem gw_842 : Cond.methodLink "CaseLayoutModel" 137 ⟨"CaseLayoutModel", "covers", "(III)Z"⟩ ∈ gx_T := List.mem_filter.mpr ⟨List.mem_append_right _ (List.mem_of_getElem? (i := 842) (by decide +kernel)), by decide +kernel⟩
theorem gw_844 : Cond.instanceMethod ⟨"CaseLayoutModel", "covers", "(III)Z"⟩ ∈ gx_T := List.mem_filter.mpr ⟨List.mem_append_right _ (List.mem_of_getElem? (i := 844) (by decide +kernel)), by decide +kernel⟩
theorem gw_845 : Cond.code ⟨"CaseLayoutModel", "covers", "(III)Z"⟩ prog_10_method_23_code 4 (some .boolean) ∈ gx_T := List.mem_filter.mpr ⟨List.mem_append_right _ (List.mem_of_getElem? (i := 845) (by decide +kernel)), by decide +kernel⟩
theorem gw_846 : Cond.methodLink "CaseLayoutModel" 140 ⟨"CaseLayoutModel", "goesThrough", "(IIIIII)Z"⟩ ∈ gx_T := List.mem_filter.mpr ⟨List.mem_append_right _ (List.mem_of_getElem? (i := 846) (by decide +kernel)), by decide +kernel⟩
theorem gw_847 : Cond.static ⟨"CaseLayoutModel", "goesThrough", "(IIIIII)Z"⟩ ∈ gx_T := List.mem_filter.mpr ⟨List.mem_append_right _ (List.mem_of_getElem? (i := 847) (by decide +kernel)), by decide +kernel⟩
theorem gw_848 : Cond.code ⟨"CaseLayoutModel", "goesThrough", "(IIIIII)Z"⟩ prog_10_method_26_code 14 (some .boolean) ∈ gx_T := List.mem_filter.mpr ⟨List.mem_append_right _ (List.mem_of_getElem? (i := 848) (by decide +kernel)), by decide +kernel⟩
theorem gw_849 : Cond.methodLink "CaseLayoutModel" 134 ⟨"CaseLayoutModel", "cross", "(IIII)I"⟩ ∈ gx_T := List.mem_filter.mpr ⟨List.mem_append_right _ (List.mem_of_getElem? (i := 849) (by decide +kernel)), by decide +kernel⟩
theorem gw_850 : Cond.static ⟨"CaseLayoutModel", "cross", "(IIII)I"⟩ ∈ gx_T := List.mem_filter.mpr ⟨List.mem_append_right _ (List.mem_of_getElem? (i := 850) (by decide +kernel)), by decide +kernel⟩
theorem gw_851 : Cond.code ⟨"CaseLayoutModel", "cross", "(IIII)I"⟩ prog_10_method_25_code 4 (some .int) ∈ gx_T := List.mem_filter.mpr ⟨List.mem_append_right _ (List.mem_of_getElem? (i := 851) (by decide +kernel)), by decide +kernel⟩
theorem gw_852 : Cond.methodLink "CaseLayoutModel" 153 ⟨"CaseLayoutModel", "measure", "()V"⟩ ∈ gx_T := List.mem_filter.mpr ⟨List.mem_append_right _ (List.mem_of_getElem? (i := 852) (by decide +kernel)), by decide +kernel⟩
theorem gw_854 : Cond.instanceMethod ⟨"CaseLayoutModel", "measure", "()V"⟩ ∈ gx_T := List.mem_filter.mpr ⟨List.mem_append_right _ (List.mem_of_getElem? (i := 854) (by decide +kernel)), by decide +kernel⟩
theorem gw_855 : Cond.code ⟨"CaseLayoutModel", "measure", "()V"⟩ prog_10_method_30_code 6 none ∈ gx_T := List.mem_filter.mpr ⟨List.mem_append_right _ (List.mem_of_getElem? (i := 855) (by decide +kernel)), by decide +kernel⟩
theorem gw_856 : Cond.methodLink "CaseLayoutModel" 144 ⟨"CaseLayoutModel", "isFree", "(II)Z"⟩ ∈ gx_T := List.mem_filter.mpr ⟨List.mem_append_right _ (List.mem_of_getElem? (i := 856) (by decide +kernel)), by decide +kernel⟩
theorem gw_858 : Cond.instanceMethod ⟨"CaseLayoutModel", "isFree", "(II)Z"⟩ ∈ gx_T := List.mem_filter.mpr ⟨List.mem_append_right _ (List.mem_of_getElem? (i := 858) (by decide +kernel)), by decide +kernel⟩
theorem gw_859 : Cond.code ⟨"CaseLayoutModel", "isFree", "(II)Z"⟩ prog_10_method_28_code 5 (some .boolean) ∈ gx_T := List.mem_filter.mpr ⟨List.mem_append_right _ (List.mem_of_getElem? (i := 859) (by decide +kernel)), by decide +kernel⟩
theorem gw_860 : Cond.methodLink "CaseLayoutModel" 147 ⟨"CaseLayoutModel", "stepsFrom", "(II)I"⟩ ∈ gx_T := List.mem_filter.mpr ⟨List.mem_append_right _ (List.mem_of_getElem? (i := 860) (by decide +kernel)), by decide +kernel⟩
theorem gw_862 : Cond.instanceMethod ⟨"CaseLayoutModel", "stepsFrom", "(II)I"⟩ ∈ gx_T := List.mem_filter.mpr ⟨List.mem_append_right _ (List.mem_of_getElem? (i := 862) (by decide +kernel)), by decide +kernel⟩
theorem gw_863 : Cond.code ⟨"CaseLayoutModel", "stepsFrom", "(II)I"⟩ prog_10_method_29_code 3 (some .int) ∈ gx_T := List.mem_filter.mpr ⟨List.mem_append_right _ (List.mem_of_getElem? (i := 863) (by decide +kernel)), by decide +kernel⟩
theorem gw_864 : Cond.methodLink "CaseLayoutModel" 156 ⟨"CaseLayoutModel", "escapes", "(I)Z"⟩ ∈ gx_T := List.mem_filter.mpr ⟨List.mem_append_right _ (List.mem_of_getElem? (i := 864) (by decide +kernel)), by decide +kernel⟩
theorem gw_866 : Cond.instanceMethod ⟨"CaseLayoutModel", "escapes", "(I)Z"⟩ ∈ gx_T := List.mem_filter.mpr ⟨List.mem_append_right _ (List.mem_of_getElem? (i := 866) (by decide +kernel)), by decide +kernel⟩
theorem gw_867 : Cond.code ⟨"CaseLayoutModel", "escapes", "(I)Z"⟩ prog_10_method_31_code 4 (some .boolean) ∈ gx_T := List.mem_filter.mpr ⟨List.mem_append_right _ (List.mem_of_getElem? (i := 867) (by decide +kernel)), by decide +kernel⟩
theorem gw_868 : Cond.methodLink "CaseLayoutModel" 170 ⟨"CaseLayoutModel", "keep", "()V"⟩ ∈ gx_T := List.mem_filter.mpr ⟨List.mem_append_right _ (List.mem_of_getElem? (i := 868) (by decide +kernel)), by decide +kernel⟩
theorem gw_870 : Cond.instanceMethod ⟨"CaseLayoutModel", "keep", "()V"⟩ ∈ gx_T := List.mem_filter.mpr ⟨List.mem_append_right _ (List.mem_of_getElem? (i := 870) (by decide +kernel)), by decide +kernel⟩
theorem gw_871 : Cond.code ⟨"CaseLayoutModel", "keep", "()V"⟩ prog_10_method_34_code 3 none ∈ gx_T := List.mem_filter.mpr ⟨List.mem_append_right _ (List.mem_of_getElem? (i := 871) (by decide +kernel)), by decide +kernel⟩
theorem gw_872 : Cond.methodLink "CaseLayoutModel" 159 ⟨"CaseLayoutModel", "worthNow", "()I"⟩ ∈ gx_T := List.mem_filter.mpr ⟨List.mem_append_right _ (List.mem_of_getElem? (i := 872) (by decide +kernel)), by decide +kernel⟩
theorem gw_874 : Cond.instanceMethod ⟨"CaseLayoutModel", "worthNow", "()I"⟩ ∈ gx_T := List.mem_filter.mpr ⟨List.mem_append_right _ (List.mem_of_getElem? (i := 874) (by decide +kernel)), by decide +kernel⟩
theorem gw_875 : Cond.code ⟨"CaseLayoutModel", "worthNow", "()I"⟩ prog_10_method_33_code 4 (some .int) ∈ gx_T := List.mem_filter.mpr ⟨List.mem_append_right _ (List.mem_of_getElem? (i := 875) (by decide +kernel)), by decide +kernel⟩
theorem gw_876 : Cond.methodLink "CaseLayoutModel" 130 ⟨"CaseLayoutModel", "gap", "(II)I"⟩ ∈ gx_T := List.mem_filter.mpr ⟨List.mem_append_right _ (List.mem_of_getElem? (i := 876) (by decide +kernel)), by decide +kernel⟩
theorem gw_878 : Cond.instanceMethod ⟨"CaseLayoutModel", "gap", "(II)I"⟩ ∈ gx_T := List.mem_filter.mpr ⟨List.mem_append_right _ (List.mem_of_getElem? (i := 878) (by decide +kernel)), by decide +kernel⟩
theorem gw_879 : Cond.code ⟨"CaseLayoutModel", "gap", "(II)I"⟩ prog_10_method_21_code 5 (some .int) ∈ gx_T := List.mem_filter.mpr ⟨List.mem_append_right _ (List.mem_of_getElem? (i := 879) (by decide +kernel)), by decide +kernel⟩
theorem gw_880 : Cond.methodLink "CaseLayoutModel" 123 ⟨"CaseLayoutModel", "between", "(IIII)I"⟩ ∈ gx_T := List.mem_filter.mpr ⟨List.mem_append_right _ (List.mem_of_getElem? (i := 880) (by decide +kernel)), by decide +kernel⟩
theorem gw_881 : Cond.static ⟨"CaseLayoutModel", "between", "(IIII)I"⟩ ∈ gx_T := List.mem_filter.mpr ⟨List.mem_append_right _ (List.mem_of_getElem? (i := 881) (by decide +kernel)), by decide +kernel⟩
theorem gw_882 : Cond.code ⟨"CaseLayoutModel", "between", "(IIII)I"⟩ prog_10_method_20_code 4 (some .int) ∈ gx_T := List.mem_filter.mpr ⟨List.mem_append_right _ (List.mem_of_getElem? (i := 882) (by decide +kernel)), by decide +kernel⟩
theorem gw_883 : Cond.methodLink "CaseLayoutModel" 173 ⟨"CaseLayoutModel", "lies", "(I)Z"⟩ ∈ gx_T := List.mem_filter.mpr ⟨List.mem_append_right _ (List.mem_of_getElem? (i := 883) (by decide +kernel)), by decide +kernel⟩
theorem gw_885 : Cond.instanceMethod ⟨"CaseLayoutModel", "lies", "(I)Z"⟩ ∈ gx_T := List.mem_filter.mpr ⟨List.mem_append_right _ (List.mem_of_getElem? (i := 885) (by decide +kernel)), by decide +kernel⟩
theorem gw_886 : Cond.code ⟨"CaseLayoutModel", "lies", "(I)Z"⟩ prog_10_method_24_code 5 (some .boolean) ∈ gx_T := List.mem_filter.mpr ⟨List.mem_append_right _ (List.mem_of_getElem? (i := 886) (by decide +kernel)), by decide +kernel⟩
theorem gw_887 : Cond.methodLink "CaseLayoutModel" 127 ⟨"CaseLayoutModel", "meets", "(II)Z"⟩ ∈ gx_T := List.mem_filter.mpr ⟨List.mem_append_right _ (List.mem_of_getElem? (i := 887) (by decide +kernel)), by decide +kernel⟩
theorem gw_889 : Cond.instanceMethod ⟨"CaseLayoutModel", "meets", "(II)Z"⟩ ∈ gx_T := List.mem_filter.mpr ⟨List.mem_append_right _ (List.mem_of_getElem? (i := 889) (by decide +kernel)), by decide +kernel⟩
theorem gw_890 : Cond.code ⟨"CaseLayoutModel", "meets", "(II)Z"⟩ prog_10_method_22_code 3 (some .boolean) ∈ gx_T := List.mem_filter.mpr ⟨List.mem_append_right _ (List.mem_of_getElem? (i := 890) (by decide +kernel)), by decide +kernel⟩
theorem gw_891 : Cond.methodLink "CaseLayoutLaw" 115 ⟨"CaseLayoutModel", "nodes", "()I"⟩ ∈ gx_T := List.mem_filter.mpr ⟨List.mem_append_right _ (List.mem_of_getElem? (i := 891) (by decide +kernel)), by decide +kernel⟩
theorem gw_892 : Cond.instanceMethod ⟨"CaseLayoutModel", "nodes", "()I"⟩ ∈ gx_T := List.mem_filter.mpr ⟨List.mem_append_right _ (List.mem_of_getElem? (i := 892) (by decide +kernel)), by decide +kernel⟩
theorem gw_893 : Cond.selects "CaseLayoutModel" ⟨"CaseLayoutModel", "nodes", "()I"⟩ ⟨"CaseLayoutModel", "nodes", "()I"⟩ ∈ gx_T := List.mem_filter.mpr ⟨List.mem_append_right _ (List.mem_of_getElem? (i := 893) (by decide +kernel)), by decide +kernel⟩
theorem gw_894 : Cond.code ⟨"CaseLayoutModel", "nodes", "()I"⟩ prog_10_method_37_code 1 (some .int) ∈ gx_T := List.mem_filter.mpr ⟨List.mem_append_right _ (List.mem_of_getElem? (i := 894) (by decide +kernel)), by decide +kernel⟩
theorem gw_895 : Cond.methodLink "CaseLayoutLaw" 118 ⟨"CaseLayoutModel", "at", "(II)I"⟩ ∈ gx_T := List.mem_filter.mpr ⟨List.mem_append_right _ (List.mem_of_getElem? (i := 895) (by decide +kernel)), by decide +kernel⟩
theorem gw_896 : Cond.instanceMethod ⟨"CaseLayoutModel", "at", "(II)I"⟩ ∈ gx_T := List.mem_filter.mpr ⟨List.mem_append_right _ (List.mem_of_getElem? (i := 896) (by decide +kernel)), by decide +kernel⟩
theorem gw_897 : Cond.selects "CaseLayoutModel" ⟨"CaseLayoutModel", "at", "(II)I"⟩ ⟨"CaseLayoutModel", "at", "(II)I"⟩ ∈ gx_T := List.mem_filter.mpr ⟨List.mem_append_right _ (List.mem_of_getElem? (i := 897) (by decide +kernel)), by decide +kernel⟩
theorem gw_898 : Cond.code ⟨"CaseLayoutModel", "at", "(II)I"⟩ prog_10_method_39_code 3 (some .int) ∈ gx_T := List.mem_filter.mpr ⟨List.mem_append_right _ (List.mem_of_getElem? (i := 898) (by decide +kernel)), by decide +kernel⟩
theorem gw_899 : Cond.methodLink "CaseLayoutLaw" 122 ⟨"CaseLayoutModel", "worth", "()I"⟩ ∈ gx_T := List.mem_filter.mpr ⟨List.mem_append_right _ (List.mem_of_getElem? (i := 899) (by decide +kernel)), by decide +kernel⟩
theorem gw_900 : Cond.instanceMethod ⟨"CaseLayoutModel", "worth", "()I"⟩ ∈ gx_T := List.mem_filter.mpr ⟨List.mem_append_right _ (List.mem_of_getElem? (i := 900) (by decide +kernel)), by decide +kernel⟩
theorem gw_901 : Cond.selects "CaseLayoutModel" ⟨"CaseLayoutModel", "worth", "()I"⟩ ⟨"CaseLayoutModel", "worth", "()I"⟩ ∈ gx_T := List.mem_filter.mpr ⟨List.mem_append_right _ (List.mem_of_getElem? (i := 901) (by decide +kernel)), by decide +kernel⟩
theorem gw_902 : Cond.code ⟨"CaseLayoutModel", "worth", "()I"⟩ prog_10_method_40_code 1 (some .int) ∈ gx_T := List.mem_filter.mpr ⟨List.mem_append_right _ (List.mem_of_getElem? (i := 902) (by decide +kernel)), by decide +kernel⟩
theorem gw_903 : Cond.methodLink "CaseLayoutLaw" 125 ⟨"CaseLayoutModel", "sight", "(II)Z"⟩ ∈ gx_T := List.mem_filter.mpr ⟨List.mem_append_right _ (List.mem_of_getElem? (i := 903) (by decide +kernel)), by decide +kernel⟩
theorem gw_904 : Cond.instanceMethod ⟨"CaseLayoutModel", "sight", "(II)Z"⟩ ∈ gx_T := List.mem_filter.mpr ⟨List.mem_append_right _ (List.mem_of_getElem? (i := 904) (by decide +kernel)), by decide +kernel⟩
theorem gw_905 : Cond.selects "CaseLayoutModel" ⟨"CaseLayoutModel", "sight", "(II)Z"⟩ ⟨"CaseLayoutModel", "sight", "(II)Z"⟩ ∈ gx_T := List.mem_filter.mpr ⟨List.mem_append_right _ (List.mem_of_getElem? (i := 905) (by decide +kernel)), by decide +kernel⟩
theorem gw_906 : Cond.code ⟨"CaseLayoutModel", "sight", "(II)Z"⟩ prog_10_method_41_code 3 (some .boolean) ∈ gx_T := List.mem_filter.mpr ⟨List.mem_append_right _ (List.mem_of_getElem? (i := 906) (by decide +kernel)), by decide +kernel⟩
theorem gw_907 : Cond.methodLink "CaseLayoutModel" 179 ⟨"CaseLayoutModel", "layBest", "()V"⟩ ∈ gx_T := List.mem_filter.mpr ⟨List.mem_append_right _ (List.mem_of_getElem? (i := 907) (by decide +kernel)), by decide +kernel⟩
theorem gw_909 : Cond.instanceMethod ⟨"CaseLayoutModel", "layBest", "()V"⟩ ∈ gx_T := List.mem_filter.mpr ⟨List.mem_append_right _ (List.mem_of_getElem? (i := 909) (by decide +kernel)), by decide +kernel⟩
theorem gw_910 : Cond.code ⟨"CaseLayoutModel", "layBest", "()V"⟩ prog_10_method_38_code 2 none ∈ gx_T := List.mem_filter.mpr ⟨List.mem_append_right _ (List.mem_of_getElem? (i := 910) (by decide +kernel)), by decide +kernel⟩
theorem gw_911 : Cond.methodLink "CaseLayoutLaw" 128 ⟨"CaseLayoutModel", "escape", "(II)I"⟩ ∈ gx_T := List.mem_filter.mpr ⟨List.mem_append_right _ (List.mem_of_getElem? (i := 911) (by decide +kernel)), by decide +kernel⟩
theorem gw_912 : Cond.instanceMethod ⟨"CaseLayoutModel", "escape", "(II)I"⟩ ∈ gx_T := List.mem_filter.mpr ⟨List.mem_append_right _ (List.mem_of_getElem? (i := 912) (by decide +kernel)), by decide +kernel⟩
theorem gw_913 : Cond.selects "CaseLayoutModel" ⟨"CaseLayoutModel", "escape", "(II)I"⟩ ⟨"CaseLayoutModel", "escape", "(II)I"⟩ ∈ gx_T := List.mem_filter.mpr ⟨List.mem_append_right _ (List.mem_of_getElem? (i := 913) (by decide +kernel)), by decide +kernel⟩
theorem gw_914 : Cond.code ⟨"CaseLayoutModel", "escape", "(II)I"⟩ prog_10_method_42_code 3 (some .int) ∈ gx_T := List.mem_filter.mpr ⟨List.mem_append_right _ (List.mem_of_getElem? (i := 914) (by decide +kernel)), by decide +kernel⟩
theorem gw_915 : Cond.methodLink "CaseLayoutLaw" 131 ⟨"CaseLayoutModel", "count", "(I)I"⟩ ∈ gx_T := List.mem_filter.mpr ⟨List.mem_append_right _ (List.mem_of_getElem? (i := 915) (by decide +kernel)), by decide +kernel⟩
theorem gw_916 : Cond.instanceMethod ⟨"CaseLayoutModel", "count", "(I)I"⟩ ∈ gx_T := List.mem_filter.mpr ⟨List.mem_append_right _ (List.mem_of_getElem? (i := 916) (by decide +kernel)), by decide +kernel⟩
theorem gw_917 : Cond.selects "CaseLayoutModel" ⟨"CaseLayoutModel", "count", "(I)I"⟩ ⟨"CaseLayoutModel", "count", "(I)I"⟩ ∈ gx_T := List.mem_filter.mpr ⟨List.mem_append_right _ (List.mem_of_getElem? (i := 917) (by decide +kernel)), by decide +kernel⟩
theorem gw_918 : Cond.code ⟨"CaseLayoutModel", "count", "(I)I"⟩ prog_10_method_44_code 2 (some .int) ∈ gx_T := List.mem_filter.mpr ⟨List.mem_append_right _ (List.mem_of_getElem? (i := 918) (by decide +kernel)), by decide +kernel⟩
theorem gw_919 : Cond.methodLink "CaseLayoutModel" 182 ⟨"CaseLayoutModel", "wallCount", "()I"⟩ ∈ gx_T := List.mem_filter.mpr ⟨List.mem_append_right _ (List.mem_of_getElem? (i := 919) (by decide +kernel)), by decide +kernel⟩
theorem gw_921 : Cond.instanceMethod ⟨"CaseLayoutModel", "wallCount", "()I"⟩ ∈ gx_T := List.mem_filter.mpr ⟨List.mem_append_right _ (List.mem_of_getElem? (i := 921) (by decide +kernel)), by decide +kernel⟩
theorem gw_922 : Cond.code ⟨"CaseLayoutModel", "wallCount", "()I"⟩ prog_10_method_43_code 3 (some .int) ∈ gx_T := List.mem_filter.mpr ⟨List.mem_append_right _ (List.mem_of_getElem? (i := 922) (by decide +kernel)), by decide +kernel⟩
theorem gw_923 : Cond.arrayClass .long ∈ gx_T := List.mem_filter.mpr ⟨List.mem_append_right _ (List.mem_of_getElem? (i := 923) (by decide +kernel)), by decide +kernel⟩
theorem gn_43 : Cond.fieldLinkNest "CaseLayout$Search" 77 "CaseLayout$Grid" "width" "I" "CaseLayout" ∈ gx_NW := List.mem_append_left _ (List.mem_append_left _ (List.mem_of_getElem? (i := 0) (by decide +kernel)))
theorem gn_45 : Cond.fieldLinkNest "CaseLayout$Search" 72 "CaseLayout$Grid" "height" "I" "CaseLayout" ∈ gx_NW := List.mem_append_left _ (List.mem_append_left _ (List.mem_of_getElem? (i := 1) (by decide +kernel)))
theorem gn_47 : Cond.fieldLinkNest "CaseLayout" 68 "CaseLayout$Grid" "walls" "[Z" "CaseLayout" ∈ gx_NW := List.mem_append_left _ (List.mem_append_left _ (List.mem_of_getElem? (i := 2) (by decide +kernel)))
theorem gn_48 : Cond.fieldLinkNest "CaseLayout$Floor" 29 "CaseLayout$Grid" "walls" "[Z" "CaseLayout" ∈ gx_NW := List.mem_append_left _ (List.mem_append_left _ (List.mem_of_getElem? (i := 3) (by decide +kernel)))
theorem gn_50 : Cond.fieldLinkNest "CaseLayout" 88 "CaseLayout$Grid" "classes" "[I" "CaseLayout" ∈ gx_NW := List.mem_append_left _ (List.mem_append_left _ (List.mem_of_getElem? (i := 4) (by decide +kernel)))
theorem gn_52 : Cond.fieldLinkNest "CaseLayout" 207 "CaseLayout$Grid" "wallCount" "I" "CaseLayout" ∈ gx_NW := List.mem_append_left _ (List.mem_append_left _ (List.mem_of_getElem? (i := 5) (by decide +kernel)))
theorem gn_68 : Cond.methodLinkNest "CaseLayout" 24 ⟨"CaseLayout$Things", "<init>", "()V"⟩ "CaseLayout" ∈ gx_NW := List.mem_append_left _ (List.mem_append_right _ (List.mem_of_getElem? (i := 0) (by decide +kernel)))
theorem gn_73 : Cond.fieldLinkNest "CaseLayout$Layout" 22 "CaseLayout$Things" "widths" "[I" "CaseLayout" ∈ gx_NW := List.mem_append_left _ (List.mem_append_left _ (List.mem_of_getElem? (i := 6) (by decide +kernel)))
theorem gn_74 : Cond.fieldLinkNest "CaseLayout$Floor" 59 "CaseLayout$Things" "widths" "[I" "CaseLayout" ∈ gx_NW := List.mem_append_left _ (List.mem_append_left _ (List.mem_of_getElem? (i := 7) (by decide +kernel)))
theorem gn_75 : Cond.fieldLinkNest "CaseLayout$Search" 80 "CaseLayout$Things" "widths" "[I" "CaseLayout" ∈ gx_NW := List.mem_append_left _ (List.mem_append_left _ (List.mem_of_getElem? (i := 8) (by decide +kernel)))
theorem gn_77 : Cond.fieldLinkNest "CaseLayout$Layout" 31 "CaseLayout$Things" "heights" "[I" "CaseLayout" ∈ gx_NW := List.mem_append_left _ (List.mem_append_left _ (List.mem_of_getElem? (i := 9) (by decide +kernel)))
theorem gn_78 : Cond.fieldLinkNest "CaseLayout$Floor" 56 "CaseLayout$Things" "heights" "[I" "CaseLayout" ∈ gx_NW := List.mem_append_left _ (List.mem_append_left _ (List.mem_of_getElem? (i := 10) (by decide +kernel)))
theorem gn_79 : Cond.fieldLinkNest "CaseLayout$Search" 83 "CaseLayout$Things" "heights" "[I" "CaseLayout" ∈ gx_NW := List.mem_append_left _ (List.mem_append_left _ (List.mem_of_getElem? (i := 11) (by decide +kernel)))
theorem gn_81 : Cond.fieldLinkNest "CaseLayout$Search" 86 "CaseLayout$Things" "classes" "[I" "CaseLayout" ∈ gx_NW := List.mem_append_left _ (List.mem_append_left _ (List.mem_of_getElem? (i := 12) (by decide +kernel)))
theorem gn_83 : Cond.fieldLinkNest "CaseLayout" 109 "CaseLayout$Things" "gaps" "[I" "CaseLayout" ∈ gx_NW := List.mem_append_left _ (List.mem_append_left _ (List.mem_of_getElem? (i := 13) (by decide +kernel)))
theorem gn_84 : Cond.fieldLinkNest "CaseLayout$Search" 121 "CaseLayout$Things" "gaps" "[I" "CaseLayout" ∈ gx_NW := List.mem_append_left _ (List.mem_append_left _ (List.mem_of_getElem? (i := 14) (by decide +kernel)))
theorem gn_86 : Cond.fieldLinkNest "CaseLayout" 116 "CaseLayout$Things" "wishes" "[I" "CaseLayout" ∈ gx_NW := List.mem_append_left _ (List.mem_append_left _ (List.mem_of_getElem? (i := 15) (by decide +kernel)))
theorem gn_87 : Cond.fieldLinkNest "CaseLayout$Search" 127 "CaseLayout$Things" "wishes" "[I" "CaseLayout" ∈ gx_NW := List.mem_append_left _ (List.mem_append_left _ (List.mem_of_getElem? (i := 16) (by decide +kernel)))
theorem gn_89 : Cond.fieldLinkNest "CaseLayout$Floor" 41 "CaseLayout$Things" "size" "I" "CaseLayout" ∈ gx_NW := List.mem_append_left _ (List.mem_append_left _ (List.mem_of_getElem? (i := 17) (by decide +kernel)))
theorem gn_90 : Cond.fieldLinkNest "CaseLayout" 92 "CaseLayout$Things" "size" "I" "CaseLayout" ∈ gx_NW := List.mem_append_left _ (List.mem_append_left _ (List.mem_of_getElem? (i := 18) (by decide +kernel)))
theorem gn_91 : Cond.fieldLinkNest "CaseLayout$Search" 63 "CaseLayout$Things" "size" "I" "CaseLayout" ∈ gx_NW := List.mem_append_left _ (List.mem_append_left _ (List.mem_of_getElem? (i := 19) (by decide +kernel)))
theorem gn_107 : Cond.methodLinkNest "CaseLayout" 31 ⟨"CaseLayout$Places", "<init>", "()V"⟩ "CaseLayout" ∈ gx_NW := List.mem_append_left _ (List.mem_append_right _ (List.mem_of_getElem? (i := 1) (by decide +kernel)))
theorem gn_112 : Cond.fieldLinkNest "CaseLayout$Search" 156 "CaseLayout$Places" "xs" "[I" "CaseLayout" ∈ gx_NW := List.mem_append_left _ (List.mem_append_left _ (List.mem_of_getElem? (i := 20) (by decide +kernel)))
theorem gn_113 : Cond.fieldLinkNest "CaseLayout" 194 "CaseLayout$Places" "xs" "[I" "CaseLayout" ∈ gx_NW := List.mem_append_left _ (List.mem_append_left _ (List.mem_of_getElem? (i := 21) (by decide +kernel)))
theorem gn_115 : Cond.fieldLinkNest "CaseLayout$Search" 157 "CaseLayout$Places" "ys" "[I" "CaseLayout" ∈ gx_NW := List.mem_append_left _ (List.mem_append_left _ (List.mem_of_getElem? (i := 22) (by decide +kernel)))
theorem gn_116 : Cond.fieldLinkNest "CaseLayout" 195 "CaseLayout$Places" "ys" "[I" "CaseLayout" ∈ gx_NW := List.mem_append_left _ (List.mem_append_left _ (List.mem_of_getElem? (i := 23) (by decide +kernel)))
theorem gn_118 : Cond.fieldLinkNest "CaseLayout" 139 "CaseLayout$Places" "musts" "[Z" "CaseLayout" ∈ gx_NW := List.mem_append_left _ (List.mem_append_left _ (List.mem_of_getElem? (i := 24) (by decide +kernel)))
theorem gn_119 : Cond.fieldLinkNest "CaseLayout$Search" 149 "CaseLayout$Places" "musts" "[Z" "CaseLayout" ∈ gx_NW := List.mem_append_left _ (List.mem_append_left _ (List.mem_of_getElem? (i := 25) (by decide +kernel)))
theorem gn_121 : Cond.fieldLinkNest "CaseLayout" 119 "CaseLayout$Places" "size" "I" "CaseLayout" ∈ gx_NW := List.mem_append_left _ (List.mem_append_left _ (List.mem_of_getElem? (i := 26) (by decide +kernel)))
theorem gn_122 : Cond.fieldLinkNest "CaseLayout$Search" 146 "CaseLayout$Places" "size" "I" "CaseLayout" ∈ gx_NW := List.mem_append_left _ (List.mem_append_left _ (List.mem_of_getElem? (i := 27) (by decide +kernel)))
theorem gn_134 : Cond.methodLinkNest "CaseLayout" 38 ⟨"CaseLayout$Exits", "<init>", "()V"⟩ "CaseLayout" ∈ gx_NW := List.mem_append_left _ (List.mem_append_right _ (List.mem_of_getElem? (i := 2) (by decide +kernel)))
theorem gn_139 : Cond.fieldLinkNest "CaseLayout$Floor" 99 "CaseLayout$Exits" "cells" "[I" "CaseLayout" ∈ gx_NW := List.mem_append_left _ (List.mem_append_left _ (List.mem_of_getElem? (i := 28) (by decide +kernel)))
theorem gn_141 : Cond.fieldLinkNest "CaseLayout$Floor" 96 "CaseLayout$Exits" "size" "I" "CaseLayout" ∈ gx_NW := List.mem_append_left _ (List.mem_append_left _ (List.mem_of_getElem? (i := 29) (by decide +kernel)))
theorem gn_142 : Cond.fieldLinkNest "CaseLayout" 142 "CaseLayout$Exits" "size" "I" "CaseLayout" ∈ gx_NW := List.mem_append_left _ (List.mem_append_left _ (List.mem_of_getElem? (i := 30) (by decide +kernel)))
theorem gn_143 : Cond.fieldLinkNest "CaseLayout$Search" 162 "CaseLayout$Exits" "size" "I" "CaseLayout" ∈ gx_NW := List.mem_append_left _ (List.mem_append_left _ (List.mem_of_getElem? (i := 31) (by decide +kernel)))
theorem gn_145 : Cond.fieldLinkNest "CaseLayout" 150 "CaseLayout$Exits" "furthest" "I" "CaseLayout" ∈ gx_NW := List.mem_append_left _ (List.mem_append_left _ (List.mem_of_getElem? (i := 32) (by decide +kernel)))
theorem gn_146 : Cond.fieldLinkNest "CaseLayout$Search" 169 "CaseLayout$Exits" "furthest" "I" "CaseLayout" ∈ gx_NW := List.mem_append_left _ (List.mem_append_left _ (List.mem_of_getElem? (i := 33) (by decide +kernel)))
theorem gn_163 : Cond.fieldLinkNest "CaseLayout" 204 "CaseLayout$Floor" "steps" "[I" "CaseLayout" ∈ gx_NW := List.mem_append_left _ (List.mem_append_left _ (List.mem_of_getElem? (i := 34) (by decide +kernel)))
theorem gn_190 : Cond.fieldLinkNest "CaseLayout$Floor" 35 "CaseLayout$Layout" "things" "LCaseLayout$Things;" "CaseLayout" ∈ gx_NW := List.mem_append_left _ (List.mem_append_left _ (List.mem_of_getElem? (i := 35) (by decide +kernel)))
theorem gn_192 : Cond.fieldLinkNest "CaseLayout$Floor" 50 "CaseLayout$Layout" "xs" "[I" "CaseLayout" ∈ gx_NW := List.mem_append_left _ (List.mem_append_left _ (List.mem_of_getElem? (i := 36) (by decide +kernel)))
theorem gn_193 : Cond.fieldLinkNest "CaseLayout$Search" 100 "CaseLayout$Layout" "xs" "[I" "CaseLayout" ∈ gx_NW := List.mem_append_left _ (List.mem_append_left _ (List.mem_of_getElem? (i := 37) (by decide +kernel)))
theorem gn_194 : Cond.fieldLinkNest "CaseLayout" 179 "CaseLayout$Layout" "xs" "[I" "CaseLayout" ∈ gx_NW := List.mem_append_left _ (List.mem_append_left _ (List.mem_of_getElem? (i := 38) (by decide +kernel)))
theorem gn_196 : Cond.fieldLinkNest "CaseLayout$Floor" 53 "CaseLayout$Layout" "ys" "[I" "CaseLayout" ∈ gx_NW := List.mem_append_left _ (List.mem_append_left _ (List.mem_of_getElem? (i := 39) (by decide +kernel)))
theorem gn_197 : Cond.fieldLinkNest "CaseLayout$Search" 103 "CaseLayout$Layout" "ys" "[I" "CaseLayout" ∈ gx_NW := List.mem_append_left _ (List.mem_append_left _ (List.mem_of_getElem? (i := 40) (by decide +kernel)))
theorem gn_198 : Cond.fieldLinkNest "CaseLayout" 184 "CaseLayout$Layout" "ys" "[I" "CaseLayout" ∈ gx_NW := List.mem_append_left _ (List.mem_append_left _ (List.mem_of_getElem? (i := 41) (by decide +kernel)))
theorem gn_213 : Cond.fieldLinkNest "CaseLayout" 175 "CaseLayout$Search" "best" "LCaseLayout$Layout;" "CaseLayout" ∈ gx_NW := List.mem_append_left _ (List.mem_append_left _ (List.mem_of_getElem? (i := 42) (by decide +kernel)))
theorem gn_218 : Cond.fieldLinkNest "CaseLayout" 164 "CaseLayout$Search" "nodeCount" "I" "CaseLayout" ∈ gx_NW := List.mem_append_left _ (List.mem_append_left _ (List.mem_of_getElem? (i := 43) (by decide +kernel)))
theorem gn_220 : Cond.fieldLinkNest "CaseLayout" 187 "CaseLayout$Search" "bestWorth" "I" "CaseLayout" ∈ gx_NW := List.mem_append_left _ (List.mem_append_left _ (List.mem_of_getElem? (i := 44) (by decide +kernel)))
theorem gn_294 : Cond.castable "java/lang/IndexOutOfBoundsException" "java/lang/IndexOutOfBoundsException" ∈ gx_NW := List.mem_append_right _ (List.mem_append_left _ (List.mem_of_getElem? (i := 0) (by decide +kernel)))
theorem gn_367 : Cond.methodLinkNest "CaseLayout$Places" 26 ⟨"CaseLayout", "cellOf", "(II)I"⟩ "CaseLayout" ∈ gx_NW := List.mem_append_left _ (List.mem_append_right _ (List.mem_of_getElem? (i := 3) (by decide +kernel)))
theorem gn_393 : Cond.castable "java/lang/IllegalArgumentException" "java/lang/IllegalArgumentException" ∈ gx_NW := List.mem_append_right _ (List.mem_append_left _ (List.mem_of_getElem? (i := 1) (by decide +kernel)))
theorem gn_417 : Cond.castable "java/lang/IllegalStateException" "java/lang/IllegalStateException" ∈ gx_NW := List.mem_append_right _ (List.mem_append_left _ (List.mem_of_getElem? (i := 2) (by decide +kernel)))
theorem gn_534 : Cond.methodLinkNest "CaseLayout$Grid" 33 ⟨"CaseLayout", "cellOf", "(II)I"⟩ "CaseLayout" ∈ gx_NW := List.mem_append_left _ (List.mem_append_right _ (List.mem_of_getElem? (i := 4) (by decide +kernel)))
theorem gn_535 : Cond.methodLinkNest "CaseLayout$Search" 93 ⟨"CaseLayout", "cellOf", "(II)I"⟩ "CaseLayout" ∈ gx_NW := List.mem_append_left _ (List.mem_append_right _ (List.mem_of_getElem? (i := 5) (by decide +kernel)))
theorem gn_553 : Cond.methodLinkNest "CaseLayout$Floor" 66 ⟨"CaseLayout", "cellOf", "(II)I"⟩ "CaseLayout" ∈ gx_NW := List.mem_append_left _ (List.mem_append_right _ (List.mem_of_getElem? (i := 6) (by decide +kernel)))
theorem gn_558 : Cond.methodLinkNest "CaseLayout$Search" 153 ⟨"CaseLayout", "sightOf", "(II)I"⟩ "CaseLayout" ∈ gx_NW := List.mem_append_left _ (List.mem_append_right _ (List.mem_of_getElem? (i := 7) (by decide +kernel)))
theorem gn_617 : Cond.methodLinkNest "CaseLayout$Search" 124 ⟨"CaseLayout", "pairOf", "(II)I"⟩ "CaseLayout" ∈ gx_NW := List.mem_append_left _ (List.mem_append_right _ (List.mem_of_getElem? (i := 8) (by decide +kernel)))
theorem iw_CaseLayout : ∀ w ∈ u_ws "CaseLayout" T_CaseLayout 6, w ∈ gx_T := by
  intro w hw
  obtain ⟨k, hk, rfl⟩ := List.mem_map.mp hw
  have hk := List.mem_range.mp hk
  match k, hk with
  | 0, _ => exact gw_252
  | 1, _ => exact gw_254
  | 2, _ => exact gw_256
  | 3, _ => exact gw_258
  | 4, _ => exact gw_260
  | 5, _ => exact gw_262
  | k + 6, hk => exact absurd hk (by omega)
theorem iw_Grid : ∀ w ∈ u_ws "CaseLayout$Grid" T_Grid 5, w ∈ gx_T := by
  intro w hw
  obtain ⟨k, hk, rfl⟩ := List.mem_map.mp hw
  have hk := List.mem_range.mp hk
  match k, hk with
  | 0, _ => exact gw_53
  | 1, _ => exact gw_55
  | 2, _ => exact gw_57
  | 3, _ => exact gw_59
  | 4, _ => exact gw_61
  | k + 5, hk => exact absurd hk (by omega)
theorem iw_Things : ∀ w ∈ u_ws "CaseLayout$Things" T_Things 6, w ∈ gx_T := by
  intro w hw
  obtain ⟨k, hk, rfl⟩ := List.mem_map.mp hw
  have hk := List.mem_range.mp hk
  match k, hk with
  | 0, _ => exact gw_92
  | 1, _ => exact gw_94
  | 2, _ => exact gw_96
  | 3, _ => exact gw_98
  | 4, _ => exact gw_100
  | 5, _ => exact gw_102
  | k + 6, hk => exact absurd hk (by omega)
theorem iw_Places : ∀ w ∈ u_ws "CaseLayout$Places" T_Places 4, w ∈ gx_T := by
  intro w hw
  obtain ⟨k, hk, rfl⟩ := List.mem_map.mp hw
  have hk := List.mem_range.mp hk
  match k, hk with
  | 0, _ => exact gw_123
  | 1, _ => exact gw_125
  | 2, _ => exact gw_127
  | 3, _ => exact gw_129
  | k + 4, hk => exact absurd hk (by omega)
theorem iw_Exits : ∀ w ∈ u_ws "CaseLayout$Exits" T_Exits 3, w ∈ gx_T := by
  intro w hw
  obtain ⟨k, hk, rfl⟩ := List.mem_map.mp hw
  have hk := List.mem_range.mp hk
  match k, hk with
  | 0, _ => exact gw_147
  | 1, _ => exact gw_149
  | 2, _ => exact gw_151
  | k + 3, hk => exact absurd hk (by omega)
theorem iw_Floor : ∀ w ∈ u_ws "CaseLayout$Floor" T_Floor 5, w ∈ gx_T := by
  intro w hw
  obtain ⟨k, hk, rfl⟩ := List.mem_map.mp hw
  have hk := List.mem_range.mp hk
  match k, hk with
  | 0, _ => exact gw_166
  | 1, _ => exact gw_168
  | 2, _ => exact gw_170
  | 3, _ => exact gw_172
  | 4, _ => exact gw_174
  | k + 5, hk => exact absurd hk (by omega)
theorem iw_Search : ∀ w ∈ u_ws "CaseLayout$Search" T_Search 12, w ∈ gx_T := by
  intro w hw
  obtain ⟨k, hk, rfl⟩ := List.mem_map.mp hw
  have hk := List.mem_range.mp hk
  match k, hk with
  | 0, _ => exact gw_221
  | 1, _ => exact gw_223
  | 2, _ => exact gw_225
  | 3, _ => exact gw_227
  | 4, _ => exact gw_229
  | 5, _ => exact gw_231
  | 6, _ => exact gw_233
  | 7, _ => exact gw_235
  | 8, _ => exact gw_237
  | 9, _ => exact gw_239
  | 10, _ => exact gw_241
  | 11, _ => exact gw_243
  | k + 12, hk => exact absurd hk (by omega)
theorem iw_Layout : ∀ w ∈ u_ws "CaseLayout$Layout" T_Layout 3, w ∈ gx_T := by
  intro w hw
  obtain ⟨k, hk, rfl⟩ := List.mem_map.mp hw
  have hk := List.mem_range.mp hk
  match k, hk with
  | 0, _ => exact gw_199
  | 1, _ => exact gw_201
  | 2, _ => exact gw_203
  | k + 3, hk => exact absurd hk (by omega)
theorem iw_Mod : ∀ w ∈ u_ws "CaseLayoutModel" T_Mod 28, w ∈ gx_T := by
  intro w hw
  obtain ⟨k, hk, rfl⟩ := List.mem_map.mp hw
  have hk := List.mem_range.mp hk
  match k, hk with
  | 0, _ => exact gw_702
  | 1, _ => exact gw_704
  | 2, _ => exact gw_706
  | 3, _ => exact gw_708
  | 4, _ => exact gw_710
  | 5, _ => exact gw_712
  | 6, _ => exact gw_714
  | 7, _ => exact gw_716
  | 8, _ => exact gw_718
  | 9, _ => exact gw_720
  | 10, _ => exact gw_722
  | 11, _ => exact gw_724
  | 12, _ => exact gw_726
  | 13, _ => exact gw_728
  | 14, _ => exact gw_730
  | 15, _ => exact gw_732
  | 16, _ => exact gw_734
  | 17, _ => exact gw_736
  | 18, _ => exact gw_738
  | 19, _ => exact gw_740
  | 20, _ => exact gw_742
  | 21, _ => exact gw_744
  | 22, _ => exact gw_746
  | 23, _ => exact gw_748
  | 24, _ => exact gw_750
  | 25, _ => exact gw_752
  | 26, _ => exact gw_754
  | 27, _ => exact gw_756
  | k + 28, hk => exact absurd hk (by omega)
theorem ga_CaseLayout_100 {K : gx_K} {E : gx_E} {cc : ByteArray} {nL : Nat} (C : gx_C K E "CaseLayout" cc nL) : ∀ a ∈ Bundle.ownAtoms "CaseLayout" 100 (gx_exn 2) ["java/lang/RuntimeException", "java/lang/Exception"], a.before K.args K.s = true := gx_atoms C (by decide +kernel)
theorem ga_CaseLayout_126 {K : gx_K} {E : gx_E} {cc : ByteArray} {nL : Nat} (C : gx_C K E "CaseLayout" cc nL) : ∀ a ∈ Bundle.ownAtoms "CaseLayout" 126 (gx_exn 3) ["java/lang/RuntimeException", "java/lang/Exception"], a.before K.args K.s = true := gx_atoms C (by decide +kernel)
theorem ga_CaseLayout_171 {K : gx_K} {E : gx_E} {cc : ByteArray} {nL : Nat} (C : gx_C K E "CaseLayout" cc nL) : ∀ a ∈ Bundle.ownAtoms "CaseLayout" 171 (gx_exn 1) ["java/lang/RuntimeException", "java/lang/Exception"], a.before K.args K.s = true := gx_atoms C (by decide +kernel)
