theorem mh_La_118 : ma_wh R_La 118 y_La_near c_La_near 5 (some .int) [(0, 10, 13, 13)] 4 := ⟨List.mem_of_getElem? (i := 641) (by decide +kernel), List.mem_of_getElem? (i := 33) (by decide +kernel), List.mem_of_getElem? (i := 643) (by decide +kernel), ⟨by decide +kernel, by decide +kernel⟩, by decide +kernel⟩
theorem ml_La_118 : Cond.methodLink R_La 118 y_La_near ∈ lw_tbl := List.mem_of_getElem? (i := 641) (by decide +kernel)
theorem mst_La_near : Cond.static y_La_near ∈ lw_tbl := List.mem_of_getElem? (i := 642) (by decide +kernel)
theorem mw_La_55 : ma_w R_La 55 y_AW_near c_AW_near 7 (some .int) 2 := ⟨Or.inl (List.mem_of_getElem? (i := 644) (by decide +kernel)), List.mem_of_getElem? (i := 34) (by decide +kernel), List.mem_of_getElem? (i := 647) (by decide +kernel), ⟨by decide +kernel, by decide +kernel⟩, by decide +kernel⟩
theorem ml_La_55 : Cond.methodLink R_La 55 y_AW_near ∈ lw_tbl := List.mem_of_getElem? (i := 644) (by decide +kernel)
theorem mi_AW_near : Cond.instanceMethod y_AW_near ∈ lw_tbl := List.mem_of_getElem? (i := 645) (by decide +kernel)
theorem mw_AW_202 : ma_w R_AW 202 y_AW_squareOfWay c_AW_squareOfWay 6 (some .int) 4 := ⟨Or.inl (List.mem_of_getElem? (i := 648) (by decide +kernel)), List.mem_of_getElem? (i := 34) (by decide +kernel), List.mem_of_getElem? (i := 535) (by decide +kernel), ⟨by decide +kernel, by decide +kernel⟩, by decide +kernel⟩
theorem ml_AW_202 : Cond.methodLink R_AW 202 y_AW_squareOfWay ∈ lw_tbl := List.mem_of_getElem? (i := 648) (by decide +kernel)
theorem mh_La_121 : ma_wh R_La 121 y_La_word c_La_word 6 (some .int) [(0, 11, 14, 13), (0, 11, 18, 15)] 4 := ⟨List.mem_of_getElem? (i := 649) (by decide +kernel), List.mem_of_getElem? (i := 33) (by decide +kernel), List.mem_of_getElem? (i := 651) (by decide +kernel), ⟨by decide +kernel, by decide +kernel⟩, by decide +kernel⟩
theorem ml_La_121 : Cond.methodLink R_La 121 y_La_word ∈ lw_tbl := List.mem_of_getElem? (i := 649) (by decide +kernel)
theorem mst_La_word : Cond.static y_La_word ∈ lw_tbl := List.mem_of_getElem? (i := 650) (by decide +kernel)
theorem mw_La_58 : ma_w R_La 58 y_AW_word c_AW_word 4 (some .int) 2 := ⟨Or.inl (List.mem_of_getElem? (i := 652) (by decide +kernel)), List.mem_of_getElem? (i := 34) (by decide +kernel), List.mem_of_getElem? (i := 655) (by decide +kernel), ⟨by decide +kernel, by decide +kernel⟩, by decide +kernel⟩
theorem ml_La_58 : Cond.methodLink R_La 58 y_AW_word ∈ lw_tbl := List.mem_of_getElem? (i := 652) (by decide +kernel)
theorem mi_AW_word : Cond.instanceMethod y_AW_word ∈ lw_tbl := List.mem_of_getElem? (i := 653) (by decide +kernel)
theorem sr_AW_206 : Cond.stringRef R_AW 206 "not 0 to 8 signs" ∈ lw_tbl := List.mem_of_getElem? (i := 656) (by decide +kernel)
theorem mw_AW_208 : ma_w R_AW 208 y_AW_requireSigns c_AW_requireSigns 5 none 2 := ⟨Or.inl (List.mem_of_getElem? (i := 657) (by decide +kernel)), List.mem_of_getElem? (i := 34) (by decide +kernel), List.mem_of_getElem? (i := 659) (by decide +kernel), ⟨by decide +kernel, by decide +kernel⟩, by decide +kernel⟩
theorem ml_AW_208 : Cond.methodLink R_AW 208 y_AW_requireSigns ∈ lw_tbl := List.mem_of_getElem? (i := 657) (by decide +kernel)
theorem mst_AW_requireSigns : Cond.static y_AW_requireSigns ∈ lw_tbl := List.mem_of_getElem? (i := 658) (by decide +kernel)
theorem mw_AW_369 : ma_w R_AW 369 y_AW_isDigit c_AW_isDigit 1 (some .boolean) 1 := ⟨Or.inl (List.mem_of_getElem? (i := 660) (by decide +kernel)), List.mem_of_getElem? (i := 34) (by decide +kernel), List.mem_of_getElem? (i := 662) (by decide +kernel), ⟨by decide +kernel, by decide +kernel⟩, by decide +kernel⟩
theorem ml_AW_369 : Cond.methodLink R_AW 369 y_AW_isDigit ∈ lw_tbl := List.mem_of_getElem? (i := 660) (by decide +kernel)
theorem mst_AW_isDigit : Cond.static y_AW_isDigit ∈ lw_tbl := List.mem_of_getElem? (i := 661) (by decide +kernel)
theorem sr_AW_372 : Cond.stringRef R_AW 372 "no letter, blank or digit" ∈ lw_tbl := List.mem_of_getElem? (i := 663) (by decide +kernel)
theorem mw_AW_211 : ma_w R_AW 211 y_Sa_hasRoomFor c_Sa_hasRoomFor 2 (some .boolean) 1 := ⟨Or.inl (List.mem_of_getElem? (i := 664) (by decide +kernel)), List.mem_of_getElem? (i := 35) (by decide +kernel), List.mem_of_getElem? (i := 667) (by decide +kernel), ⟨by decide +kernel, by decide +kernel⟩, by decide +kernel⟩
theorem ml_AW_211 : Cond.methodLink R_AW 211 y_Sa_hasRoomFor ∈ lw_tbl := List.mem_of_getElem? (i := 664) (by decide +kernel)
theorem mi_Sa_hasRoomFor : Cond.instanceMethod y_Sa_hasRoomFor ∈ lw_tbl := List.mem_of_getElem? (i := 665) (by decide +kernel)
theorem sr_AW_212 : Cond.stringRef R_AW 212 "no room for the signs" ∈ lw_tbl := List.mem_of_getElem? (i := 668) (by decide +kernel)
theorem mw_AW_214 : ma_w R_AW 214 y_Sa_clear c_Sa_clear 1 none 0 := ⟨Or.inl (List.mem_of_getElem? (i := 669) (by decide +kernel)), List.mem_of_getElem? (i := 35) (by decide +kernel), List.mem_of_getElem? (i := 672) (by decide +kernel), ⟨by decide +kernel, by decide +kernel⟩, by decide +kernel⟩
theorem ml_AW_214 : Cond.methodLink R_AW 214 y_Sa_clear ∈ lw_tbl := List.mem_of_getElem? (i := 669) (by decide +kernel)
theorem mi_Sa_clear : Cond.instanceMethod y_Sa_clear ∈ lw_tbl := List.mem_of_getElem? (i := 670) (by decide +kernel)
theorem mw_AW_217 : ma_w R_AW 217 y_Sa_append c_Sa_append 5 none 2 := ⟨Or.inl (List.mem_of_getElem? (i := 673) (by decide +kernel)), List.mem_of_getElem? (i := 35) (by decide +kernel), List.mem_of_getElem? (i := 676) (by decide +kernel), ⟨by decide +kernel, by decide +kernel⟩, by decide +kernel⟩
theorem ml_AW_217 : Cond.methodLink R_AW 217 y_Sa_append ∈ lw_tbl := List.mem_of_getElem? (i := 673) (by decide +kernel)
theorem mi_Sa_append : Cond.instanceMethod y_Sa_append ∈ lw_tbl := List.mem_of_getElem? (i := 674) (by decide +kernel)
theorem mw_Sa_26 : ma_w R_Sa 26 y_AW_signAt c_AW_signAt 4 (some .char) 3 := ⟨Or.inr ⟨"AddressWords", List.mem_of_getElem? (i := 677) (by decide +kernel)⟩, List.mem_of_getElem? (i := 34) (by decide +kernel), List.mem_of_getElem? (i := 432) (by decide +kernel), ⟨by decide +kernel, by decide +kernel⟩, by decide +kernel⟩
theorem mh_La_125 : ma_wh R_La 125 y_La_find c_La_find 4 (some .int) [(0, 9, 12, 13), (0, 9, 15, 26)] 3 := ⟨List.mem_of_getElem? (i := 678) (by decide +kernel), List.mem_of_getElem? (i := 33) (by decide +kernel), List.mem_of_getElem? (i := 680) (by decide +kernel), ⟨by decide +kernel, by decide +kernel⟩, by decide +kernel⟩
theorem ml_La_125 : Cond.methodLink R_La 125 y_La_find ∈ lw_tbl := List.mem_of_getElem? (i := 678) (by decide +kernel)
theorem mst_La_find : Cond.static y_La_find ∈ lw_tbl := List.mem_of_getElem? (i := 679) (by decide +kernel)
theorem mw_La_62 : ma_w R_La 62 y_AW_find c_AW_find 3 (some .int) 1 := ⟨Or.inl (List.mem_of_getElem? (i := 681) (by decide +kernel)), List.mem_of_getElem? (i := 34) (by decide +kernel), List.mem_of_getElem? (i := 684) (by decide +kernel), ⟨by decide +kernel, by decide +kernel⟩, by decide +kernel⟩
theorem ml_La_62 : Cond.methodLink R_La 62 y_AW_find ∈ lw_tbl := List.mem_of_getElem? (i := 681) (by decide +kernel)
theorem mi_AW_find : Cond.instanceMethod y_AW_find ∈ lw_tbl := List.mem_of_getElem? (i := 682) (by decide +kernel)
theorem sr_AW_219 : Cond.stringRef R_AW 219 "not 1 to 10 places" ∈ lw_tbl := List.mem_of_getElem? (i := 685) (by decide +kernel)
theorem sr_AW_221 : Cond.stringRef R_AW 221 "nothing is said" ∈ lw_tbl := List.mem_of_getElem? (i := 686) (by decide +kernel)
theorem mw_AW_223 : ma_w R_AW 223 y_Sa_lookThrough c_Sa_lookThrough 2 none 0 := ⟨Or.inl (List.mem_of_getElem? (i := 687) (by decide +kernel)), List.mem_of_getElem? (i := 35) (by decide +kernel), List.mem_of_getElem? (i := 690) (by decide +kernel), ⟨by decide +kernel, by decide +kernel⟩, by decide +kernel⟩
theorem ml_AW_223 : Cond.methodLink R_AW 223 y_Sa_lookThrough ∈ lw_tbl := List.mem_of_getElem? (i := 687) (by decide +kernel)
theorem mi_Sa_lookThrough : Cond.instanceMethod y_Sa_lookThrough ∈ lw_tbl := List.mem_of_getElem? (i := 688) (by decide +kernel)
theorem mw_Sa_42 : ma_w R_Sa 42 y_AW_isLetter c_AW_isLetter 1 (some .boolean) 1 := ⟨Or.inr ⟨"AddressWords", List.mem_of_getElem? (i := 691) (by decide +kernel)⟩, List.mem_of_getElem? (i := 34) (by decide +kernel), List.mem_of_getElem? (i := 436) (by decide +kernel), ⟨by decide +kernel, by decide +kernel⟩, by decide +kernel⟩
theorem mw_Sa_46 : ma_w R_Sa 46 y_Sa_takeLetter c_Sa_takeLetter 3 none 1 := ⟨Or.inl (List.mem_of_getElem? (i := 692) (by decide +kernel)), List.mem_of_getElem? (i := 35) (by decide +kernel), List.mem_of_getElem? (i := 695) (by decide +kernel), ⟨by decide +kernel, by decide +kernel⟩, by decide +kernel⟩
theorem ml_Sa_46 : Cond.methodLink R_Sa 46 y_Sa_takeLetter ∈ lw_tbl := List.mem_of_getElem? (i := 692) (by decide +kernel)
theorem mi_Sa_takeLetter : Cond.instanceMethod y_Sa_takeLetter ∈ lw_tbl := List.mem_of_getElem? (i := 694) (by decide +kernel)
theorem mw_Sa_50 : ma_w R_Sa 50 y_AW_isDigit c_AW_isDigit 1 (some .boolean) 1 := ⟨Or.inr ⟨"AddressWords", List.mem_of_getElem? (i := 696) (by decide +kernel)⟩, List.mem_of_getElem? (i := 34) (by decide +kernel), List.mem_of_getElem? (i := 662) (by decide +kernel), ⟨by decide +kernel, by decide +kernel⟩, by decide +kernel⟩
theorem mw_Sa_53 : ma_w R_Sa 53 y_Sa_takeDigit c_Sa_takeDigit 2 none 1 := ⟨Or.inl (List.mem_of_getElem? (i := 697) (by decide +kernel)), List.mem_of_getElem? (i := 35) (by decide +kernel), List.mem_of_getElem? (i := 700) (by decide +kernel), ⟨by decide +kernel, by decide +kernel⟩, by decide +kernel⟩
theorem ml_Sa_53 : Cond.methodLink R_Sa 53 y_Sa_takeDigit ∈ lw_tbl := List.mem_of_getElem? (i := 697) (by decide +kernel)
theorem mi_Sa_takeDigit : Cond.instanceMethod y_Sa_takeDigit ∈ lw_tbl := List.mem_of_getElem? (i := 699) (by decide +kernel)
theorem mw_AW_226 : ma_w R_AW 226 y_AW_rank c_AW_rank 3 none 1 := ⟨Or.inl (List.mem_of_getElem? (i := 701) (by decide +kernel)), List.mem_of_getElem? (i := 34) (by decide +kernel), List.mem_of_getElem? (i := 704) (by decide +kernel), ⟨by decide +kernel, by decide +kernel⟩, by decide +kernel⟩
theorem ml_AW_226 : Cond.methodLink R_AW 226 y_AW_rank ∈ lw_tbl := List.mem_of_getElem? (i := 701) (by decide +kernel)
theorem mi_AW_rank : Cond.instanceMethod y_AW_rank ∈ lw_tbl := List.mem_of_getElem? (i := 703) (by decide +kernel)
theorem mw_AW_294 : ma_w R_AW 294 y_Ra_begin c_Ra_begin 2 none 1 := ⟨Or.inl (List.mem_of_getElem? (i := 705) (by decide +kernel)), List.mem_of_getElem? (i := 37) (by decide +kernel), List.mem_of_getElem? (i := 708) (by decide +kernel), ⟨by decide +kernel, by decide +kernel⟩, by decide +kernel⟩
theorem ml_AW_294 : Cond.methodLink R_AW 294 y_Ra_begin ∈ lw_tbl := List.mem_of_getElem? (i := 705) (by decide +kernel)
theorem mi_Ra_begin : Cond.instanceMethod y_Ra_begin ∈ lw_tbl := List.mem_of_getElem? (i := 706) (by decide +kernel)
theorem mw_AW_297 : ma_w R_AW 297 y_AW_distanceOfStreet c_AW_distanceOfStreet 4 (some .int) 1 := ⟨Or.inl (List.mem_of_getElem? (i := 709) (by decide +kernel)), List.mem_of_getElem? (i := 34) (by decide +kernel), List.mem_of_getElem? (i := 712) (by decide +kernel), ⟨by decide +kernel, by decide +kernel⟩, by decide +kernel⟩
theorem ml_AW_297 : Cond.methodLink R_AW 297 y_AW_distanceOfStreet ∈ lw_tbl := List.mem_of_getElem? (i := 709) (by decide +kernel)
theorem mi_AW_distanceOfStreet : Cond.instanceMethod y_AW_distanceOfStreet ∈ lw_tbl := List.mem_of_getElem? (i := 711) (by decide +kernel)
theorem mw_AW_304 : ma_w R_AW 304 y_AW_nearerDistance c_AW_nearerDistance 5 (some .int) 2 := ⟨Or.inl (List.mem_of_getElem? (i := 713) (by decide +kernel)), List.mem_of_getElem? (i := 34) (by decide +kernel), List.mem_of_getElem? (i := 716) (by decide +kernel), ⟨by decide +kernel, by decide +kernel⟩, by decide +kernel⟩
theorem ml_AW_304 : Cond.methodLink R_AW 304 y_AW_nearerDistance ∈ lw_tbl := List.mem_of_getElem? (i := 713) (by decide +kernel)
theorem mi_AW_nearerDistance : Cond.instanceMethod y_AW_nearerDistance ∈ lw_tbl := List.mem_of_getElem? (i := 715) (by decide +kernel)
theorem ml_AW_318 : Cond.methodLink R_AW 318 ⟨"java/lang/Math", "abs", "(I)I"⟩ ∈ lw_tbl := List.mem_of_getElem? (i := 717) (by decide +kernel)
theorem mst_Math_abs : Cond.static ⟨"java/lang/Math", "abs", "(I)I"⟩ ∈ lw_tbl := List.mem_of_getElem? (i := 718) (by decide +kernel)
theorem mw_AW_331 : ma_w R_AW 331 y_Ed_count c_Ed_count 7 (some .int) 4 := ⟨Or.inl (List.mem_of_getElem? (i := 720) (by decide +kernel)), List.mem_of_getElem? (i := 36) (by decide +kernel), List.mem_of_getElem? (i := 723) (by decide +kernel), ⟨by decide +kernel, by decide +kernel⟩, by decide +kernel⟩
theorem ml_AW_331 : Cond.methodLink R_AW 331 y_Ed_count ∈ lw_tbl := List.mem_of_getElem? (i := 720) (by decide +kernel)
theorem mi_Ed_count : Cond.instanceMethod y_Ed_count ∈ lw_tbl := List.mem_of_getElem? (i := 721) (by decide +kernel)
theorem mw_Ed_27 : ma_w R_Ed 27 y_Ed_turnRows c_Ed_turnRows 2 none 0 := ⟨Or.inl (List.mem_of_getElem? (i := 724) (by decide +kernel)), List.mem_of_getElem? (i := 36) (by decide +kernel), List.mem_of_getElem? (i := 727) (by decide +kernel), ⟨by decide +kernel, by decide +kernel⟩, by decide +kernel⟩
theorem ml_Ed_27 : Cond.methodLink R_Ed 27 y_Ed_turnRows ∈ lw_tbl := List.mem_of_getElem? (i := 724) (by decide +kernel)
theorem mi_Ed_turnRows : Cond.instanceMethod y_Ed_turnRows ∈ lw_tbl := List.mem_of_getElem? (i := 726) (by decide +kernel)
theorem mw_Ed_30 : ma_w R_Ed 30 y_Ed_fillRow c_Ed_fillRow 10 none 4 := ⟨Or.inl (List.mem_of_getElem? (i := 728) (by decide +kernel)), List.mem_of_getElem? (i := 36) (by decide +kernel), List.mem_of_getElem? (i := 731) (by decide +kernel), ⟨by decide +kernel, by decide +kernel⟩, by decide +kernel⟩
theorem ml_Ed_30 : Cond.methodLink R_Ed 30 y_Ed_fillRow ∈ lw_tbl := List.mem_of_getElem? (i := 728) (by decide +kernel)
theorem mi_Ed_fillRow : Cond.instanceMethod y_Ed_fillRow ∈ lw_tbl := List.mem_of_getElem? (i := 730) (by decide +kernel)
theorem ml_Ed_38 : Cond.methodLink R_Ed 38 ⟨"java/lang/Math", "min", "(II)I"⟩ ∈ lw_tbl := List.mem_of_getElem? (i := 732) (by decide +kernel)
theorem mst_Math_min : Cond.static ⟨"java/lang/Math", "min", "(II)I"⟩ ∈ lw_tbl := List.mem_of_getElem? (i := 733) (by decide +kernel)
theorem ml_AW_335 : Cond.methodLink R_AW 335 ⟨"java/lang/Math", "min", "(II)I"⟩ ∈ lw_tbl := List.mem_of_getElem? (i := 735) (by decide +kernel)
theorem mw_AW_301 : ma_w R_AW 301 y_Ra_offer c_Ra_offer 5 none 2 := ⟨Or.inl (List.mem_of_getElem? (i := 736) (by decide +kernel)), List.mem_of_getElem? (i := 37) (by decide +kernel), List.mem_of_getElem? (i := 739) (by decide +kernel), ⟨by decide +kernel, by decide +kernel⟩, by decide +kernel⟩
theorem ml_AW_301 : Cond.methodLink R_AW 301 y_Ra_offer ∈ lw_tbl := List.mem_of_getElem? (i := 736) (by decide +kernel)
theorem mi_Ra_offer : Cond.instanceMethod y_Ra_offer ∈ lw_tbl := List.mem_of_getElem? (i := 737) (by decide +kernel)
theorem mw_AW_242 : ma_w R_AW 242 y_AW_tellCandidate c_AW_tellCandidate 5 none 3 := ⟨Or.inl (List.mem_of_getElem? (i := 740) (by decide +kernel)), List.mem_of_getElem? (i := 34) (by decide +kernel), List.mem_of_getElem? (i := 743) (by decide +kernel), ⟨by decide +kernel, by decide +kernel⟩, by decide +kernel⟩
theorem ml_AW_242 : Cond.methodLink R_AW 242 y_AW_tellCandidate ∈ lw_tbl := List.mem_of_getElem? (i := 740) (by decide +kernel)
theorem mi_AW_tellCandidate : Cond.instanceMethod y_AW_tellCandidate ∈ lw_tbl := List.mem_of_getElem? (i := 742) (by decide +kernel)
theorem mw_AW_338 : ma_w R_AW 338 y_AW_tellLandmark c_AW_tellLandmark 4 none 2 := ⟨Or.inl (List.mem_of_getElem? (i := 744) (by decide +kernel)), List.mem_of_getElem? (i := 34) (by decide +kernel), List.mem_of_getElem? (i := 747) (by decide +kernel), ⟨by decide +kernel, by decide +kernel⟩, by decide +kernel⟩
theorem ml_AW_338 : Cond.methodLink R_AW 338 y_AW_tellLandmark ∈ lw_tbl := List.mem_of_getElem? (i := 744) (by decide +kernel)
theorem mi_AW_tellLandmark : Cond.instanceMethod y_AW_tellLandmark ∈ lw_tbl := List.mem_of_getElem? (i := 746) (by decide +kernel)
theorem mw_AW_346 : ma_w R_AW 346 y_AW_tellWhere c_AW_tellWhere 5 none 3 := ⟨Or.inl (List.mem_of_getElem? (i := 748) (by decide +kernel)), List.mem_of_getElem? (i := 34) (by decide +kernel), List.mem_of_getElem? (i := 751) (by decide +kernel), ⟨by decide +kernel, by decide +kernel⟩, by decide +kernel⟩
theorem ml_AW_346 : Cond.methodLink R_AW 346 y_AW_tellWhere ∈ lw_tbl := List.mem_of_getElem? (i := 748) (by decide +kernel)
theorem mi_AW_tellWhere : Cond.instanceMethod y_AW_tellWhere ∈ lw_tbl := List.mem_of_getElem? (i := 750) (by decide +kernel)
theorem mw_AW_342 : ma_w R_AW 342 y_AW_tellStreet c_AW_tellStreet 6 none 2 := ⟨Or.inl (List.mem_of_getElem? (i := 752) (by decide +kernel)), List.mem_of_getElem? (i := 34) (by decide +kernel), List.mem_of_getElem? (i := 755) (by decide +kernel), ⟨by decide +kernel, by decide +kernel⟩, by decide +kernel⟩
theorem ml_AW_342 : Cond.methodLink R_AW 342 y_AW_tellStreet ∈ lw_tbl := List.mem_of_getElem? (i := 752) (by decide +kernel)
theorem mi_AW_tellStreet : Cond.instanceMethod y_AW_tellStreet ∈ lw_tbl := List.mem_of_getElem? (i := 754) (by decide +kernel)
theorem mw_AW_351 : ma_w R_AW 351 y_St_hasHouse c_St_hasHouse 2 (some .boolean) 1 := ⟨Or.inl (List.mem_of_getElem? (i := 756) (by decide +kernel)), List.mem_of_getElem? (i := 45) (by decide +kernel), List.mem_of_getElem? (i := 759) (by decide +kernel), ⟨by decide +kernel, by decide +kernel⟩, by decide +kernel⟩
theorem ml_AW_351 : Cond.methodLink R_AW 351 y_St_hasHouse ∈ lw_tbl := List.mem_of_getElem? (i := 756) (by decide +kernel)
theorem mi_St_hasHouse : Cond.instanceMethod y_St_hasHouse ∈ lw_tbl := List.mem_of_getElem? (i := 757) (by decide +kernel)
theorem mw_St_63 : ma_w R_St 63 y_St_nearestHouse c_St_nearestHouse 5 (some .int) 1 := ⟨Or.inl (List.mem_of_getElem? (i := 760) (by decide +kernel)), List.mem_of_getElem? (i := 45) (by decide +kernel), List.mem_of_getElem? (i := 763) (by decide +kernel), ⟨by decide +kernel, by decide +kernel⟩, by decide +kernel⟩
theorem ml_St_63 : Cond.methodLink R_St 63 y_St_nearestHouse ∈ lw_tbl := List.mem_of_getElem? (i := 760) (by decide +kernel)
theorem mi_St_nearestHouse : Cond.instanceMethod y_St_nearestHouse ∈ lw_tbl := List.mem_of_getElem? (i := 761) (by decide +kernel)
theorem mw_St_66 : ma_w R_St 66 y_HR_nearestTo c_HR_nearestTo 2 (some .int) 1 := ⟨Or.inl (List.mem_of_getElem? (i := 764) (by decide +kernel)), List.mem_of_getElem? (i := 49) (by decide +kernel), List.mem_of_getElem? (i := 767) (by decide +kernel), ⟨by decide +kernel, by decide +kernel⟩, by decide +kernel⟩
theorem ml_St_66 : Cond.methodLink R_St 66 y_HR_nearestTo ∈ lw_tbl := List.mem_of_getElem? (i := 764) (by decide +kernel)
theorem mi_HR_nearestTo : Cond.instanceMethod y_HR_nearestTo ∈ lw_tbl := List.mem_of_getElem? (i := 765) (by decide +kernel)
theorem mw_St_69 : ma_w R_St 69 y_St_isNearer c_St_isNearer 5 (some .boolean) 3 := ⟨Or.inl (List.mem_of_getElem? (i := 768) (by decide +kernel)), List.mem_of_getElem? (i := 45) (by decide +kernel), List.mem_of_getElem? (i := 770) (by decide +kernel), ⟨by decide +kernel, by decide +kernel⟩, by decide +kernel⟩
theorem ml_St_69 : Cond.methodLink R_St 69 y_St_isNearer ∈ lw_tbl := List.mem_of_getElem? (i := 768) (by decide +kernel)
theorem mst_St_isNearer : Cond.static y_St_isNearer ∈ lw_tbl := List.mem_of_getElem? (i := 769) (by decide +kernel)
theorem ml_St_73 : Cond.methodLink R_St 73 ⟨"java/lang/Math", "abs", "(I)I"⟩ ∈ lw_tbl := List.mem_of_getElem? (i := 771) (by decide +kernel)
theorem mw_AW_354 : ma_w R_AW 354 y_St_nearestHouse c_St_nearestHouse 5 (some .int) 1 := ⟨Or.inl (List.mem_of_getElem? (i := 772) (by decide +kernel)), List.mem_of_getElem? (i := 45) (by decide +kernel), List.mem_of_getElem? (i := 763) (by decide +kernel), ⟨by decide +kernel, by decide +kernel⟩, by decide +kernel⟩
theorem ml_AW_354 : Cond.methodLink R_AW 354 y_St_nearestHouse ∈ lw_tbl := List.mem_of_getElem? (i := 772) (by decide +kernel)
theorem mh_La_128 : ma_wh R_La 128 y_La_place c_La_place 5 (some .int) [(0, 10, 13, 21), (0, 10, 17, 13)] 4 := ⟨List.mem_of_getElem? (i := 773) (by decide +kernel), List.mem_of_getElem? (i := 33) (by decide +kernel), List.mem_of_getElem? (i := 775) (by decide +kernel), ⟨by decide +kernel, by decide +kernel⟩, by decide +kernel⟩
theorem ml_La_128 : Cond.methodLink R_La 128 y_La_place ∈ lw_tbl := List.mem_of_getElem? (i := 773) (by decide +kernel)
theorem mst_La_place : Cond.static y_La_place ∈ lw_tbl := List.mem_of_getElem? (i := 774) (by decide +kernel)
theorem mw_La_65 : ma_w R_La 65 y_AW_place c_AW_place 4 (some .int) 2 := ⟨Or.inl (List.mem_of_getElem? (i := 776) (by decide +kernel)), List.mem_of_getElem? (i := 34) (by decide +kernel), List.mem_of_getElem? (i := 779) (by decide +kernel), ⟨by decide +kernel, by decide +kernel⟩, by decide +kernel⟩
theorem ml_La_65 : Cond.methodLink R_La 65 y_AW_place ∈ lw_tbl := List.mem_of_getElem? (i := 776) (by decide +kernel)
theorem mi_AW_place : Cond.instanceMethod y_AW_place ∈ lw_tbl := List.mem_of_getElem? (i := 777) (by decide +kernel)
theorem sr_AW_248 : Cond.stringRef R_AW 248 "no such place" ∈ lw_tbl := List.mem_of_getElem? (i := 780) (by decide +kernel)
theorem sr_AW_251 : Cond.stringRef R_AW 251 "no such what" ∈ lw_tbl := List.mem_of_getElem? (i := 781) (by decide +kernel)
theorem cl_La_69 : Cond.classLink R_La 69 R_Mo ∈ lw_tbl := List.mem_of_getElem? (i := 782) (by decide +kernel)
theorem mw_La_71 : ma_w R_La 71 y_Mo_init c_Mo_init 1 none 0 := ⟨Or.inl (List.mem_of_getElem? (i := 784) (by decide +kernel)), List.mem_of_getElem? (i := 39) (by decide +kernel), List.mem_of_getElem? (i := 786) (by decide +kernel), ⟨by decide +kernel, by decide +kernel⟩, by decide +kernel⟩
theorem ml_La_71 : Cond.methodLink R_La 71 y_Mo_init ∈ lw_tbl := List.mem_of_getElem? (i := 784) (by decide +kernel)
theorem mi_Mo_init : Cond.instanceMethod y_Mo_init ∈ lw_tbl := List.mem_of_getElem? (i := 785) (by decide +kernel)
theorem ml_Mo_1 : Cond.methodLink R_Mo 1 objectInit ∈ lw_tbl := List.mem_of_getElem? (i := 787) (by decide +kernel)
theorem fg_Mo_95 : ma_Fg R_Mo 95 10 0 := ⟨R_Mo, T_Mo, 35, rfl, by decide, in_Mo, Or.inl (List.mem_of_getElem? (i := 788) (by decide +kernel))⟩
theorem fp_Mo_95 : ma_F R_Mo 95 10 0 (.int) false := ⟨R_Mo, T_Mo, 35, ty_Mo, rfl, by decide, in_Mo, tyok_Mo, nm_Mo, rfl, rfl, (fun h => by cases h), Or.inl (List.mem_of_getElem? (i := 788) (by decide +kernel))⟩
theorem fg_Mo_99 : ma_Fg R_Mo 99 10 1 := ⟨R_Mo, T_Mo, 35, rfl, by decide, in_Mo, Or.inl (List.mem_of_getElem? (i := 789) (by decide +kernel))⟩
theorem fp_Mo_99 : ma_F R_Mo 99 10 1 (.int) false := ⟨R_Mo, T_Mo, 35, ty_Mo, rfl, by decide, in_Mo, tyok_Mo, nm_Mo, rfl, rfl, (fun h => by cases h), Or.inl (List.mem_of_getElem? (i := 789) (by decide +kernel))⟩
theorem fg_Mo_7 : ma_Fg R_Mo 7 10 2 := ⟨R_Mo, T_Mo, 35, rfl, by decide, in_Mo, Or.inl (List.mem_of_getElem? (i := 790) (by decide +kernel))⟩
theorem fp_Mo_7 : ma_F R_Mo 7 10 2 (.array .int) true := ⟨R_Mo, T_Mo, 35, ty_Mo, rfl, by decide, in_Mo, tyok_Mo, nm_Mo, rfl, rfl, (fun _ => rfl), Or.inl (List.mem_of_getElem? (i := 790) (by decide +kernel))⟩
theorem fg_Mo_13 : ma_Fg R_Mo 13 10 3 := ⟨R_Mo, T_Mo, 35, rfl, by decide, in_Mo, Or.inl (List.mem_of_getElem? (i := 791) (by decide +kernel))⟩
theorem fp_Mo_13 : ma_F R_Mo 13 10 3 (.array .boolean) true := ⟨R_Mo, T_Mo, 35, ty_Mo, rfl, by decide, in_Mo, tyok_Mo, nm_Mo, rfl, rfl, (fun _ => rfl), Or.inl (List.mem_of_getElem? (i := 791) (by decide +kernel))⟩
theorem fg_Mo_17 : ma_Fg R_Mo 17 10 4 := ⟨R_Mo, T_Mo, 35, rfl, by decide, in_Mo, Or.inl (List.mem_of_getElem? (i := 792) (by decide +kernel))⟩
theorem fp_Mo_17 : ma_F R_Mo 17 10 4 (.array .int) true := ⟨R_Mo, T_Mo, 35, ty_Mo, rfl, by decide, in_Mo, tyok_Mo, nm_Mo, rfl, rfl, (fun _ => rfl), Or.inl (List.mem_of_getElem? (i := 792) (by decide +kernel))⟩
theorem fg_Mo_20 : ma_Fg R_Mo 20 10 5 := ⟨R_Mo, T_Mo, 35, rfl, by decide, in_Mo, Or.inl (List.mem_of_getElem? (i := 793) (by decide +kernel))⟩
theorem fp_Mo_20 : ma_F R_Mo 20 10 5 (.array .int) true := ⟨R_Mo, T_Mo, 35, ty_Mo, rfl, by decide, in_Mo, tyok_Mo, nm_Mo, rfl, rfl, (fun _ => rfl), Or.inl (List.mem_of_getElem? (i := 793) (by decide +kernel))⟩
theorem fg_Mo_23 : ma_Fg R_Mo 23 10 6 := ⟨R_Mo, T_Mo, 35, rfl, by decide, in_Mo, Or.inl (List.mem_of_getElem? (i := 794) (by decide +kernel))⟩
theorem fp_Mo_23 : ma_F R_Mo 23 10 6 (.array .int) true := ⟨R_Mo, T_Mo, 35, ty_Mo, rfl, by decide, in_Mo, tyok_Mo, nm_Mo, rfl, rfl, (fun _ => rfl), Or.inl (List.mem_of_getElem? (i := 794) (by decide +kernel))⟩
theorem fg_Mo_26 : ma_Fg R_Mo 26 10 7 := ⟨R_Mo, T_Mo, 35, rfl, by decide, in_Mo, Or.inl (List.mem_of_getElem? (i := 795) (by decide +kernel))⟩
theorem fp_Mo_26 : ma_F R_Mo 26 10 7 (.array .int) true := ⟨R_Mo, T_Mo, 35, ty_Mo, rfl, by decide, in_Mo, tyok_Mo, nm_Mo, rfl, rfl, (fun _ => rfl), Or.inl (List.mem_of_getElem? (i := 795) (by decide +kernel))⟩
theorem fg_Mo_29 : ma_Fg R_Mo 29 10 8 := ⟨R_Mo, T_Mo, 35, rfl, by decide, in_Mo, Or.inl (List.mem_of_getElem? (i := 796) (by decide +kernel))⟩
theorem fp_Mo_29 : ma_F R_Mo 29 10 8 (.array .int) true := ⟨R_Mo, T_Mo, 35, ty_Mo, rfl, by decide, in_Mo, tyok_Mo, nm_Mo, rfl, rfl, (fun _ => rfl), Or.inl (List.mem_of_getElem? (i := 796) (by decide +kernel))⟩
theorem fg_Mo_32 : ma_Fg R_Mo 32 10 9 := ⟨R_Mo, T_Mo, 35, rfl, by decide, in_Mo, Or.inl (List.mem_of_getElem? (i := 797) (by decide +kernel))⟩
theorem fp_Mo_32 : ma_F R_Mo 32 10 9 (.array .int) true := ⟨R_Mo, T_Mo, 35, ty_Mo, rfl, by decide, in_Mo, tyok_Mo, nm_Mo, rfl, rfl, (fun _ => rfl), Or.inl (List.mem_of_getElem? (i := 797) (by decide +kernel))⟩
theorem fg_Mo_35 : ma_Fg R_Mo 35 10 10 := ⟨R_Mo, T_Mo, 35, rfl, by decide, in_Mo, Or.inl (List.mem_of_getElem? (i := 798) (by decide +kernel))⟩
theorem fp_Mo_35 : ma_F R_Mo 35 10 10 (.array .int) true := ⟨R_Mo, T_Mo, 35, ty_Mo, rfl, by decide, in_Mo, tyok_Mo, nm_Mo, rfl, rfl, (fun _ => rfl), Or.inl (List.mem_of_getElem? (i := 798) (by decide +kernel))⟩
theorem fg_Mo_38 : ma_Fg R_Mo 38 10 11 := ⟨R_Mo, T_Mo, 35, rfl, by decide, in_Mo, Or.inl (List.mem_of_getElem? (i := 799) (by decide +kernel))⟩
theorem fp_Mo_38 : ma_F R_Mo 38 10 11 (.array .int) true := ⟨R_Mo, T_Mo, 35, ty_Mo, rfl, by decide, in_Mo, tyok_Mo, nm_Mo, rfl, rfl, (fun _ => rfl), Or.inl (List.mem_of_getElem? (i := 799) (by decide +kernel))⟩
theorem fg_Mo_41 : ma_Fg R_Mo 41 10 12 := ⟨R_Mo, T_Mo, 35, rfl, by decide, in_Mo, Or.inl (List.mem_of_getElem? (i := 800) (by decide +kernel))⟩
theorem fp_Mo_41 : ma_F R_Mo 41 10 12 (.array .int) true := ⟨R_Mo, T_Mo, 35, ty_Mo, rfl, by decide, in_Mo, tyok_Mo, nm_Mo, rfl, rfl, (fun _ => rfl), Or.inl (List.mem_of_getElem? (i := 800) (by decide +kernel))⟩
theorem fg_Mo_44 : ma_Fg R_Mo 44 10 13 := ⟨R_Mo, T_Mo, 35, rfl, by decide, in_Mo, Or.inl (List.mem_of_getElem? (i := 801) (by decide +kernel))⟩
theorem fp_Mo_44 : ma_F R_Mo 44 10 13 (.array .int) true := ⟨R_Mo, T_Mo, 35, ty_Mo, rfl, by decide, in_Mo, tyok_Mo, nm_Mo, rfl, rfl, (fun _ => rfl), Or.inl (List.mem_of_getElem? (i := 801) (by decide +kernel))⟩
theorem fg_Mo_47 : ma_Fg R_Mo 47 10 14 := ⟨R_Mo, T_Mo, 35, rfl, by decide, in_Mo, Or.inl (List.mem_of_getElem? (i := 802) (by decide +kernel))⟩
theorem fp_Mo_47 : ma_F R_Mo 47 10 14 (.array .int) true := ⟨R_Mo, T_Mo, 35, ty_Mo, rfl, by decide, in_Mo, tyok_Mo, nm_Mo, rfl, rfl, (fun _ => rfl), Or.inl (List.mem_of_getElem? (i := 802) (by decide +kernel))⟩
theorem fg_Mo_50 : ma_Fg R_Mo 50 10 15 := ⟨R_Mo, T_Mo, 35, rfl, by decide, in_Mo, Or.inl (List.mem_of_getElem? (i := 803) (by decide +kernel))⟩
theorem fp_Mo_50 : ma_F R_Mo 50 10 15 (.array .int) true := ⟨R_Mo, T_Mo, 35, ty_Mo, rfl, by decide, in_Mo, tyok_Mo, nm_Mo, rfl, rfl, (fun _ => rfl), Or.inl (List.mem_of_getElem? (i := 803) (by decide +kernel))⟩
theorem fg_Mo_133 : ma_Fg R_Mo 133 10 16 := ⟨R_Mo, T_Mo, 35, rfl, by decide, in_Mo, Or.inl (List.mem_of_getElem? (i := 804) (by decide +kernel))⟩
theorem fp_Mo_133 : ma_F R_Mo 133 10 16 (.int) false := ⟨R_Mo, T_Mo, 35, ty_Mo, rfl, by decide, in_Mo, tyok_Mo, nm_Mo, rfl, rfl, (fun h => by cases h), Or.inl (List.mem_of_getElem? (i := 804) (by decide +kernel))⟩
theorem fg_Mo_53 : ma_Fg R_Mo 53 10 17 := ⟨R_Mo, T_Mo, 35, rfl, by decide, in_Mo, Or.inl (List.mem_of_getElem? (i := 805) (by decide +kernel))⟩
theorem fp_Mo_53 : ma_F R_Mo 53 10 17 (.array .int) true := ⟨R_Mo, T_Mo, 35, ty_Mo, rfl, by decide, in_Mo, tyok_Mo, nm_Mo, rfl, rfl, (fun _ => rfl), Or.inl (List.mem_of_getElem? (i := 805) (by decide +kernel))⟩
theorem fg_Mo_56 : ma_Fg R_Mo 56 10 18 := ⟨R_Mo, T_Mo, 35, rfl, by decide, in_Mo, Or.inl (List.mem_of_getElem? (i := 806) (by decide +kernel))⟩
theorem fp_Mo_56 : ma_F R_Mo 56 10 18 (.array .int) true := ⟨R_Mo, T_Mo, 35, ty_Mo, rfl, by decide, in_Mo, tyok_Mo, nm_Mo, rfl, rfl, (fun _ => rfl), Or.inl (List.mem_of_getElem? (i := 806) (by decide +kernel))⟩
theorem fg_Mo_59 : ma_Fg R_Mo 59 10 19 := ⟨R_Mo, T_Mo, 35, rfl, by decide, in_Mo, Or.inl (List.mem_of_getElem? (i := 807) (by decide +kernel))⟩
theorem fp_Mo_59 : ma_F R_Mo 59 10 19 (.array .int) true := ⟨R_Mo, T_Mo, 35, ty_Mo, rfl, by decide, in_Mo, tyok_Mo, nm_Mo, rfl, rfl, (fun _ => rfl), Or.inl (List.mem_of_getElem? (i := 807) (by decide +kernel))⟩
theorem fg_Mo_62 : ma_Fg R_Mo 62 10 20 := ⟨R_Mo, T_Mo, 35, rfl, by decide, in_Mo, Or.inl (List.mem_of_getElem? (i := 808) (by decide +kernel))⟩
theorem fp_Mo_62 : ma_F R_Mo 62 10 20 (.array .int) true := ⟨R_Mo, T_Mo, 35, ty_Mo, rfl, by decide, in_Mo, tyok_Mo, nm_Mo, rfl, rfl, (fun _ => rfl), Or.inl (List.mem_of_getElem? (i := 808) (by decide +kernel))⟩
theorem fg_Mo_139 : ma_Fg R_Mo 139 10 21 := ⟨R_Mo, T_Mo, 35, rfl, by decide, in_Mo, Or.inl (List.mem_of_getElem? (i := 809) (by decide +kernel))⟩
theorem fp_Mo_139 : ma_F R_Mo 139 10 21 (.int) false := ⟨R_Mo, T_Mo, 35, ty_Mo, rfl, by decide, in_Mo, tyok_Mo, nm_Mo, rfl, rfl, (fun h => by cases h), Or.inl (List.mem_of_getElem? (i := 809) (by decide +kernel))⟩
theorem fg_Mo_65 : ma_Fg R_Mo 65 10 22 := ⟨R_Mo, T_Mo, 35, rfl, by decide, in_Mo, Or.inl (List.mem_of_getElem? (i := 810) (by decide +kernel))⟩
theorem fp_Mo_65 : ma_F R_Mo 65 10 22 (.array .int) true := ⟨R_Mo, T_Mo, 35, ty_Mo, rfl, by decide, in_Mo, tyok_Mo, nm_Mo, rfl, rfl, (fun _ => rfl), Or.inl (List.mem_of_getElem? (i := 810) (by decide +kernel))⟩
theorem fg_Mo_68 : ma_Fg R_Mo 68 10 23 := ⟨R_Mo, T_Mo, 35, rfl, by decide, in_Mo, Or.inl (List.mem_of_getElem? (i := 811) (by decide +kernel))⟩
theorem fp_Mo_68 : ma_F R_Mo 68 10 23 (.array .int) true := ⟨R_Mo, T_Mo, 35, ty_Mo, rfl, by decide, in_Mo, tyok_Mo, nm_Mo, rfl, rfl, (fun _ => rfl), Or.inl (List.mem_of_getElem? (i := 811) (by decide +kernel))⟩
theorem fg_Mo_71 : ma_Fg R_Mo 71 10 24 := ⟨R_Mo, T_Mo, 35, rfl, by decide, in_Mo, Or.inl (List.mem_of_getElem? (i := 812) (by decide +kernel))⟩
theorem fp_Mo_71 : ma_F R_Mo 71 10 24 (.array .int) true := ⟨R_Mo, T_Mo, 35, ty_Mo, rfl, by decide, in_Mo, tyok_Mo, nm_Mo, rfl, rfl, (fun _ => rfl), Or.inl (List.mem_of_getElem? (i := 812) (by decide +kernel))⟩
theorem fg_Mo_74 : ma_Fg R_Mo 74 10 25 := ⟨R_Mo, T_Mo, 35, rfl, by decide, in_Mo, Or.inl (List.mem_of_getElem? (i := 813) (by decide +kernel))⟩
theorem fp_Mo_74 : ma_F R_Mo 74 10 25 (.array .int) true := ⟨R_Mo, T_Mo, 35, ty_Mo, rfl, by decide, in_Mo, tyok_Mo, nm_Mo, rfl, rfl, (fun _ => rfl), Or.inl (List.mem_of_getElem? (i := 813) (by decide +kernel))⟩
theorem fg_Mo_155 : ma_Fg R_Mo 155 10 26 := ⟨R_Mo, T_Mo, 35, rfl, by decide, in_Mo, Or.inl (List.mem_of_getElem? (i := 814) (by decide +kernel))⟩
theorem fp_Mo_155 : ma_F R_Mo 155 10 26 (.int) false := ⟨R_Mo, T_Mo, 35, ty_Mo, rfl, by decide, in_Mo, tyok_Mo, nm_Mo, rfl, rfl, (fun h => by cases h), Or.inl (List.mem_of_getElem? (i := 814) (by decide +kernel))⟩
theorem fg_Mo_77 : ma_Fg R_Mo 77 10 27 := ⟨R_Mo, T_Mo, 35, rfl, by decide, in_Mo, Or.inl (List.mem_of_getElem? (i := 815) (by decide +kernel))⟩
theorem fp_Mo_77 : ma_F R_Mo 77 10 27 (.array .int) true := ⟨R_Mo, T_Mo, 35, ty_Mo, rfl, by decide, in_Mo, tyok_Mo, nm_Mo, rfl, rfl, (fun _ => rfl), Or.inl (List.mem_of_getElem? (i := 815) (by decide +kernel))⟩
theorem fg_Mo_114 : ma_Fg R_Mo 114 10 28 := ⟨R_Mo, T_Mo, 35, rfl, by decide, in_Mo, Or.inl (List.mem_of_getElem? (i := 816) (by decide +kernel))⟩
theorem fp_Mo_114 : ma_F R_Mo 114 10 28 (.int) false := ⟨R_Mo, T_Mo, 35, ty_Mo, rfl, by decide, in_Mo, tyok_Mo, nm_Mo, rfl, rfl, (fun h => by cases h), Or.inl (List.mem_of_getElem? (i := 816) (by decide +kernel))⟩
theorem fg_Mo_80 : ma_Fg R_Mo 80 10 29 := ⟨R_Mo, T_Mo, 35, rfl, by decide, in_Mo, Or.inl (List.mem_of_getElem? (i := 817) (by decide +kernel))⟩
theorem fp_Mo_80 : ma_F R_Mo 80 10 29 (.array .int) true := ⟨R_Mo, T_Mo, 35, ty_Mo, rfl, by decide, in_Mo, tyok_Mo, nm_Mo, rfl, rfl, (fun _ => rfl), Or.inl (List.mem_of_getElem? (i := 817) (by decide +kernel))⟩
theorem fg_Mo_83 : ma_Fg R_Mo 83 10 30 := ⟨R_Mo, T_Mo, 35, rfl, by decide, in_Mo, Or.inl (List.mem_of_getElem? (i := 818) (by decide +kernel))⟩
theorem fp_Mo_83 : ma_F R_Mo 83 10 30 (.array .int) true := ⟨R_Mo, T_Mo, 35, ty_Mo, rfl, by decide, in_Mo, tyok_Mo, nm_Mo, rfl, rfl, (fun _ => rfl), Or.inl (List.mem_of_getElem? (i := 818) (by decide +kernel))⟩
theorem fg_Mo_172 : ma_Fg R_Mo 172 10 31 := ⟨R_Mo, T_Mo, 35, rfl, by decide, in_Mo, Or.inl (List.mem_of_getElem? (i := 819) (by decide +kernel))⟩
theorem fp_Mo_172 : ma_F R_Mo 172 10 31 (.int) false := ⟨R_Mo, T_Mo, 35, ty_Mo, rfl, by decide, in_Mo, tyok_Mo, nm_Mo, rfl, rfl, (fun h => by cases h), Or.inl (List.mem_of_getElem? (i := 819) (by decide +kernel))⟩
theorem fg_Mo_86 : ma_Fg R_Mo 86 10 32 := ⟨R_Mo, T_Mo, 35, rfl, by decide, in_Mo, Or.inl (List.mem_of_getElem? (i := 820) (by decide +kernel))⟩
theorem fp_Mo_86 : ma_F R_Mo 86 10 32 (.array .int) true := ⟨R_Mo, T_Mo, 35, ty_Mo, rfl, by decide, in_Mo, tyok_Mo, nm_Mo, rfl, rfl, (fun _ => rfl), Or.inl (List.mem_of_getElem? (i := 820) (by decide +kernel))⟩
theorem fg_Mo_89 : ma_Fg R_Mo 89 10 33 := ⟨R_Mo, T_Mo, 35, rfl, by decide, in_Mo, Or.inl (List.mem_of_getElem? (i := 821) (by decide +kernel))⟩
theorem fp_Mo_89 : ma_F R_Mo 89 10 33 (.array .int) true := ⟨R_Mo, T_Mo, 35, ty_Mo, rfl, by decide, in_Mo, tyok_Mo, nm_Mo, rfl, rfl, (fun _ => rfl), Or.inl (List.mem_of_getElem? (i := 821) (by decide +kernel))⟩
theorem fg_Mo_92 : ma_Fg R_Mo 92 10 34 := ⟨R_Mo, T_Mo, 35, rfl, by decide, in_Mo, Or.inl (List.mem_of_getElem? (i := 822) (by decide +kernel))⟩
theorem fp_Mo_92 : ma_F R_Mo 92 10 34 (.array .int) true := ⟨R_Mo, T_Mo, 35, ty_Mo, rfl, by decide, in_Mo, tyok_Mo, nm_Mo, rfl, rfl, (fun _ => rfl), Or.inl (List.mem_of_getElem? (i := 822) (by decide +kernel))⟩
theorem ac_boolean : Cond.arrayClass .boolean ∈ lw_tbl := List.mem_of_getElem? (i := 894) (by decide +kernel)
theorem mw_La_78 : ma_w R_La 78 y_Mo_thrown c_Mo_thrown 1 (some .int) 0 := ⟨Or.inl (List.mem_of_getElem? (i := 895) (by decide +kernel)), List.mem_of_getElem? (i := 39) (by decide +kernel), List.mem_of_getElem? (i := 898) (by decide +kernel), ⟨by decide +kernel, by decide +kernel⟩, by decide +kernel⟩
theorem ml_La_78 : Cond.methodLink R_La 78 y_Mo_thrown ∈ lw_tbl := List.mem_of_getElem? (i := 895) (by decide +kernel)
theorem mi_Mo_thrown : Cond.instanceMethod y_Mo_thrown ∈ lw_tbl := List.mem_of_getElem? (i := 896) (by decide +kernel)
theorem mw_La_77 : ma_w R_La 77 y_Mo_street c_Mo_street 2 (some .int) 1 := ⟨Or.inl (List.mem_of_getElem? (i := 899) (by decide +kernel)), List.mem_of_getElem? (i := 39) (by decide +kernel), List.mem_of_getElem? (i := 902) (by decide +kernel), ⟨by decide +kernel, by decide +kernel⟩, by decide +kernel⟩
theorem ml_La_77 : Cond.methodLink R_La 77 y_Mo_street ∈ lw_tbl := List.mem_of_getElem? (i := 899) (by decide +kernel)
theorem mi_Mo_street : Cond.instanceMethod y_Mo_street ∈ lw_tbl := List.mem_of_getElem? (i := 900) (by decide +kernel)
theorem mw_Mo_102 : ma_w R_Mo 102 y_Mo_in c_Mo_in 3 (some .boolean) 3 := ⟨Or.inl (List.mem_of_getElem? (i := 903) (by decide +kernel)), List.mem_of_getElem? (i := 39) (by decide +kernel), List.mem_of_getElem? (i := 905) (by decide +kernel), ⟨by decide +kernel, by decide +kernel⟩, by decide +kernel⟩
theorem ml_Mo_102 : Cond.methodLink R_Mo 102 y_Mo_in ∈ lw_tbl := List.mem_of_getElem? (i := 903) (by decide +kernel)
theorem mst_Mo_in : Cond.static y_Mo_in ∈ lw_tbl := List.mem_of_getElem? (i := 904) (by decide +kernel)
theorem mw_Mo_110 : ma_w R_Mo 110 y_Mo_goes c_Mo_goes 8 (some .boolean) 5 := ⟨Or.inl (List.mem_of_getElem? (i := 906) (by decide +kernel)), List.mem_of_getElem? (i := 39) (by decide +kernel), List.mem_of_getElem? (i := 909) (by decide +kernel), ⟨by decide +kernel, by decide +kernel⟩, by decide +kernel⟩
theorem ml_Mo_110 : Cond.methodLink R_Mo 110 y_Mo_goes ∈ lw_tbl := List.mem_of_getElem? (i := 906) (by decide +kernel)
theorem mi_Mo_goes : Cond.instanceMethod y_Mo_goes ∈ lw_tbl := List.mem_of_getElem? (i := 908) (by decide +kernel)
theorem mw_La_87 : ma_w R_La 87 y_Mo_sign c_Mo_sign 8 (some .int) 3 := ⟨Or.inl (List.mem_of_getElem? (i := 910) (by decide +kernel)), List.mem_of_getElem? (i := 39) (by decide +kernel), List.mem_of_getElem? (i := 913) (by decide +kernel), ⟨by decide +kernel, by decide +kernel⟩, by decide +kernel⟩
theorem ml_La_87 : Cond.methodLink R_La 87 y_Mo_sign ∈ lw_tbl := List.mem_of_getElem? (i := 910) (by decide +kernel)
theorem mi_Mo_sign : Cond.instanceMethod y_Mo_sign ∈ lw_tbl := List.mem_of_getElem? (i := 911) (by decide +kernel)
theorem mw_Mo_117 : ma_w R_Mo 117 y_Mo_isStreet c_Mo_isStreet 2 (some .boolean) 1 := ⟨Or.inl (List.mem_of_getElem? (i := 914) (by decide +kernel)), List.mem_of_getElem? (i := 39) (by decide +kernel), List.mem_of_getElem? (i := 917) (by decide +kernel), ⟨by decide +kernel, by decide +kernel⟩, by decide +kernel⟩
theorem ml_Mo_117 : Cond.methodLink R_Mo 117 y_Mo_isStreet ∈ lw_tbl := List.mem_of_getElem? (i := 914) (by decide +kernel)
theorem mi_Mo_isStreet : Cond.instanceMethod y_Mo_isStreet ∈ lw_tbl := List.mem_of_getElem? (i := 916) (by decide +kernel)
theorem mw_Mo_121 : ma_w R_Mo 121 y_Mo_areLetters c_Mo_areLetters 4 (some .boolean) 2 := ⟨Or.inl (List.mem_of_getElem? (i := 918) (by decide +kernel)), List.mem_of_getElem? (i := 39) (by decide +kernel), List.mem_of_getElem? (i := 920) (by decide +kernel), ⟨by decide +kernel, by decide +kernel⟩, by decide +kernel⟩
theorem ml_Mo_121 : Cond.methodLink R_Mo 121 y_Mo_areLetters ∈ lw_tbl := List.mem_of_getElem? (i := 918) (by decide +kernel)
theorem mst_Mo_areLetters : Cond.static y_Mo_areLetters ∈ lw_tbl := List.mem_of_getElem? (i := 919) (by decide +kernel)
theorem mw_Mo_106 : ma_w R_Mo 106 y_Mo_byteOf c_Mo_byteOf 4 (some .int) 3 := ⟨Or.inl (List.mem_of_getElem? (i := 921) (by decide +kernel)), List.mem_of_getElem? (i := 39) (by decide +kernel), List.mem_of_getElem? (i := 923) (by decide +kernel), ⟨by decide +kernel, by decide +kernel⟩, by decide +kernel⟩
theorem ml_Mo_106 : Cond.methodLink R_Mo 106 y_Mo_byteOf ∈ lw_tbl := List.mem_of_getElem? (i := 921) (by decide +kernel)
theorem mst_Mo_byteOf : Cond.static y_Mo_byteOf ∈ lw_tbl := List.mem_of_getElem? (i := 922) (by decide +kernel)
theorem mw_La_90 : ma_w R_La 90 y_Mo_alias c_Mo_alias 3 (some .int) 1 := ⟨Or.inl (List.mem_of_getElem? (i := 924) (by decide +kernel)), List.mem_of_getElem? (i := 39) (by decide +kernel), List.mem_of_getElem? (i := 927) (by decide +kernel), ⟨by decide +kernel, by decide +kernel⟩, by decide +kernel⟩
theorem ml_La_90 : Cond.methodLink R_La 90 y_Mo_alias ∈ lw_tbl := List.mem_of_getElem? (i := 924) (by decide +kernel)
theorem mi_Mo_alias : Cond.instanceMethod y_Mo_alias ∈ lw_tbl := List.mem_of_getElem? (i := 925) (by decide +kernel)
theorem mw_La_94 : ma_w R_La 94 y_Mo_range c_Mo_range 8 (some .int) 4 := ⟨Or.inl (List.mem_of_getElem? (i := 928) (by decide +kernel)), List.mem_of_getElem? (i := 39) (by decide +kernel), List.mem_of_getElem? (i := 931) (by decide +kernel), ⟨by decide +kernel, by decide +kernel⟩, by decide +kernel⟩
theorem ml_La_94 : Cond.methodLink R_La 94 y_Mo_range ∈ lw_tbl := List.mem_of_getElem? (i := 928) (by decide +kernel)
theorem mi_Mo_range : Cond.instanceMethod y_Mo_range ∈ lw_tbl := List.mem_of_getElem? (i := 929) (by decide +kernel)
theorem mw_Mo_125 : ma_w R_Mo 125 y_Mo_isOf c_Mo_isOf 2 (some .boolean) 2 := ⟨Or.inl (List.mem_of_getElem? (i := 932) (by decide +kernel)), List.mem_of_getElem? (i := 39) (by decide +kernel), List.mem_of_getElem? (i := 934) (by decide +kernel), ⟨by decide +kernel, by decide +kernel⟩, by decide +kernel⟩
theorem ml_Mo_125 : Cond.methodLink R_Mo 125 y_Mo_isOf ∈ lw_tbl := List.mem_of_getElem? (i := 932) (by decide +kernel)
theorem mst_Mo_isOf : Cond.static y_Mo_isOf ∈ lw_tbl := List.mem_of_getElem? (i := 933) (by decide +kernel)
theorem mw_La_98 : ma_w R_La 98 y_Mo_line c_Mo_line 10 (some .int) 5 := ⟨Or.inl (List.mem_of_getElem? (i := 935) (by decide +kernel)), List.mem_of_getElem? (i := 39) (by decide +kernel), List.mem_of_getElem? (i := 938) (by decide +kernel), ⟨by decide +kernel, by decide +kernel⟩, by decide +kernel⟩
theorem ml_La_98 : Cond.methodLink R_La 98 y_Mo_line ∈ lw_tbl := List.mem_of_getElem? (i := 935) (by decide +kernel)
theorem mi_Mo_line : Cond.instanceMethod y_Mo_line ∈ lw_tbl := List.mem_of_getElem? (i := 936) (by decide +kernel)
theorem mw_Mo_129 : ma_w R_Mo 129 y_Mo_isPlace c_Mo_isPlace 1 (some .boolean) 1 := ⟨Or.inl (List.mem_of_getElem? (i := 939) (by decide +kernel)), List.mem_of_getElem? (i := 39) (by decide +kernel), List.mem_of_getElem? (i := 941) (by decide +kernel), ⟨by decide +kernel, by decide +kernel⟩, by decide +kernel⟩
theorem ml_Mo_129 : Cond.methodLink R_Mo 129 y_Mo_isPlace ∈ lw_tbl := List.mem_of_getElem? (i := 939) (by decide +kernel)
theorem mst_Mo_isPlace : Cond.static y_Mo_isPlace ∈ lw_tbl := List.mem_of_getElem? (i := 940) (by decide +kernel)
theorem kc_Mo_132 : Cond.constant R_Mo 132 32768 ∈ lw_tbl := List.mem_of_getElem? (i := 942) (by decide +kernel)
theorem mw_La_102 : ma_w R_La 102 y_Mo_close c_Mo_close 3 none 2 := ⟨Or.inl (List.mem_of_getElem? (i := 943) (by decide +kernel)), List.mem_of_getElem? (i := 39) (by decide +kernel), List.mem_of_getElem? (i := 946) (by decide +kernel), ⟨by decide +kernel, by decide +kernel⟩, by decide +kernel⟩
theorem ml_La_102 : Cond.methodLink R_La 102 y_Mo_close ∈ lw_tbl := List.mem_of_getElem? (i := 943) (by decide +kernel)
theorem mi_Mo_close : Cond.instanceMethod y_Mo_close ∈ lw_tbl := List.mem_of_getElem? (i := 944) (by decide +kernel)
theorem mw_La_106 : ma_w R_La 106 y_Mo_landmark c_Mo_landmark 8 (some .int) 4 := ⟨Or.inl (List.mem_of_getElem? (i := 947) (by decide +kernel)), List.mem_of_getElem? (i := 39) (by decide +kernel), List.mem_of_getElem? (i := 950) (by decide +kernel), ⟨by decide +kernel, by decide +kernel⟩, by decide +kernel⟩
theorem ml_La_106 : Cond.methodLink R_La 106 y_Mo_landmark ∈ lw_tbl := List.mem_of_getElem? (i := 947) (by decide +kernel)
theorem mi_Mo_landmark : Cond.instanceMethod y_Mo_landmark ∈ lw_tbl := List.mem_of_getElem? (i := 948) (by decide +kernel)
theorem mw_Mo_136 : ma_w R_Mo 136 y_Mo_hasMark c_Mo_hasMark 7 (some .boolean) 2 := ⟨Or.inl (List.mem_of_getElem? (i := 951) (by decide +kernel)), List.mem_of_getElem? (i := 39) (by decide +kernel), List.mem_of_getElem? (i := 954) (by decide +kernel), ⟨by decide +kernel, by decide +kernel⟩, by decide +kernel⟩
theorem ml_Mo_136 : Cond.methodLink R_Mo 136 y_Mo_hasMark ∈ lw_tbl := List.mem_of_getElem? (i := 951) (by decide +kernel)
theorem mi_Mo_hasMark : Cond.instanceMethod y_Mo_hasMark ∈ lw_tbl := List.mem_of_getElem? (i := 953) (by decide +kernel)
theorem mw_La_110 : ma_w R_La 110 y_Mo_meet c_Mo_meet 7 none 4 := ⟨Or.inl (List.mem_of_getElem? (i := 955) (by decide +kernel)), List.mem_of_getElem? (i := 39) (by decide +kernel), List.mem_of_getElem? (i := 958) (by decide +kernel), ⟨by decide +kernel, by decide +kernel⟩, by decide +kernel⟩
theorem ml_La_110 : Cond.methodLink R_La 110 y_Mo_meet ∈ lw_tbl := List.mem_of_getElem? (i := 955) (by decide +kernel)
theorem mi_Mo_meet : Cond.instanceMethod y_Mo_meet ∈ lw_tbl := List.mem_of_getElem? (i := 956) (by decide +kernel)
theorem mw_Mo_142 : ma_w R_Mo 142 y_Mo_cornerOf c_Mo_cornerOf 4 (some .int) 2 := ⟨Or.inl (List.mem_of_getElem? (i := 959) (by decide +kernel)), List.mem_of_getElem? (i := 39) (by decide +kernel), List.mem_of_getElem? (i := 962) (by decide +kernel), ⟨by decide +kernel, by decide +kernel⟩, by decide +kernel⟩
theorem ml_Mo_142 : Cond.methodLink R_Mo 142 y_Mo_cornerOf ∈ lw_tbl := List.mem_of_getElem? (i := 959) (by decide +kernel)
theorem mi_Mo_cornerOf : Cond.instanceMethod y_Mo_cornerOf ∈ lw_tbl := List.mem_of_getElem? (i := 961) (by decide +kernel)
theorem mw_La_114 : ma_w R_La 114 y_Mo_corner c_Mo_corner 3 (some .int) 2 := ⟨Or.inl (List.mem_of_getElem? (i := 963) (by decide +kernel)), List.mem_of_getElem? (i := 39) (by decide +kernel), List.mem_of_getElem? (i := 966) (by decide +kernel), ⟨by decide +kernel, by decide +kernel⟩, by decide +kernel⟩
theorem ml_La_114 : Cond.methodLink R_La 114 y_Mo_corner ∈ lw_tbl := List.mem_of_getElem? (i := 963) (by decide +kernel)
theorem mi_Mo_corner : Cond.instanceMethod y_Mo_corner ∈ lw_tbl := List.mem_of_getElem? (i := 964) (by decide +kernel)
theorem mw_La_117 : ma_w R_La 117 y_Mo_post c_Mo_post 6 (some .int) 2 := ⟨Or.inl (List.mem_of_getElem? (i := 967) (by decide +kernel)), List.mem_of_getElem? (i := 39) (by decide +kernel), List.mem_of_getElem? (i := 970) (by decide +kernel), ⟨by decide +kernel, by decide +kernel⟩, by decide +kernel⟩
theorem ml_La_117 : Cond.methodLink R_La 117 y_Mo_post ∈ lw_tbl := List.mem_of_getElem? (i := 967) (by decide +kernel)
theorem mi_Mo_post : Cond.instanceMethod y_Mo_post ∈ lw_tbl := List.mem_of_getElem? (i := 968) (by decide +kernel)
theorem mw_Mo_148 : ma_w R_Mo 148 y_Mo_part c_Mo_part 7 (some .int) 3 := ⟨Or.inl (List.mem_of_getElem? (i := 971) (by decide +kernel)), List.mem_of_getElem? (i := 39) (by decide +kernel), List.mem_of_getElem? (i := 973) (by decide +kernel), ⟨by decide +kernel, by decide +kernel⟩, by decide +kernel⟩
theorem ml_Mo_148 : Cond.methodLink R_Mo 148 y_Mo_part ∈ lw_tbl := List.mem_of_getElem? (i := 971) (by decide +kernel)
theorem mst_Mo_part : Cond.static y_Mo_part ∈ lw_tbl := List.mem_of_getElem? (i := 972) (by decide +kernel)
theorem kc_Mo_146 : Cond.constantLong R_Mo 146 2 ∈ lw_tbl := List.mem_of_getElem? (i := 974) (by decide +kernel)
theorem mw_La_120 : ma_w R_La 120 y_Mo_near c_Mo_near 13 (some .int) 2 := ⟨Or.inl (List.mem_of_getElem? (i := 975) (by decide +kernel)), List.mem_of_getElem? (i := 39) (by decide +kernel), List.mem_of_getElem? (i := 978) (by decide +kernel), ⟨by decide +kernel, by decide +kernel⟩, by decide +kernel⟩
theorem ml_La_120 : Cond.methodLink R_La 120 y_Mo_near ∈ lw_tbl := List.mem_of_getElem? (i := 975) (by decide +kernel)
theorem mi_Mo_near : Cond.instanceMethod y_Mo_near ∈ lw_tbl := List.mem_of_getElem? (i := 976) (by decide +kernel)
theorem mw_La_124 : ma_w R_La 124 y_Mo_word c_Mo_word 6 (some .int) 2 := ⟨Or.inl (List.mem_of_getElem? (i := 979) (by decide +kernel)), List.mem_of_getElem? (i := 39) (by decide +kernel), List.mem_of_getElem? (i := 982) (by decide +kernel), ⟨by decide +kernel, by decide +kernel⟩, by decide +kernel⟩
theorem ml_La_124 : Cond.methodLink R_La 124 y_Mo_word ∈ lw_tbl := List.mem_of_getElem? (i := 979) (by decide +kernel)
theorem mi_Mo_word : Cond.instanceMethod y_Mo_word ∈ lw_tbl := List.mem_of_getElem? (i := 980) (by decide +kernel)
theorem mw_Mo_152 : ma_w R_Mo 152 y_Mo_isSign c_Mo_isSign 1 (some .boolean) 1 := ⟨Or.inl (List.mem_of_getElem? (i := 983) (by decide +kernel)), List.mem_of_getElem? (i := 39) (by decide +kernel), List.mem_of_getElem? (i := 985) (by decide +kernel), ⟨by decide +kernel, by decide +kernel⟩, by decide +kernel⟩
theorem ml_Mo_152 : Cond.methodLink R_Mo 152 y_Mo_isSign ∈ lw_tbl := List.mem_of_getElem? (i := 983) (by decide +kernel)
theorem mst_Mo_isSign : Cond.static y_Mo_isSign ∈ lw_tbl := List.mem_of_getElem? (i := 984) (by decide +kernel)
theorem mw_La_127 : ma_w R_La 127 y_Mo_find c_Mo_find 5 (some .int) 1 := ⟨Or.inl (List.mem_of_getElem? (i := 986) (by decide +kernel)), List.mem_of_getElem? (i := 39) (by decide +kernel), List.mem_of_getElem? (i := 989) (by decide +kernel), ⟨by decide +kernel, by decide +kernel⟩, by decide +kernel⟩
theorem ml_La_127 : Cond.methodLink R_La 127 y_Mo_find ∈ lw_tbl := List.mem_of_getElem? (i := 986) (by decide +kernel)
theorem mi_Mo_find : Cond.instanceMethod y_Mo_find ∈ lw_tbl := List.mem_of_getElem? (i := 987) (by decide +kernel)
theorem mw_Mo_168 : ma_w R_Mo 168 y_Mo_houseSaid c_Mo_houseSaid 4 (some .int) 0 := ⟨Or.inl (List.mem_of_getElem? (i := 990) (by decide +kernel)), List.mem_of_getElem? (i := 39) (by decide +kernel), List.mem_of_getElem? (i := 993) (by decide +kernel), ⟨by decide +kernel, by decide +kernel⟩, by decide +kernel⟩
theorem ml_Mo_168 : Cond.methodLink R_Mo 168 y_Mo_houseSaid ∈ lw_tbl := List.mem_of_getElem? (i := 990) (by decide +kernel)
theorem mi_Mo_houseSaid : Cond.instanceMethod y_Mo_houseSaid ∈ lw_tbl := List.mem_of_getElem? (i := 992) (by decide +kernel)
theorem mw_Mo_175 : ma_w R_Mo 175 y_Mo_apartStreet c_Mo_apartStreet 6 (some .int) 1 := ⟨Or.inl (List.mem_of_getElem? (i := 994) (by decide +kernel)), List.mem_of_getElem? (i := 39) (by decide +kernel), List.mem_of_getElem? (i := 997) (by decide +kernel), ⟨by decide +kernel, by decide +kernel⟩, by decide +kernel⟩
theorem ml_Mo_175 : Cond.methodLink R_Mo 175 y_Mo_apartStreet ∈ lw_tbl := List.mem_of_getElem? (i := 994) (by decide +kernel)
theorem mi_Mo_apartStreet : Cond.instanceMethod y_Mo_apartStreet ∈ lw_tbl := List.mem_of_getElem? (i := 996) (by decide +kernel)
theorem mw_Mo_164 : ma_w R_Mo 164 y_Mo_nearest c_Mo_nearest 5 (some .int) 1 := ⟨Or.inl (List.mem_of_getElem? (i := 998) (by decide +kernel)), List.mem_of_getElem? (i := 39) (by decide +kernel), List.mem_of_getElem? (i := 1001) (by decide +kernel), ⟨by decide +kernel, by decide +kernel⟩, by decide +kernel⟩
theorem ml_Mo_164 : Cond.methodLink R_Mo 164 y_Mo_nearest ∈ lw_tbl := List.mem_of_getElem? (i := 998) (by decide +kernel)
theorem mi_Mo_nearest : Cond.instanceMethod y_Mo_nearest ∈ lw_tbl := List.mem_of_getElem? (i := 1000) (by decide +kernel)
theorem mw_Mo_161 : ma_w R_Mo 161 y_Mo_distance c_Mo_distance 7 (some .int) 2 := ⟨Or.inl (List.mem_of_getElem? (i := 1002) (by decide +kernel)), List.mem_of_getElem? (i := 39) (by decide +kernel), List.mem_of_getElem? (i := 1005) (by decide +kernel), ⟨by decide +kernel, by decide +kernel⟩, by decide +kernel⟩
theorem ml_Mo_161 : Cond.methodLink R_Mo 161 y_Mo_distance ∈ lw_tbl := List.mem_of_getElem? (i := 1002) (by decide +kernel)
theorem mi_Mo_distance : Cond.instanceMethod y_Mo_distance ∈ lw_tbl := List.mem_of_getElem? (i := 1004) (by decide +kernel)
theorem mw_Mo_158 : ma_w R_Mo 158 y_Mo_least c_Mo_least 2 (some .int) 2 := ⟨Or.inl (List.mem_of_getElem? (i := 1006) (by decide +kernel)), List.mem_of_getElem? (i := 39) (by decide +kernel), List.mem_of_getElem? (i := 1008) (by decide +kernel), ⟨by decide +kernel, by decide +kernel⟩, by decide +kernel⟩
theorem ml_Mo_158 : Cond.methodLink R_Mo 158 y_Mo_least ∈ lw_tbl := List.mem_of_getElem? (i := 1006) (by decide +kernel)
theorem mst_Mo_least : Cond.static y_Mo_least ∈ lw_tbl := List.mem_of_getElem? (i := 1007) (by decide +kernel)
theorem mw_Mo_178 : ma_w R_Mo 178 y_Mo_apartMark c_Mo_apartMark 3 (some .int) 1 := ⟨Or.inl (List.mem_of_getElem? (i := 1009) (by decide +kernel)), List.mem_of_getElem? (i := 39) (by decide +kernel), List.mem_of_getElem? (i := 1012) (by decide +kernel), ⟨by decide +kernel, by decide +kernel⟩, by decide +kernel⟩
theorem ml_Mo_178 : Cond.methodLink R_Mo 178 y_Mo_apartMark ∈ lw_tbl := List.mem_of_getElem? (i := 1009) (by decide +kernel)
theorem mi_Mo_apartMark : Cond.instanceMethod y_Mo_apartMark ∈ lw_tbl := List.mem_of_getElem? (i := 1011) (by decide +kernel)
theorem mw_Mo_181 : ma_w R_Mo 181 y_Mo_isFound c_Mo_isFound 3 (some .boolean) 1 := ⟨Or.inl (List.mem_of_getElem? (i := 1013) (by decide +kernel)), List.mem_of_getElem? (i := 39) (by decide +kernel), List.mem_of_getElem? (i := 1016) (by decide +kernel), ⟨by decide +kernel, by decide +kernel⟩, by decide +kernel⟩
theorem ml_Mo_181 : Cond.methodLink R_Mo 181 y_Mo_isFound ∈ lw_tbl := List.mem_of_getElem? (i := 1013) (by decide +kernel)
theorem mi_Mo_isFound : Cond.instanceMethod y_Mo_isFound ∈ lw_tbl := List.mem_of_getElem? (i := 1015) (by decide +kernel)
theorem mw_La_130 : ma_w R_La 130 y_Mo_place c_Mo_place 7 (some .int) 2 := ⟨Or.inl (List.mem_of_getElem? (i := 1017) (by decide +kernel)), List.mem_of_getElem? (i := 39) (by decide +kernel), List.mem_of_getElem? (i := 1020) (by decide +kernel), ⟨by decide +kernel, by decide +kernel⟩, by decide +kernel⟩
theorem ml_La_130 : Cond.methodLink R_La 130 y_Mo_place ∈ lw_tbl := List.mem_of_getElem? (i := 1017) (by decide +kernel)
theorem mi_Mo_place : Cond.instanceMethod y_Mo_place ∈ lw_tbl := List.mem_of_getElem? (i := 1018) (by decide +kernel)
theorem mw_Mo_187 : ma_w R_Mo 187 y_Mo_reason c_Mo_reason 2 (some .int) 1 := ⟨Or.inl (List.mem_of_getElem? (i := 1021) (by decide +kernel)), List.mem_of_getElem? (i := 39) (by decide +kernel), List.mem_of_getElem? (i := 1024) (by decide +kernel), ⟨by decide +kernel, by decide +kernel⟩, by decide +kernel⟩
theorem ml_Mo_187 : Cond.methodLink R_Mo 187 y_Mo_reason ∈ lw_tbl := List.mem_of_getElem? (i := 1021) (by decide +kernel)
theorem mi_Mo_reason : Cond.instanceMethod y_Mo_reason ∈ lw_tbl := List.mem_of_getElem? (i := 1023) (by decide +kernel)
theorem mw_Mo_184 : ma_w R_Mo 184 y_Mo_isHouse c_Mo_isHouse 4 (some .boolean) 2 := ⟨Or.inl (List.mem_of_getElem? (i := 1025) (by decide +kernel)), List.mem_of_getElem? (i := 39) (by decide +kernel), List.mem_of_getElem? (i := 1028) (by decide +kernel), ⟨by decide +kernel, by decide +kernel⟩, by decide +kernel⟩
theorem ml_Mo_184 : Cond.methodLink R_Mo 184 y_Mo_isHouse ∈ lw_tbl := List.mem_of_getElem? (i := 1025) (by decide +kernel)
theorem mi_Mo_isHouse : Cond.instanceMethod y_Mo_isHouse ∈ lw_tbl := List.mem_of_getElem? (i := 1027) (by decide +kernel)
theorem mw_Mo_190 : ma_w R_Mo 190 y_Mo_nearestHouse c_Mo_nearestHouse 4 (some .int) 2 := ⟨Or.inl (List.mem_of_getElem? (i := 1029) (by decide +kernel)), List.mem_of_getElem? (i := 39) (by decide +kernel), List.mem_of_getElem? (i := 1032) (by decide +kernel), ⟨by decide +kernel, by decide +kernel⟩, by decide +kernel⟩
theorem ml_Mo_190 : Cond.methodLink R_Mo 190 y_Mo_nearestHouse ∈ lw_tbl := List.mem_of_getElem? (i := 1029) (by decide +kernel)
theorem mi_Mo_nearestHouse : Cond.instanceMethod y_Mo_nearestHouse ∈ lw_tbl := List.mem_of_getElem? (i := 1031) (by decide +kernel)
theorem mw_La_134 : ma_w R_La 134 y_Mo_twice c_Mo_twice 5 (some .int) 0 := ⟨Or.inl (List.mem_of_getElem? (i := 1033) (by decide +kernel)), List.mem_of_getElem? (i := 39) (by decide +kernel), List.mem_of_getElem? (i := 1036) (by decide +kernel), ⟨by decide +kernel, by decide +kernel⟩, by decide +kernel⟩
theorem ml_La_134 : Cond.methodLink R_La 134 y_Mo_twice ∈ lw_tbl := List.mem_of_getElem? (i := 1033) (by decide +kernel)
theorem mi_Mo_twice : Cond.instanceMethod y_Mo_twice ∈ lw_tbl := List.mem_of_getElem? (i := 1034) (by decide +kernel)
theorem mw_Mo_196 : ma_w R_Mo 196 y_Mo_share c_Mo_share 5 (some .boolean) 2 := ⟨Or.inl (List.mem_of_getElem? (i := 1037) (by decide +kernel)), List.mem_of_getElem? (i := 39) (by decide +kernel), List.mem_of_getElem? (i := 1040) (by decide +kernel), ⟨by decide +kernel, by decide +kernel⟩, by decide +kernel⟩
theorem ml_Mo_196 : Cond.methodLink R_Mo 196 y_Mo_share ∈ lw_tbl := List.mem_of_getElem? (i := 1037) (by decide +kernel)
theorem mi_Mo_share : Cond.instanceMethod y_Mo_share ∈ lw_tbl := List.mem_of_getElem? (i := 1039) (by decide +kernel)
theorem mw_Mo_193 : ma_w R_Mo 193 y_Mo_isSame c_Mo_isSame 5 (some .boolean) 2 := ⟨Or.inl (List.mem_of_getElem? (i := 1041) (by decide +kernel)), List.mem_of_getElem? (i := 39) (by decide +kernel), List.mem_of_getElem? (i := 1044) (by decide +kernel), ⟨by decide +kernel, by decide +kernel⟩, by decide +kernel⟩
theorem ml_Mo_193 : Cond.methodLink R_Mo 193 y_Mo_isSame ∈ lw_tbl := List.mem_of_getElem? (i := 1041) (by decide +kernel)
theorem mi_Mo_isSame : Cond.instanceMethod y_Mo_isSame ∈ lw_tbl := List.mem_of_getElem? (i := 1043) (by decide +kernel)
theorem kc_La_82 : Cond.constantLong R_La 82 4294967295 ∈ lw_tbl := List.mem_of_getElem? (i := 1045) (by decide +kernel)
theorem ac_long : Cond.arrayClass .long ∈ lw_tbl := List.mem_of_getElem? (i := 1046) (by decide +kernel)
theorem se_AW_sharesName : Cond.selects R_AW y_AW_sharesName y_AW_sharesName ∈ lw_tbl := List.mem_of_getElem? (i := 0) (by decide +kernel)
theorem se_St_hasName : Cond.selects R_St y_St_hasName y_St_hasName ∈ lw_tbl := List.mem_of_getElem? (i := 1) (by decide +kernel)
theorem se_AW_forgetPlaces : Cond.selects R_AW y_AW_forgetPlaces y_AW_forgetPlaces ∈ lw_tbl := List.mem_of_getElem? (i := 3) (by decide +kernel)
theorem se_AW_knownStreet : Cond.selects R_AW y_AW_knownStreet y_AW_knownStreet ∈ lw_tbl := List.mem_of_getElem? (i := 4) (by decide +kernel)
theorem se_AW_hasLandmarkNamed : Cond.selects R_AW y_AW_hasLandmarkNamed y_AW_hasLandmarkNamed ∈ lw_tbl := List.mem_of_getElem? (i := 5) (by decide +kernel)
theorem se_AW_metresOfCorner : Cond.selects R_AW y_AW_metresOfCorner y_AW_metresOfCorner ∈ lw_tbl := List.mem_of_getElem? (i := 6) (by decide +kernel)
theorem se_Sa_takeLetter : Cond.selects R_Sa y_Sa_takeLetter y_Sa_takeLetter ∈ lw_tbl := List.mem_of_getElem? (i := 7) (by decide +kernel)
theorem se_Sa_takeDigit : Cond.selects R_Sa y_Sa_takeDigit y_Sa_takeDigit ∈ lw_tbl := List.mem_of_getElem? (i := 8) (by decide +kernel)
theorem se_AW_rank : Cond.selects R_AW y_AW_rank y_AW_rank ∈ lw_tbl := List.mem_of_getElem? (i := 9) (by decide +kernel)
theorem se_AW_distanceOfStreet : Cond.selects R_AW y_AW_distanceOfStreet y_AW_distanceOfStreet ∈ lw_tbl := List.mem_of_getElem? (i := 10) (by decide +kernel)
theorem se_AW_nearerDistance : Cond.selects R_AW y_AW_nearerDistance y_AW_nearerDistance ∈ lw_tbl := List.mem_of_getElem? (i := 11) (by decide +kernel)
theorem se_Ed_turnRows : Cond.selects R_Ed y_Ed_turnRows y_Ed_turnRows ∈ lw_tbl := List.mem_of_getElem? (i := 12) (by decide +kernel)
theorem se_Ed_fillRow : Cond.selects R_Ed y_Ed_fillRow y_Ed_fillRow ∈ lw_tbl := List.mem_of_getElem? (i := 13) (by decide +kernel)
theorem se_AW_tellCandidate : Cond.selects R_AW y_AW_tellCandidate y_AW_tellCandidate ∈ lw_tbl := List.mem_of_getElem? (i := 14) (by decide +kernel)
theorem se_AW_tellLandmark : Cond.selects R_AW y_AW_tellLandmark y_AW_tellLandmark ∈ lw_tbl := List.mem_of_getElem? (i := 15) (by decide +kernel)
theorem se_AW_tellWhere : Cond.selects R_AW y_AW_tellWhere y_AW_tellWhere ∈ lw_tbl := List.mem_of_getElem? (i := 16) (by decide +kernel)
theorem se_AW_tellStreet : Cond.selects R_AW y_AW_tellStreet y_AW_tellStreet ∈ lw_tbl := List.mem_of_getElem? (i := 17) (by decide +kernel)
theorem se_Mo_goes : Cond.selects R_Mo y_Mo_goes y_Mo_goes ∈ lw_tbl := List.mem_of_getElem? (i := 18) (by decide +kernel)
theorem se_Mo_isStreet : Cond.selects R_Mo y_Mo_isStreet y_Mo_isStreet ∈ lw_tbl := List.mem_of_getElem? (i := 19) (by decide +kernel)
theorem se_Mo_hasMark : Cond.selects R_Mo y_Mo_hasMark y_Mo_hasMark ∈ lw_tbl := List.mem_of_getElem? (i := 20) (by decide +kernel)
theorem se_Mo_cornerOf : Cond.selects R_Mo y_Mo_cornerOf y_Mo_cornerOf ∈ lw_tbl := List.mem_of_getElem? (i := 21) (by decide +kernel)
theorem se_Mo_houseSaid : Cond.selects R_Mo y_Mo_houseSaid y_Mo_houseSaid ∈ lw_tbl := List.mem_of_getElem? (i := 22) (by decide +kernel)
theorem se_Mo_apartStreet : Cond.selects R_Mo y_Mo_apartStreet y_Mo_apartStreet ∈ lw_tbl := List.mem_of_getElem? (i := 23) (by decide +kernel)
theorem se_Mo_nearest : Cond.selects R_Mo y_Mo_nearest y_Mo_nearest ∈ lw_tbl := List.mem_of_getElem? (i := 24) (by decide +kernel)
theorem se_Mo_distance : Cond.selects R_Mo y_Mo_distance y_Mo_distance ∈ lw_tbl := List.mem_of_getElem? (i := 25) (by decide +kernel)
theorem se_Mo_apartMark : Cond.selects R_Mo y_Mo_apartMark y_Mo_apartMark ∈ lw_tbl := List.mem_of_getElem? (i := 26) (by decide +kernel)
theorem se_Mo_isFound : Cond.selects R_Mo y_Mo_isFound y_Mo_isFound ∈ lw_tbl := List.mem_of_getElem? (i := 27) (by decide +kernel)
theorem se_Mo_reason : Cond.selects R_Mo y_Mo_reason y_Mo_reason ∈ lw_tbl := List.mem_of_getElem? (i := 28) (by decide +kernel)
theorem se_Mo_isHouse : Cond.selects R_Mo y_Mo_isHouse y_Mo_isHouse ∈ lw_tbl := List.mem_of_getElem? (i := 29) (by decide +kernel)
theorem se_Mo_nearestHouse : Cond.selects R_Mo y_Mo_nearestHouse y_Mo_nearestHouse ∈ lw_tbl := List.mem_of_getElem? (i := 30) (by decide +kernel)
theorem se_Mo_share : Cond.selects R_Mo y_Mo_share y_Mo_share ∈ lw_tbl := List.mem_of_getElem? (i := 31) (by decide +kernel)
theorem se_Mo_isSame : Cond.selects R_Mo y_Mo_isSame y_Mo_isSame ∈ lw_tbl := List.mem_of_getElem? (i := 32) (by decide +kernel)
theorem se_AW_twice : Cond.selects R_AW y_AW_twice y_AW_twice ∈ lw_tbl := List.mem_of_getElem? (i := 206) (by decide +kernel)
theorem se_St_sharesNameWith : Cond.selects R_St y_St_sharesNameWith y_St_sharesNameWith ∈ lw_tbl := List.mem_of_getElem? (i := 214) (by decide +kernel)
theorem se_Na_isEmpty : Cond.selects R_Na y_Na_isEmpty y_Na_isEmpty ∈ lw_tbl := List.mem_of_getElem? (i := 223) (by decide +kernel)
theorem se_Na_isSameAs : Cond.selects R_Na y_Na_isSameAs y_Na_isSameAs ∈ lw_tbl := List.mem_of_getElem? (i := 227) (by decide +kernel)
theorem se_AW_street : Cond.selects R_AW y_AW_street y_AW_street ∈ lw_tbl := List.mem_of_getElem? (i := 236) (by decide +kernel)
theorem se_AW_sign : Cond.selects R_AW y_AW_sign y_AW_sign ∈ lw_tbl := List.mem_of_getElem? (i := 400) (by decide +kernel)
theorem se_St_latestName : Cond.selects R_St y_St_latestName y_St_latestName ∈ lw_tbl := List.mem_of_getElem? (i := 424) (by decide +kernel)
theorem se_Na_hasRoomFor : Cond.selects R_Na y_Na_hasRoomFor y_Na_hasRoomFor ∈ lw_tbl := List.mem_of_getElem? (i := 440) (by decide +kernel)
theorem se_Na_append : Cond.selects R_Na y_Na_append y_Na_append ∈ lw_tbl := List.mem_of_getElem? (i := 445) (by decide +kernel)
theorem se_AW_alias : Cond.selects R_AW y_AW_alias y_AW_alias ∈ lw_tbl := List.mem_of_getElem? (i := 454) (by decide +kernel)
theorem se_AW_range : Cond.selects R_AW y_AW_range y_AW_range ∈ lw_tbl := List.mem_of_getElem? (i := 479) (by decide +kernel)
theorem se_AW_line : Cond.selects R_AW y_AW_line y_AW_line ∈ lw_tbl := List.mem_of_getElem? (i := 523) (by decide +kernel)
theorem se_St_draw : Cond.selects R_St y_St_draw y_St_draw ∈ lw_tbl := List.mem_of_getElem? (i := 531) (by decide +kernel)
theorem se_AW_close : Cond.selects R_AW y_AW_close y_AW_close ∈ lw_tbl := List.mem_of_getElem? (i := 544) (by decide +kernel)
theorem se_AW_landmark : Cond.selects R_AW y_AW_landmark y_AW_landmark ∈ lw_tbl := List.mem_of_getElem? (i := 551) (by decide +kernel)
theorem se_AW_meet : Cond.selects R_AW y_AW_meet y_AW_meet ∈ lw_tbl := List.mem_of_getElem? (i := 585) (by decide +kernel)
theorem se_AW_corner : Cond.selects R_AW y_AW_corner y_AW_corner ∈ lw_tbl := List.mem_of_getElem? (i := 625) (by decide +kernel)
theorem se_AW_post : Cond.selects R_AW y_AW_post y_AW_post ∈ lw_tbl := List.mem_of_getElem? (i := 632) (by decide +kernel)
theorem se_St_between : Cond.selects R_St y_St_between y_St_between ∈ lw_tbl := List.mem_of_getElem? (i := 636) (by decide +kernel)
theorem se_AW_near : Cond.selects R_AW y_AW_near y_AW_near ∈ lw_tbl := List.mem_of_getElem? (i := 646) (by decide +kernel)
theorem se_AW_word : Cond.selects R_AW y_AW_word y_AW_word ∈ lw_tbl := List.mem_of_getElem? (i := 654) (by decide +kernel)
theorem se_Sa_hasRoomFor : Cond.selects R_Sa y_Sa_hasRoomFor y_Sa_hasRoomFor ∈ lw_tbl := List.mem_of_getElem? (i := 666) (by decide +kernel)
theorem se_Sa_clear : Cond.selects R_Sa y_Sa_clear y_Sa_clear ∈ lw_tbl := List.mem_of_getElem? (i := 671) (by decide +kernel)
theorem se_Sa_append : Cond.selects R_Sa y_Sa_append y_Sa_append ∈ lw_tbl := List.mem_of_getElem? (i := 675) (by decide +kernel)
theorem se_AW_find : Cond.selects R_AW y_AW_find y_AW_find ∈ lw_tbl := List.mem_of_getElem? (i := 683) (by decide +kernel)
theorem se_Sa_lookThrough : Cond.selects R_Sa y_Sa_lookThrough y_Sa_lookThrough ∈ lw_tbl := List.mem_of_getElem? (i := 689) (by decide +kernel)
theorem se_Ra_begin : Cond.selects R_Ra y_Ra_begin y_Ra_begin ∈ lw_tbl := List.mem_of_getElem? (i := 707) (by decide +kernel)
theorem se_Ed_count : Cond.selects R_Ed y_Ed_count y_Ed_count ∈ lw_tbl := List.mem_of_getElem? (i := 722) (by decide +kernel)
theorem se_Ra_offer : Cond.selects R_Ra y_Ra_offer y_Ra_offer ∈ lw_tbl := List.mem_of_getElem? (i := 738) (by decide +kernel)
theorem se_St_hasHouse : Cond.selects R_St y_St_hasHouse y_St_hasHouse ∈ lw_tbl := List.mem_of_getElem? (i := 758) (by decide +kernel)
theorem se_St_nearestHouse : Cond.selects R_St y_St_nearestHouse y_St_nearestHouse ∈ lw_tbl := List.mem_of_getElem? (i := 762) (by decide +kernel)
theorem se_HR_nearestTo : Cond.selects R_HR y_HR_nearestTo y_HR_nearestTo ∈ lw_tbl := List.mem_of_getElem? (i := 766) (by decide +kernel)
theorem se_AW_place : Cond.selects R_AW y_AW_place y_AW_place ∈ lw_tbl := List.mem_of_getElem? (i := 778) (by decide +kernel)
theorem se_Mo_thrown : Cond.selects R_Mo y_Mo_thrown y_Mo_thrown ∈ lw_tbl := List.mem_of_getElem? (i := 897) (by decide +kernel)
theorem se_Mo_street : Cond.selects R_Mo y_Mo_street y_Mo_street ∈ lw_tbl := List.mem_of_getElem? (i := 901) (by decide +kernel)
theorem se_Mo_sign : Cond.selects R_Mo y_Mo_sign y_Mo_sign ∈ lw_tbl := List.mem_of_getElem? (i := 912) (by decide +kernel)
theorem se_Mo_alias : Cond.selects R_Mo y_Mo_alias y_Mo_alias ∈ lw_tbl := List.mem_of_getElem? (i := 926) (by decide +kernel)
theorem se_Mo_range : Cond.selects R_Mo y_Mo_range y_Mo_range ∈ lw_tbl := List.mem_of_getElem? (i := 930) (by decide +kernel)
theorem se_Mo_line : Cond.selects R_Mo y_Mo_line y_Mo_line ∈ lw_tbl := List.mem_of_getElem? (i := 937) (by decide +kernel)
theorem se_Mo_close : Cond.selects R_Mo y_Mo_close y_Mo_close ∈ lw_tbl := List.mem_of_getElem? (i := 945) (by decide +kernel)
theorem se_Mo_landmark : Cond.selects R_Mo y_Mo_landmark y_Mo_landmark ∈ lw_tbl := List.mem_of_getElem? (i := 949) (by decide +kernel)
theorem se_Mo_meet : Cond.selects R_Mo y_Mo_meet y_Mo_meet ∈ lw_tbl := List.mem_of_getElem? (i := 957) (by decide +kernel)
theorem se_Mo_corner : Cond.selects R_Mo y_Mo_corner y_Mo_corner ∈ lw_tbl := List.mem_of_getElem? (i := 965) (by decide +kernel)
theorem se_Mo_post : Cond.selects R_Mo y_Mo_post y_Mo_post ∈ lw_tbl := List.mem_of_getElem? (i := 969) (by decide +kernel)
theorem se_Mo_near : Cond.selects R_Mo y_Mo_near y_Mo_near ∈ lw_tbl := List.mem_of_getElem? (i := 977) (by decide +kernel)
theorem se_Mo_word : Cond.selects R_Mo y_Mo_word y_Mo_word ∈ lw_tbl := List.mem_of_getElem? (i := 981) (by decide +kernel)
theorem se_Mo_find : Cond.selects R_Mo y_Mo_find y_Mo_find ∈ lw_tbl := List.mem_of_getElem? (i := 988) (by decide +kernel)
theorem se_Mo_place : Cond.selects R_Mo y_Mo_place y_Mo_place ∈ lw_tbl := List.mem_of_getElem? (i := 1019) (by decide +kernel)
theorem se_Mo_twice : Cond.selects R_Mo y_Mo_twice y_Mo_twice ∈ lw_tbl := List.mem_of_getElem? (i := 1035) (by decide +kernel)
