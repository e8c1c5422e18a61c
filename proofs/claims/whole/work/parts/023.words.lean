set_option maxRecDepth 20000 in
theorem ci_X3_11 : CLI RX3 11 yX8_init 0 := ⟨lw_g_in (List.mem_of_getElem? (i := 391) (by decide +kernel)) rfl, lw_g_in (List.mem_of_getElem? (i := 392) (by decide +kernel)) rfl, lw_g_in (List.mem_of_getElem? (i := 133) (by decide +kernel)) rfl, by decide +kernel⟩
set_option maxRecDepth 20000 in
theorem cv_X3_34 : CLV RX3 34 7 yX8_cut 2 := ⟨TX8, 4, rfl, lw_g_in (List.mem_of_getElem? (i := 524) (by decide +kernel)) rfl, lw_g_in (List.mem_of_getElem? (i := 525) (by decide +kernel)) rfl, lw_g_in (List.mem_of_getElem? (i := 526) (by decide +kernel)) rfl, lw_g_in (List.mem_of_getElem? (i := 133) (by decide +kernel)) rfl, by decide +kernel⟩
set_option maxRecDepth 20000 in
theorem cv_X3_51 : CLV RX3 51 7 yX8_sort 1 := ⟨TX8, 4, rfl, lw_g_in (List.mem_of_getElem? (i := 607) (by decide +kernel)) rfl, lw_g_in (List.mem_of_getElem? (i := 608) (by decide +kernel)) rfl, lw_g_in (List.mem_of_getElem? (i := 609) (by decide +kernel)) rfl, lw_g_in (List.mem_of_getElem? (i := 133) (by decide +kernel)) rfl, by decide +kernel⟩
set_option maxRecDepth 20000 in
theorem cv_X3_55 : CLV RX3 55 2 yX3_clause 0 := ⟨TX3, 11, rfl, lw_g_in (List.mem_of_getElem? (i := 611) (by decide +kernel)) rfl, lw_g_in (List.mem_of_getElem? (i := 613) (by decide +kernel)) rfl, lw_g_in (List.mem_of_getElem? (i := 2) (by decide +kernel)) rfl, lw_g_in (List.mem_of_getElem? (i := 132) (by decide +kernel)) rfl, by decide +kernel⟩
set_option maxRecDepth 20000 in
theorem cs_X3_61 : CLS RX3 61 yJ7_copyOf_59c91 2 := ⟨lw_g_in (List.mem_of_getElem? (i := 675) (by decide +kernel)) rfl, lw_g_in (List.mem_of_getElem? (i := 676) (by decide +kernel)) rfl, lw_g_in (List.mem_of_getElem? (i := 139) (by decide +kernel)) rfl, by decide +kernel⟩
set_option maxRecDepth 20000 in
theorem ci_X3_67 : CLI RX3 67 yX7_init 3 := ⟨lw_g_in (List.mem_of_getElem? (i := 704) (by decide +kernel)) rfl, lw_g_in (List.mem_of_getElem? (i := 705) (by decide +kernel)) rfl, lw_g_in (List.mem_of_getElem? (i := 141) (by decide +kernel)) rfl, by decide +kernel⟩
set_option maxRecDepth 20000 in
theorem cv_X3_70 : CLV RX3 70 7 yX8_place 1 := ⟨TX8, 4, rfl, lw_g_in (List.mem_of_getElem? (i := 619) (by decide +kernel)) rfl, lw_g_in (List.mem_of_getElem? (i := 620) (by decide +kernel)) rfl, lw_g_in (List.mem_of_getElem? (i := 621) (by decide +kernel)) rfl, lw_g_in (List.mem_of_getElem? (i := 133) (by decide +kernel)) rfl, by decide +kernel⟩
set_option maxRecDepth 20000 in
theorem cv_X3_73 : CLV RX3 73 2 yX3_refuse 1 := ⟨TX3, 11, rfl, lw_g_in (List.mem_of_getElem? (i := 615) (by decide +kernel)) rfl, lw_g_in (List.mem_of_getElem? (i := 617) (by decide +kernel)) rfl, lw_g_in (List.mem_of_getElem? (i := 3) (by decide +kernel)) rfl, lw_g_in (List.mem_of_getElem? (i := 132) (by decide +kernel)) rfl, by decide +kernel⟩
set_option maxRecDepth 20000 in
theorem cv_X3_77 : CLV RX3 77 2 yX3_lawClause 1 := ⟨TX3, 11, rfl, lw_g_in (List.mem_of_getElem? (i := 623) (by decide +kernel)) rfl, lw_g_in (List.mem_of_getElem? (i := 625) (by decide +kernel)) rfl, lw_g_in (List.mem_of_getElem? (i := 4) (by decide +kernel)) rfl, lw_g_in (List.mem_of_getElem? (i := 132) (by decide +kernel)) rfl, by decide +kernel⟩
set_option maxRecDepth 20000 in
theorem cv_X3_80 : CLV RX3 80 2 yX3_deedClause 1 := ⟨TX3, 11, rfl, lw_g_in (List.mem_of_getElem? (i := 693) (by decide +kernel)) rfl, lw_g_in (List.mem_of_getElem? (i := 695) (by decide +kernel)) rfl, lw_g_in (List.mem_of_getElem? (i := 17) (by decide +kernel)) rfl, lw_g_in (List.mem_of_getElem? (i := 132) (by decide +kernel)) rfl, by decide +kernel⟩
set_option maxRecDepth 20000 in
theorem cv_X3_89 : CLV RX3 89 2 yX3_sum 1 := ⟨TX3, 11, rfl, lw_g_in (List.mem_of_getElem? (i := 627) (by decide +kernel)) rfl, lw_g_in (List.mem_of_getElem? (i := 629) (by decide +kernel)) rfl, lw_g_in (List.mem_of_getElem? (i := 5) (by decide +kernel)) rfl, lw_g_in (List.mem_of_getElem? (i := 132) (by decide +kernel)) rfl, by decide +kernel⟩
set_option maxRecDepth 20000 in
theorem cv_X3_92 : CLV RX3 92 2 yX3_take 1 := ⟨TX3, 11, rfl, lw_g_in (List.mem_of_getElem? (i := 651) (by decide +kernel)) rfl, lw_g_in (List.mem_of_getElem? (i := 653) (by decide +kernel)) rfl, lw_g_in (List.mem_of_getElem? (i := 10) (by decide +kernel)) rfl, lw_g_in (List.mem_of_getElem? (i := 132) (by decide +kernel)) rfl, by decide +kernel⟩
set_option maxRecDepth 20000 in
theorem cv_X3_95 : CLV RX3 95 2 yX3_addClause 3 := ⟨TX3, 11, rfl, lw_g_in (List.mem_of_getElem? (i := 689) (by decide +kernel)) rfl, lw_g_in (List.mem_of_getElem? (i := 691) (by decide +kernel)) rfl, lw_g_in (List.mem_of_getElem? (i := 16) (by decide +kernel)) rfl, lw_g_in (List.mem_of_getElem? (i := 132) (by decide +kernel)) rfl, by decide +kernel⟩
set_option maxRecDepth 20000 in
theorem cv_X3_99 : CLV RX3 99 2 yX3_number 2 := ⟨TX3, 11, rfl, lw_g_in (List.mem_of_getElem? (i := 697) (by decide +kernel)) rfl, lw_g_in (List.mem_of_getElem? (i := 699) (by decide +kernel)) rfl, lw_g_in (List.mem_of_getElem? (i := 18) (by decide +kernel)) rfl, lw_g_in (List.mem_of_getElem? (i := 132) (by decide +kernel)) rfl, by decide +kernel⟩
set_option maxRecDepth 20000 in
theorem cs_X3_103 : CLS RX3 103 yJ9_max_7cf53 2 := ⟨lw_g_in (List.mem_of_getElem? (i := 701) (by decide +kernel)) rfl, lw_g_in (List.mem_of_getElem? (i := 240) (by decide +kernel)) rfl, lw_g_in (List.mem_of_getElem? (i := 129) (by decide +kernel)) rfl, by decide +kernel⟩
set_option maxRecDepth 20000 in
theorem cv_X3_108 : CLV RX3 108 7 yX8_value 1 := ⟨TX8, 4, rfl, lw_g_in (List.mem_of_getElem? (i := 639) (by decide +kernel)) rfl, lw_g_in (List.mem_of_getElem? (i := 640) (by decide +kernel)) rfl, lw_g_in (List.mem_of_getElem? (i := 641) (by decide +kernel)) rfl, lw_g_in (List.mem_of_getElem? (i := 133) (by decide +kernel)) rfl, by decide +kernel⟩
set_option maxRecDepth 20000 in
theorem cv_X3_111 : CLV RX3 111 2 yX3_product 1 := ⟨TX3, 11, rfl, lw_g_in (List.mem_of_getElem? (i := 631) (by decide +kernel)) rfl, lw_g_in (List.mem_of_getElem? (i := 633) (by decide +kernel)) rfl, lw_g_in (List.mem_of_getElem? (i := 6) (by decide +kernel)) rfl, lw_g_in (List.mem_of_getElem? (i := 132) (by decide +kernel)) rfl, by decide +kernel⟩
set_option maxRecDepth 20000 in
theorem cv_X3_114 : CLV RX3 114 2 yX3_emit 2 := ⟨TX3, 11, rfl, lw_g_in (List.mem_of_getElem? (i := 647) (by decide +kernel)) rfl, lw_g_in (List.mem_of_getElem? (i := 649) (by decide +kernel)) rfl, lw_g_in (List.mem_of_getElem? (i := 9) (by decide +kernel)) rfl, lw_g_in (List.mem_of_getElem? (i := 132) (by decide +kernel)) rfl, by decide +kernel⟩
set_option maxRecDepth 20000 in
theorem cv_X3_118 : CLV RX3 118 2 yX3_one 1 := ⟨TX3, 11, rfl, lw_g_in (List.mem_of_getElem? (i := 635) (by decide +kernel)) rfl, lw_g_in (List.mem_of_getElem? (i := 637) (by decide +kernel)) rfl, lw_g_in (List.mem_of_getElem? (i := 7) (by decide +kernel)) rfl, lw_g_in (List.mem_of_getElem? (i := 132) (by decide +kernel)) rfl, by decide +kernel⟩
set_option maxRecDepth 20000 in
theorem cv_X3_121 : CLV RX3 121 2 yX3_name 1 := ⟨TX3, 11, rfl, lw_g_in (List.mem_of_getElem? (i := 643) (by decide +kernel)) rfl, lw_g_in (List.mem_of_getElem? (i := 645) (by decide +kernel)) rfl, lw_g_in (List.mem_of_getElem? (i := 8) (by decide +kernel)) rfl, lw_g_in (List.mem_of_getElem? (i := 132) (by decide +kernel)) rfl, by decide +kernel⟩
set_option maxRecDepth 20000 in
theorem cv_X3_124 : CLV RX3 124 2 yX3_choice 1 := ⟨TX3, 11, rfl, lw_g_in (List.mem_of_getElem? (i := 655) (by decide +kernel)) rfl, lw_g_in (List.mem_of_getElem? (i := 657) (by decide +kernel)) rfl, lw_g_in (List.mem_of_getElem? (i := 11) (by decide +kernel)) rfl, lw_g_in (List.mem_of_getElem? (i := 132) (by decide +kernel)) rfl, by decide +kernel⟩
set_option maxRecDepth 20000 in
theorem cv_X3_127 : CLV RX3 127 2 yX3_either 1 := ⟨TX3, 11, rfl, lw_g_in (List.mem_of_getElem? (i := 659) (by decide +kernel)) rfl, lw_g_in (List.mem_of_getElem? (i := 661) (by decide +kernel)) rfl, lw_g_in (List.mem_of_getElem? (i := 12) (by decide +kernel)) rfl, lw_g_in (List.mem_of_getElem? (i := 132) (by decide +kernel)) rfl, by decide +kernel⟩
set_option maxRecDepth 20000 in
theorem cv_X3_130 : CLV RX3 130 2 yX3_landHere 1 := ⟨TX3, 11, rfl, lw_g_in (List.mem_of_getElem? (i := 671) (by decide +kernel)) rfl, lw_g_in (List.mem_of_getElem? (i := 673) (by decide +kernel)) rfl, lw_g_in (List.mem_of_getElem? (i := 15) (by decide +kernel)) rfl, lw_g_in (List.mem_of_getElem? (i := 132) (by decide +kernel)) rfl, by decide +kernel⟩
set_option maxRecDepth 20000 in
theorem cv_X3_134 : CLV RX3 134 2 yX3_both 1 := ⟨TX3, 11, rfl, lw_g_in (List.mem_of_getElem? (i := 663) (by decide +kernel)) rfl, lw_g_in (List.mem_of_getElem? (i := 665) (by decide +kernel)) rfl, lw_g_in (List.mem_of_getElem? (i := 13) (by decide +kernel)) rfl, lw_g_in (List.mem_of_getElem? (i := 132) (by decide +kernel)) rfl, by decide +kernel⟩
set_option maxRecDepth 20000 in
theorem cv_X3_137 : CLV RX3 137 2 yX3_ask 1 := ⟨TX3, 11, rfl, lw_g_in (List.mem_of_getElem? (i := 667) (by decide +kernel)) rfl, lw_g_in (List.mem_of_getElem? (i := 669) (by decide +kernel)) rfl, lw_g_in (List.mem_of_getElem? (i := 14) (by decide +kernel)) rfl, lw_g_in (List.mem_of_getElem? (i := 132) (by decide +kernel)) rfl, by decide +kernel⟩
set_option maxRecDepth 20000 in
theorem cs_X4_9 : CLS RX4 9 yJ9_max_7cf53 2 := ⟨lw_g_in (List.mem_of_getElem? (i := 239) (by decide +kernel)) rfl, lw_g_in (List.mem_of_getElem? (i := 240) (by decide +kernel)) rfl, lw_g_in (List.mem_of_getElem? (i := 129) (by decide +kernel)) rfl, by decide +kernel⟩
set_option maxRecDepth 20000 in
theorem cv_X4_28 : CLV RX4 28 3 yX4_get 2 := ⟨TX4, 3, rfl, lw_g_in (List.mem_of_getElem? (i := 1067) (by decide +kernel)) rfl, lw_g_in (List.mem_of_getElem? (i := 754) (by decide +kernel)) rfl, lw_g_in (List.mem_of_getElem? (i := 755) (by decide +kernel)) rfl, lw_g_in (List.mem_of_getElem? (i := 128) (by decide +kernel)) rfl, by decide +kernel⟩
set_option maxRecDepth 20000 in
theorem ci_X5_11 : CLI RX5 11 yX9_init 0 := ⟨lw_g_in (List.mem_of_getElem? (i := 160) (by decide +kernel)) rfl, lw_g_in (List.mem_of_getElem? (i := 161) (by decide +kernel)) rfl, lw_g_in (List.mem_of_getElem? (i := 126) (by decide +kernel)) rfl, by decide +kernel⟩
set_option maxRecDepth 20000 in
theorem ci_X5_20 : CLI RX5 20 yX6_init 0 := ⟨lw_g_in (List.mem_of_getElem? (i := 229) (by decide +kernel)) rfl, lw_g_in (List.mem_of_getElem? (i := 230) (by decide +kernel)) rfl, lw_g_in (List.mem_of_getElem? (i := 127) (by decide +kernel)) rfl, by decide +kernel⟩
set_option maxRecDepth 20000 in
theorem cv_X5_36 : CLV RX5 36 4 yX5_step 1 := ⟨TX5, 5, rfl, lw_g_in (List.mem_of_getElem? (i := 761) (by decide +kernel)) rfl, lw_g_in (List.mem_of_getElem? (i := 762) (by decide +kernel)) rfl, lw_g_in (List.mem_of_getElem? (i := 763) (by decide +kernel)) rfl, lw_g_in (List.mem_of_getElem? (i := 125) (by decide +kernel)) rfl, by decide +kernel⟩
set_option maxRecDepth 20000 in
theorem cv_X5_40 : CLV RX5 40 5 yX6_copyFrom 1 := ⟨TX6, 11, rfl, lw_g_in (List.mem_of_getElem? (i := 765) (by decide +kernel)) rfl, lw_g_in (List.mem_of_getElem? (i := 766) (by decide +kernel)) rfl, lw_g_in (List.mem_of_getElem? (i := 767) (by decide +kernel)) rfl, lw_g_in (List.mem_of_getElem? (i := 127) (by decide +kernel)) rfl, by decide +kernel⟩
set_option maxRecDepth 20000 in
theorem cv_X5_44 : CLV RX5 44 8 yX9_copyFrom 1 := ⟨TX9, 15, rfl, lw_g_in (List.mem_of_getElem? (i := 1249) (by decide +kernel)) rfl, lw_g_in (List.mem_of_getElem? (i := 1250) (by decide +kernel)) rfl, lw_g_in (List.mem_of_getElem? (i := 1251) (by decide +kernel)) rfl, lw_g_in (List.mem_of_getElem? (i := 126) (by decide +kernel)) rfl, by decide +kernel⟩
set_option maxRecDepth 20000 in
theorem ci_X6_17 : CLI RX6 17 yX4_init 2 := ⟨lw_g_in (List.mem_of_getElem? (i := 235) (by decide +kernel)) rfl, lw_g_in (List.mem_of_getElem? (i := 236) (by decide +kernel)) rfl, lw_g_in (List.mem_of_getElem? (i := 128) (by decide +kernel)) rfl, by decide +kernel⟩
set_option maxRecDepth 20000 in
theorem cv_X6_42 : CLV RX6 42 5 yX6_stir 0 := ⟨TX6, 11, rfl, lw_g_in (List.mem_of_getElem? (i := 896) (by decide +kernel)) rfl, lw_g_in (List.mem_of_getElem? (i := 897) (by decide +kernel)) rfl, lw_g_in (List.mem_of_getElem? (i := 898) (by decide +kernel)) rfl, lw_g_in (List.mem_of_getElem? (i := 127) (by decide +kernel)) rfl, by decide +kernel⟩
set_option maxRecDepth 20000 in
theorem cv_X6_57 : CLV RX6 57 3 yX4_copyFrom 1 := ⟨TX4, 3, rfl, lw_g_in (List.mem_of_getElem? (i := 769) (by decide +kernel)) rfl, lw_g_in (List.mem_of_getElem? (i := 770) (by decide +kernel)) rfl, lw_g_in (List.mem_of_getElem? (i := 771) (by decide +kernel)) rfl, lw_g_in (List.mem_of_getElem? (i := 128) (by decide +kernel)) rfl, by decide +kernel⟩
set_option maxRecDepth 20000 in
theorem cv_X7_21 : CLV RX7 21 6 yX7_clauseCount 0 := ⟨TX7, 3, rfl, lw_g_in (List.mem_of_getElem? (i := 989) (by decide +kernel)) rfl, lw_g_in (List.mem_of_getElem? (i := 982) (by decide +kernel)) rfl, lw_g_in (List.mem_of_getElem? (i := 983) (by decide +kernel)) rfl, lw_g_in (List.mem_of_getElem? (i := 141) (by decide +kernel)) rfl, by decide +kernel⟩
set_option maxRecDepth 20000 in
theorem cs_X8_21 : CLS RX8 21 yJ9_min_7cf53 2 := ⟨lw_g_in (List.mem_of_getElem? (i := 528) (by decide +kernel)) rfl, lw_g_in (List.mem_of_getElem? (i := 529) (by decide +kernel)) rfl, lw_g_in (List.mem_of_getElem? (i := 129) (by decide +kernel)) rfl, by decide +kernel⟩
set_option maxRecDepth 20000 in
theorem cs_X8_27 : CLS RX8 27 yJ9_max_7cf53 2 := ⟨lw_g_in (List.mem_of_getElem? (i := 531) (by decide +kernel)) rfl, lw_g_in (List.mem_of_getElem? (i := 240) (by decide +kernel)) rfl, lw_g_in (List.mem_of_getElem? (i := 129) (by decide +kernel)) rfl, by decide +kernel⟩
set_option maxRecDepth 20000 in
theorem cs_X8_34 : CLS RX8 34 yX8_tokenEnd 3 := ⟨lw_g_in (List.mem_of_getElem? (i := 532) (by decide +kernel)) rfl, lw_g_in (List.mem_of_getElem? (i := 533) (by decide +kernel)) rfl, lw_g_in (List.mem_of_getElem? (i := 133) (by decide +kernel)) rfl, by decide +kernel⟩
set_option maxRecDepth 20000 in
theorem cs_X8_38 : CLS RX8 38 yX8_isLetter 1 := ⟨lw_g_in (List.mem_of_getElem? (i := 535) (by decide +kernel)) rfl, lw_g_in (List.mem_of_getElem? (i := 536) (by decide +kernel)) rfl, lw_g_in (List.mem_of_getElem? (i := 133) (by decide +kernel)) rfl, by decide +kernel⟩
set_option maxRecDepth 20000 in
theorem cs_X8_42 : CLS RX8 42 yX8_wordSort 3 := ⟨lw_g_in (List.mem_of_getElem? (i := 541) (by decide +kernel)) rfl, lw_g_in (List.mem_of_getElem? (i := 542) (by decide +kernel)) rfl, lw_g_in (List.mem_of_getElem? (i := 133) (by decide +kernel)) rfl, by decide +kernel⟩
set_option maxRecDepth 20000 in
theorem cv_X8_45 : CLV RX8 45 7 yX8_add 3 := ⟨TX8, 4, rfl, lw_g_in (List.mem_of_getElem? (i := 596) (by decide +kernel)) rfl, lw_g_in (List.mem_of_getElem? (i := 598) (by decide +kernel)) rfl, lw_g_in (List.mem_of_getElem? (i := 1) (by decide +kernel)) rfl, lw_g_in (List.mem_of_getElem? (i := 133) (by decide +kernel)) rfl, by decide +kernel⟩
set_option maxRecDepth 20000 in
theorem cs_X8_49 : CLS RX8 49 yX8_isDigit 1 := ⟨lw_g_in (List.mem_of_getElem? (i := 538) (by decide +kernel)) rfl, lw_g_in (List.mem_of_getElem? (i := 539) (by decide +kernel)) rfl, lw_g_in (List.mem_of_getElem? (i := 133) (by decide +kernel)) rfl, by decide +kernel⟩
set_option maxRecDepth 20000 in
theorem cs_X8_52 : CLS RX8 52 yX8_figure 3 := ⟨lw_g_in (List.mem_of_getElem? (i := 600) (by decide +kernel)) rfl, lw_g_in (List.mem_of_getElem? (i := 601) (by decide +kernel)) rfl, lw_g_in (List.mem_of_getElem? (i := 133) (by decide +kernel)) rfl, by decide +kernel⟩
set_option maxRecDepth 20000 in
theorem cs_X8_55 : CLS RX8 55 yX8_signSort 2 := ⟨lw_g_in (List.mem_of_getElem? (i := 603) (by decide +kernel)) rfl, lw_g_in (List.mem_of_getElem? (i := 604) (by decide +kernel)) rfl, lw_g_in (List.mem_of_getElem? (i := 133) (by decide +kernel)) rfl, by decide +kernel⟩
set_option maxRecDepth 20000 in
theorem cs_X8_72 : CLS RX8 72 yX8_isWord 4 := ⟨lw_g_in (List.mem_of_getElem? (i := 593) (by decide +kernel)) rfl, lw_g_in (List.mem_of_getElem? (i := 594) (by decide +kernel)) rfl, lw_g_in (List.mem_of_getElem? (i := 133) (by decide +kernel)) rfl, by decide +kernel⟩
set_option maxRecDepth 20000 in
theorem cv_X9_55 : CLV RX9 55 8 yX9_hasBlock 1 := ⟨TX9, 15, rfl, lw_g_in (List.mem_of_getElem? (i := 786) (by decide +kernel)) rfl, lw_g_in (List.mem_of_getElem? (i := 750) (by decide +kernel)) rfl, lw_g_in (List.mem_of_getElem? (i := 751) (by decide +kernel)) rfl, lw_g_in (List.mem_of_getElem? (i := 126) (by decide +kernel)) rfl, by decide +kernel⟩
set_option maxRecDepth 20000 in
theorem cv_X9_62 : CLV RX9 62 8 yX9_textAt 1 := ⟨TX9, 15, rfl, lw_g_in (List.mem_of_getElem? (i := 904) (by decide +kernel)) rfl, lw_g_in (List.mem_of_getElem? (i := 905) (by decide +kernel)) rfl, lw_g_in (List.mem_of_getElem? (i := 906) (by decide +kernel)) rfl, lw_g_in (List.mem_of_getElem? (i := 126) (by decide +kernel)) rfl, by decide +kernel⟩
set_option maxRecDepth 20000 in
theorem cv_X9_69 : CLV RX9 69 8 yX9_sees 1 := ⟨TX9, 15, rfl, lw_g_in (List.mem_of_getElem? (i := 1140) (by decide +kernel)) rfl, lw_g_in (List.mem_of_getElem? (i := 885) (by decide +kernel)) rfl, lw_g_in (List.mem_of_getElem? (i := 886) (by decide +kernel)) rfl, lw_g_in (List.mem_of_getElem? (i := 126) (by decide +kernel)) rfl, by decide +kernel⟩
set_option maxRecDepth 20000 in
theorem cs_X9_72 : CLS RX9 72 yX9_copyAll 2 := ⟨lw_g_in (List.mem_of_getElem? (i := 1253) (by decide +kernel)) rfl, lw_g_in (List.mem_of_getElem? (i := 1254) (by decide +kernel)) rfl, lw_g_in (List.mem_of_getElem? (i := 126) (by decide +kernel)) rfl, by decide +kernel⟩
set_option maxRecDepth 20000 in
theorem cs_X9_76 : CLS RX9 76 yJ9_min_7cf53 2 := ⟨lw_g_in (List.mem_of_getElem? (i := 1256) (by decide +kernel)) rfl, lw_g_in (List.mem_of_getElem? (i := 529) (by decide +kernel)) rfl, lw_g_in (List.mem_of_getElem? (i := 129) (by decide +kernel)) rfl, by decide +kernel⟩
set_option maxRecDepth 20000 in
theorem ci_L_9 : CLI RL 9 yX10_init 0 := ⟨lw_g_in (List.mem_of_getElem? (i := 146) (by decide +kernel)) rfl, lw_g_in (List.mem_of_getElem? (i := 147) (by decide +kernel)) rfl, lw_g_in (List.mem_of_getElem? (i := 124) (by decide +kernel)) rfl, by decide +kernel⟩
set_option maxRecDepth 20000 in
theorem ci_L_12 : CLI RL 12 yX11_init 0 := ⟨lw_g_in (List.mem_of_getElem? (i := 1264) (by decide +kernel)) rfl, lw_g_in (List.mem_of_getElem? (i := 1265) (by decide +kernel)) rfl, lw_g_in (List.mem_of_getElem? (i := 134) (by decide +kernel)) rfl, by decide +kernel⟩
set_option maxRecDepth 20000 in
theorem cv_L_13 : CLV RL 13 9 yX10_block 2 := ⟨TX10, 11, rfl, lw_g_in (List.mem_of_getElem? (i := 480) (by decide +kernel)) rfl, lw_g_in (List.mem_of_getElem? (i := 481) (by decide +kernel)) rfl, lw_g_in (List.mem_of_getElem? (i := 482) (by decide +kernel)) rfl, lw_g_in (List.mem_of_getElem? (i := 124) (by decide +kernel)) rfl, by decide +kernel⟩
set_option maxRecDepth 20000 in
theorem cv_L_17 : CLV RL 17 10 yX11_block 2 := ⟨TX11, 25, rfl, lw_g_in (List.mem_of_getElem? (i := 1349) (by decide +kernel)) rfl, lw_g_in (List.mem_of_getElem? (i := 1350) (by decide +kernel)) rfl, lw_g_in (List.mem_of_getElem? (i := 1351) (by decide +kernel)) rfl, lw_g_in (List.mem_of_getElem? (i := 134) (by decide +kernel)) rfl, by decide +kernel⟩
set_option maxRecDepth 20000 in
theorem cv_L_18 : CLV RL 18 9 yX10_window 3 := ⟨TX10, 11, rfl, lw_g_in (List.mem_of_getElem? (i := 488) (by decide +kernel)) rfl, lw_g_in (List.mem_of_getElem? (i := 489) (by decide +kernel)) rfl, lw_g_in (List.mem_of_getElem? (i := 490) (by decide +kernel)) rfl, lw_g_in (List.mem_of_getElem? (i := 124) (by decide +kernel)) rfl, by decide +kernel⟩
set_option maxRecDepth 20000 in
theorem cv_L_22 : CLV RL 22 10 yX11_window 3 := ⟨TX11, 25, rfl, lw_g_in (List.mem_of_getElem? (i := 1356) (by decide +kernel)) rfl, lw_g_in (List.mem_of_getElem? (i := 1357) (by decide +kernel)) rfl, lw_g_in (List.mem_of_getElem? (i := 1358) (by decide +kernel)) rfl, lw_g_in (List.mem_of_getElem? (i := 134) (by decide +kernel)) rfl, by decide +kernel⟩
set_option maxRecDepth 20000 in
theorem cv_L_23 : CLV RL 23 9 yX10_delay 1 := ⟨TX10, 11, rfl, lw_g_in (List.mem_of_getElem? (i := 492) (by decide +kernel)) rfl, lw_g_in (List.mem_of_getElem? (i := 493) (by decide +kernel)) rfl, lw_g_in (List.mem_of_getElem? (i := 494) (by decide +kernel)) rfl, lw_g_in (List.mem_of_getElem? (i := 124) (by decide +kernel)) rfl, by decide +kernel⟩
set_option maxRecDepth 20000 in
theorem cv_L_27 : CLV RL 27 10 yX11_delay 1 := ⟨TX11, 25, rfl, lw_g_in (List.mem_of_getElem? (i := 1360) (by decide +kernel)) rfl, lw_g_in (List.mem_of_getElem? (i := 1361) (by decide +kernel)) rfl, lw_g_in (List.mem_of_getElem? (i := 1362) (by decide +kernel)) rfl, lw_g_in (List.mem_of_getElem? (i := 134) (by decide +kernel)) rfl, by decide +kernel⟩
set_option maxRecDepth 20000 in
theorem cv_L_28 : CLV RL 28 9 yX10_size 1 := ⟨TX10, 11, rfl, lw_g_in (List.mem_of_getElem? (i := 496) (by decide +kernel)) rfl, lw_g_in (List.mem_of_getElem? (i := 497) (by decide +kernel)) rfl, lw_g_in (List.mem_of_getElem? (i := 498) (by decide +kernel)) rfl, lw_g_in (List.mem_of_getElem? (i := 124) (by decide +kernel)) rfl, by decide +kernel⟩
set_option maxRecDepth 20000 in
theorem cv_L_31 : CLV RL 31 10 yX11_size 1 := ⟨TX11, 25, rfl, lw_g_in (List.mem_of_getElem? (i := 1364) (by decide +kernel)) rfl, lw_g_in (List.mem_of_getElem? (i := 1365) (by decide +kernel)) rfl, lw_g_in (List.mem_of_getElem? (i := 1366) (by decide +kernel)) rfl, lw_g_in (List.mem_of_getElem? (i := 134) (by decide +kernel)) rfl, by decide +kernel⟩
set_option maxRecDepth 20000 in
theorem cv_L_32 : CLV RL 32 9 yX10_tries 1 := ⟨TX10, 11, rfl, lw_g_in (List.mem_of_getElem? (i := 500) (by decide +kernel)) rfl, lw_g_in (List.mem_of_getElem? (i := 501) (by decide +kernel)) rfl, lw_g_in (List.mem_of_getElem? (i := 502) (by decide +kernel)) rfl, lw_g_in (List.mem_of_getElem? (i := 124) (by decide +kernel)) rfl, by decide +kernel⟩
set_option maxRecDepth 20000 in
theorem cv_L_35 : CLV RL 35 10 yX11_tries 1 := ⟨TX11, 25, rfl, lw_g_in (List.mem_of_getElem? (i := 1368) (by decide +kernel)) rfl, lw_g_in (List.mem_of_getElem? (i := 1369) (by decide +kernel)) rfl, lw_g_in (List.mem_of_getElem? (i := 1370) (by decide +kernel)) rfl, lw_g_in (List.mem_of_getElem? (i := 134) (by decide +kernel)) rfl, by decide +kernel⟩
set_option maxRecDepth 20000 in
theorem cv_L_36 : CLV RL 36 9 yX10_feed 5 := ⟨TX10, 11, rfl, lw_g_in (List.mem_of_getElem? (i := 504) (by decide +kernel)) rfl, lw_g_in (List.mem_of_getElem? (i := 505) (by decide +kernel)) rfl, lw_g_in (List.mem_of_getElem? (i := 506) (by decide +kernel)) rfl, lw_g_in (List.mem_of_getElem? (i := 124) (by decide +kernel)) rfl, by decide +kernel⟩
set_option maxRecDepth 20000 in
theorem cv_L_40 : CLV RL 40 10 yX11_feed 5 := ⟨TX11, 25, rfl, lw_g_in (List.mem_of_getElem? (i := 1372) (by decide +kernel)) rfl, lw_g_in (List.mem_of_getElem? (i := 1373) (by decide +kernel)) rfl, lw_g_in (List.mem_of_getElem? (i := 1374) (by decide +kernel)) rfl, lw_g_in (List.mem_of_getElem? (i := 134) (by decide +kernel)) rfl, by decide +kernel⟩
set_option maxRecDepth 20000 in
theorem cv_L_41 : CLV RL 41 9 yX10_end 1 := ⟨TX10, 11, rfl, lw_g_in (List.mem_of_getElem? (i := 512) (by decide +kernel)) rfl, lw_g_in (List.mem_of_getElem? (i := 513) (by decide +kernel)) rfl, lw_g_in (List.mem_of_getElem? (i := 514) (by decide +kernel)) rfl, lw_g_in (List.mem_of_getElem? (i := 124) (by decide +kernel)) rfl, by decide +kernel⟩
set_option maxRecDepth 20000 in
theorem cv_L_45 : CLV RL 45 10 yX11_end 1 := ⟨TX11, 25, rfl, lw_g_in (List.mem_of_getElem? (i := 1380) (by decide +kernel)) rfl, lw_g_in (List.mem_of_getElem? (i := 1381) (by decide +kernel)) rfl, lw_g_in (List.mem_of_getElem? (i := 1382) (by decide +kernel)) rfl, lw_g_in (List.mem_of_getElem? (i := 134) (by decide +kernel)) rfl, by decide +kernel⟩
set_option maxRecDepth 20000 in
theorem cv_L_46 : CLV RL 46 9 yX10_text 0 := ⟨TX10, 11, rfl, lw_g_in (List.mem_of_getElem? (i := 516) (by decide +kernel)) rfl, lw_g_in (List.mem_of_getElem? (i := 517) (by decide +kernel)) rfl, lw_g_in (List.mem_of_getElem? (i := 518) (by decide +kernel)) rfl, lw_g_in (List.mem_of_getElem? (i := 124) (by decide +kernel)) rfl, by decide +kernel⟩
set_option maxRecDepth 20000 in
theorem cv_L_50 : CLV RL 50 10 yX11_text 0 := ⟨TX11, 25, rfl, lw_g_in (List.mem_of_getElem? (i := 1384) (by decide +kernel)) rfl, lw_g_in (List.mem_of_getElem? (i := 1385) (by decide +kernel)) rfl, lw_g_in (List.mem_of_getElem? (i := 1386) (by decide +kernel)) rfl, lw_g_in (List.mem_of_getElem? (i := 134) (by decide +kernel)) rfl, by decide +kernel⟩
set_option maxRecDepth 20000 in
theorem cv_L_51 : CLV RL 51 9 yX10_fault 1 := ⟨TX10, 11, rfl, lw_g_in (List.mem_of_getElem? (i := 725) (by decide +kernel)) rfl, lw_g_in (List.mem_of_getElem? (i := 726) (by decide +kernel)) rfl, lw_g_in (List.mem_of_getElem? (i := 727) (by decide +kernel)) rfl, lw_g_in (List.mem_of_getElem? (i := 124) (by decide +kernel)) rfl, by decide +kernel⟩
set_option maxRecDepth 20000 in
theorem cv_L_54 : CLV RL 54 10 yX11_fault 1 := ⟨TX11, 25, rfl, lw_g_in (List.mem_of_getElem? (i := 1528) (by decide +kernel)) rfl, lw_g_in (List.mem_of_getElem? (i := 1529) (by decide +kernel)) rfl, lw_g_in (List.mem_of_getElem? (i := 1530) (by decide +kernel)) rfl, lw_g_in (List.mem_of_getElem? (i := 134) (by decide +kernel)) rfl, by decide +kernel⟩
set_option maxRecDepth 20000 in
theorem cv_L_55 : CLV RL 55 9 yX10_by 1 := ⟨TX10, 11, rfl, lw_g_in (List.mem_of_getElem? (i := 729) (by decide +kernel)) rfl, lw_g_in (List.mem_of_getElem? (i := 730) (by decide +kernel)) rfl, lw_g_in (List.mem_of_getElem? (i := 731) (by decide +kernel)) rfl, lw_g_in (List.mem_of_getElem? (i := 124) (by decide +kernel)) rfl, by decide +kernel⟩
set_option maxRecDepth 20000 in
theorem cv_L_58 : CLV RL 58 10 yX11_by 1 := ⟨TX11, 25, rfl, lw_g_in (List.mem_of_getElem? (i := 1532) (by decide +kernel)) rfl, lw_g_in (List.mem_of_getElem? (i := 1533) (by decide +kernel)) rfl, lw_g_in (List.mem_of_getElem? (i := 1534) (by decide +kernel)) rfl, lw_g_in (List.mem_of_getElem? (i := 134) (by decide +kernel)) rfl, by decide +kernel⟩
set_option maxRecDepth 20000 in
theorem cv_L_59 : CLV RL 59 9 yX10_open 1 := ⟨TX10, 11, rfl, lw_g_in (List.mem_of_getElem? (i := 741) (by decide +kernel)) rfl, lw_g_in (List.mem_of_getElem? (i := 742) (by decide +kernel)) rfl, lw_g_in (List.mem_of_getElem? (i := 743) (by decide +kernel)) rfl, lw_g_in (List.mem_of_getElem? (i := 124) (by decide +kernel)) rfl, by decide +kernel⟩
set_option maxRecDepth 20000 in
theorem cv_L_62 : CLV RL 62 10 yX11_open 1 := ⟨TX11, 25, rfl, lw_g_in (List.mem_of_getElem? (i := 1543) (by decide +kernel)) rfl, lw_g_in (List.mem_of_getElem? (i := 1544) (by decide +kernel)) rfl, lw_g_in (List.mem_of_getElem? (i := 1545) (by decide +kernel)) rfl, lw_g_in (List.mem_of_getElem? (i := 134) (by decide +kernel)) rfl, by decide +kernel⟩
set_option maxRecDepth 20000 in
theorem cv_L_63 : CLV RL 63 9 yX10_cancel 2 := ⟨TX10, 11, rfl, lw_g_in (List.mem_of_getElem? (i := 844) (by decide +kernel)) rfl, lw_g_in (List.mem_of_getElem? (i := 845) (by decide +kernel)) rfl, lw_g_in (List.mem_of_getElem? (i := 846) (by decide +kernel)) rfl, lw_g_in (List.mem_of_getElem? (i := 124) (by decide +kernel)) rfl, by decide +kernel⟩
set_option maxRecDepth 20000 in
theorem cv_L_67 : CLV RL 67 10 yX11_cancel 2 := ⟨TX11, 25, rfl, lw_g_in (List.mem_of_getElem? (i := 1611) (by decide +kernel)) rfl, lw_g_in (List.mem_of_getElem? (i := 1612) (by decide +kernel)) rfl, lw_g_in (List.mem_of_getElem? (i := 1613) (by decide +kernel)) rfl, lw_g_in (List.mem_of_getElem? (i := 134) (by decide +kernel)) rfl, by decide +kernel⟩
set_option maxRecDepth 20000 in
theorem cv_L_68 : CLV RL 68 9 yX10_day 1 := ⟨TX10, 11, rfl, lw_g_in (List.mem_of_getElem? (i := 856) (by decide +kernel)) rfl, lw_g_in (List.mem_of_getElem? (i := 857) (by decide +kernel)) rfl, lw_g_in (List.mem_of_getElem? (i := 858) (by decide +kernel)) rfl, lw_g_in (List.mem_of_getElem? (i := 124) (by decide +kernel)) rfl, by decide +kernel⟩
set_option maxRecDepth 20000 in
theorem cv_L_71 : CLV RL 71 10 yX11_day 1 := ⟨TX11, 25, rfl, lw_g_in (List.mem_of_getElem? (i := 1638) (by decide +kernel)) rfl, lw_g_in (List.mem_of_getElem? (i := 1639) (by decide +kernel)) rfl, lw_g_in (List.mem_of_getElem? (i := 1640) (by decide +kernel)) rfl, lw_g_in (List.mem_of_getElem? (i := 134) (by decide +kernel)) rfl, by decide +kernel⟩
set_option maxRecDepth 20000 in
theorem cv_L_72 : CLV RL 72 9 yX10_played 1 := ⟨TX10, 11, rfl, lw_g_in (List.mem_of_getElem? (i := 976) (by decide +kernel)) rfl, lw_g_in (List.mem_of_getElem? (i := 977) (by decide +kernel)) rfl, lw_g_in (List.mem_of_getElem? (i := 978) (by decide +kernel)) rfl, lw_g_in (List.mem_of_getElem? (i := 124) (by decide +kernel)) rfl, by decide +kernel⟩
set_option maxRecDepth 20000 in
theorem cv_L_75 : CLV RL 75 10 yX11_played 1 := ⟨TX11, 25, rfl, lw_g_in (List.mem_of_getElem? (i := 1764) (by decide +kernel)) rfl, lw_g_in (List.mem_of_getElem? (i := 1765) (by decide +kernel)) rfl, lw_g_in (List.mem_of_getElem? (i := 1766) (by decide +kernel)) rfl, lw_g_in (List.mem_of_getElem? (i := 134) (by decide +kernel)) rfl, by decide +kernel⟩
set_option maxRecDepth 20000 in
theorem cv_L_76 : CLV RL 76 9 yX10_years 2 := ⟨TX10, 11, rfl, lw_g_in (List.mem_of_getElem? (i := 994) (by decide +kernel)) rfl, lw_g_in (List.mem_of_getElem? (i := 995) (by decide +kernel)) rfl, lw_g_in (List.mem_of_getElem? (i := 996) (by decide +kernel)) rfl, lw_g_in (List.mem_of_getElem? (i := 124) (by decide +kernel)) rfl, by decide +kernel⟩
set_option maxRecDepth 20000 in
theorem cv_L_79 : CLV RL 79 10 yX11_years 2 := ⟨TX11, 25, rfl, lw_g_in (List.mem_of_getElem? (i := 1775) (by decide +kernel)) rfl, lw_g_in (List.mem_of_getElem? (i := 1776) (by decide +kernel)) rfl, lw_g_in (List.mem_of_getElem? (i := 1777) (by decide +kernel)) rfl, lw_g_in (List.mem_of_getElem? (i := 134) (by decide +kernel)) rfl, by decide +kernel⟩
set_option maxRecDepth 20000 in
theorem cv_L_80 : CLV RL 80 9 yX10_undo 0 := ⟨TX10, 11, rfl, lw_g_in (List.mem_of_getElem? (i := 1003) (by decide +kernel)) rfl, lw_g_in (List.mem_of_getElem? (i := 1004) (by decide +kernel)) rfl, lw_g_in (List.mem_of_getElem? (i := 1005) (by decide +kernel)) rfl, lw_g_in (List.mem_of_getElem? (i := 124) (by decide +kernel)) rfl, by decide +kernel⟩
set_option maxRecDepth 20000 in
theorem cv_L_83 : CLV RL 83 10 yX11_undo 0 := ⟨TX11, 25, rfl, lw_g_in (List.mem_of_getElem? (i := 1536) (by decide +kernel)) rfl, lw_g_in (List.mem_of_getElem? (i := 1537) (by decide +kernel)) rfl, lw_g_in (List.mem_of_getElem? (i := 1538) (by decide +kernel)) rfl, lw_g_in (List.mem_of_getElem? (i := 134) (by decide +kernel)) rfl, by decide +kernel⟩
set_option maxRecDepth 20000 in
theorem cv_L_84 : CLV RL 84 9 yX10_of 2 := ⟨TX10, 11, rfl, lw_g_in (List.mem_of_getElem? (i := 1011) (by decide +kernel)) rfl, lw_g_in (List.mem_of_getElem? (i := 1012) (by decide +kernel)) rfl, lw_g_in (List.mem_of_getElem? (i := 1013) (by decide +kernel)) rfl, lw_g_in (List.mem_of_getElem? (i := 124) (by decide +kernel)) rfl, by decide +kernel⟩
set_option maxRecDepth 20000 in
theorem cv_L_87 : CLV RL 87 10 yX11_of 2 := ⟨TX11, 25, rfl, lw_g_in (List.mem_of_getElem? (i := 1783) (by decide +kernel)) rfl, lw_g_in (List.mem_of_getElem? (i := 1784) (by decide +kernel)) rfl, lw_g_in (List.mem_of_getElem? (i := 1785) (by decide +kernel)) rfl, lw_g_in (List.mem_of_getElem? (i := 134) (by decide +kernel)) rfl, by decide +kernel⟩
set_option maxRecDepth 20000 in
theorem cv_L_88 : CLV RL 88 9 yX10_claims 3 := ⟨TX10, 11, rfl, lw_g_in (List.mem_of_getElem? (i := 1022) (by decide +kernel)) rfl, lw_g_in (List.mem_of_getElem? (i := 1023) (by decide +kernel)) rfl, lw_g_in (List.mem_of_getElem? (i := 1024) (by decide +kernel)) rfl, lw_g_in (List.mem_of_getElem? (i := 124) (by decide +kernel)) rfl, by decide +kernel⟩
set_option maxRecDepth 20000 in
theorem cv_L_92 : CLV RL 92 10 yX11_claims 3 := ⟨TX11, 25, rfl, lw_g_in (List.mem_of_getElem? (i := 1791) (by decide +kernel)) rfl, lw_g_in (List.mem_of_getElem? (i := 1792) (by decide +kernel)) rfl, lw_g_in (List.mem_of_getElem? (i := 1793) (by decide +kernel)) rfl, lw_g_in (List.mem_of_getElem? (i := 134) (by decide +kernel)) rfl, by decide +kernel⟩
set_option maxRecDepth 20000 in
theorem cv_L_93 : CLV RL 93 9 yX10_gaps 3 := ⟨TX10, 11, rfl, lw_g_in (List.mem_of_getElem? (i := 1049) (by decide +kernel)) rfl, lw_g_in (List.mem_of_getElem? (i := 1050) (by decide +kernel)) rfl, lw_g_in (List.mem_of_getElem? (i := 1051) (by decide +kernel)) rfl, lw_g_in (List.mem_of_getElem? (i := 124) (by decide +kernel)) rfl, by decide +kernel⟩
set_option maxRecDepth 20000 in
theorem cv_L_96 : CLV RL 96 10 yX11_gaps 3 := ⟨TX11, 25, rfl, lw_g_in (List.mem_of_getElem? (i := 1805) (by decide +kernel)) rfl, lw_g_in (List.mem_of_getElem? (i := 1806) (by decide +kernel)) rfl, lw_g_in (List.mem_of_getElem? (i := 1807) (by decide +kernel)) rfl, lw_g_in (List.mem_of_getElem? (i := 134) (by decide +kernel)) rfl, by decide +kernel⟩
set_option maxRecDepth 20000 in
theorem cv_L_97 : CLV RL 97 9 yX10_come 3 := ⟨TX10, 11, rfl, lw_g_in (List.mem_of_getElem? (i := 1054) (by decide +kernel)) rfl, lw_g_in (List.mem_of_getElem? (i := 1055) (by decide +kernel)) rfl, lw_g_in (List.mem_of_getElem? (i := 1056) (by decide +kernel)) rfl, lw_g_in (List.mem_of_getElem? (i := 124) (by decide +kernel)) rfl, by decide +kernel⟩
set_option maxRecDepth 20000 in
theorem cv_L_100 : CLV RL 100 10 yX11_come 3 := ⟨TX11, 25, rfl, lw_g_in (List.mem_of_getElem? (i := 1809) (by decide +kernel)) rfl, lw_g_in (List.mem_of_getElem? (i := 1810) (by decide +kernel)) rfl, lw_g_in (List.mem_of_getElem? (i := 1811) (by decide +kernel)) rfl, lw_g_in (List.mem_of_getElem? (i := 134) (by decide +kernel)) rfl, by decide +kernel⟩
set_option maxRecDepth 20000 in
theorem cv_L_101 : CLV RL 101 9 yX10_out 3 := ⟨TX10, 11, rfl, lw_g_in (List.mem_of_getElem? (i := 1058) (by decide +kernel)) rfl, lw_g_in (List.mem_of_getElem? (i := 1059) (by decide +kernel)) rfl, lw_g_in (List.mem_of_getElem? (i := 1060) (by decide +kernel)) rfl, lw_g_in (List.mem_of_getElem? (i := 124) (by decide +kernel)) rfl, by decide +kernel⟩
set_option maxRecDepth 20000 in
theorem cv_L_105 : CLV RL 105 10 yX11_out 3 := ⟨TX11, 25, rfl, lw_g_in (List.mem_of_getElem? (i := 1813) (by decide +kernel)) rfl, lw_g_in (List.mem_of_getElem? (i := 1814) (by decide +kernel)) rfl, lw_g_in (List.mem_of_getElem? (i := 1815) (by decide +kernel)) rfl, lw_g_in (List.mem_of_getElem? (i := 134) (by decide +kernel)) rfl, by decide +kernel⟩
set_option maxRecDepth 20000 in
theorem cv_L_106 : CLV RL 106 9 yX10_flight 2 := ⟨TX10, 11, rfl, lw_g_in (List.mem_of_getElem? (i := 1068) (by decide +kernel)) rfl, lw_g_in (List.mem_of_getElem? (i := 1069) (by decide +kernel)) rfl, lw_g_in (List.mem_of_getElem? (i := 1070) (by decide +kernel)) rfl, lw_g_in (List.mem_of_getElem? (i := 124) (by decide +kernel)) rfl, by decide +kernel⟩
set_option maxRecDepth 20000 in
theorem cv_L_109 : CLV RL 109 10 yX11_flight 2 := ⟨TX11, 25, rfl, lw_g_in (List.mem_of_getElem? (i := 1817) (by decide +kernel)) rfl, lw_g_in (List.mem_of_getElem? (i := 1818) (by decide +kernel)) rfl, lw_g_in (List.mem_of_getElem? (i := 1819) (by decide +kernel)) rfl, lw_g_in (List.mem_of_getElem? (i := 134) (by decide +kernel)) rfl, by decide +kernel⟩
set_option maxRecDepth 20000 in
theorem cv_L_110 : CLV RL 110 9 yX10_timer 2 := ⟨TX10, 11, rfl, lw_g_in (List.mem_of_getElem? (i := 1072) (by decide +kernel)) rfl, lw_g_in (List.mem_of_getElem? (i := 1073) (by decide +kernel)) rfl, lw_g_in (List.mem_of_getElem? (i := 1074) (by decide +kernel)) rfl, lw_g_in (List.mem_of_getElem? (i := 124) (by decide +kernel)) rfl, by decide +kernel⟩
set_option maxRecDepth 20000 in
theorem cv_L_113 : CLV RL 113 10 yX11_timer 2 := ⟨TX11, 25, rfl, lw_g_in (List.mem_of_getElem? (i := 1821) (by decide +kernel)) rfl, lw_g_in (List.mem_of_getElem? (i := 1822) (by decide +kernel)) rfl, lw_g_in (List.mem_of_getElem? (i := 1823) (by decide +kernel)) rfl, lw_g_in (List.mem_of_getElem? (i := 134) (by decide +kernel)) rfl, by decide +kernel⟩
set_option maxRecDepth 20000 in
theorem cv_L_114 : CLV RL 114 9 yX10_is 1 := ⟨TX10, 11, rfl, lw_g_in (List.mem_of_getElem? (i := 1078) (by decide +kernel)) rfl, lw_g_in (List.mem_of_getElem? (i := 1079) (by decide +kernel)) rfl, lw_g_in (List.mem_of_getElem? (i := 1080) (by decide +kernel)) rfl, lw_g_in (List.mem_of_getElem? (i := 124) (by decide +kernel)) rfl, by decide +kernel⟩
set_option maxRecDepth 20000 in
theorem cv_L_117 : CLV RL 117 10 yX11_is 1 := ⟨TX11, 25, rfl, lw_g_in (List.mem_of_getElem? (i := 1825) (by decide +kernel)) rfl, lw_g_in (List.mem_of_getElem? (i := 1826) (by decide +kernel)) rfl, lw_g_in (List.mem_of_getElem? (i := 1827) (by decide +kernel)) rfl, lw_g_in (List.mem_of_getElem? (i := 134) (by decide +kernel)) rfl, by decide +kernel⟩
set_option maxRecDepth 20000 in
theorem cv_L_118 : CLV RL 118 9 yX10_seen 1 := ⟨TX10, 11, rfl, lw_g_in (List.mem_of_getElem? (i := 1127) (by decide +kernel)) rfl, lw_g_in (List.mem_of_getElem? (i := 1128) (by decide +kernel)) rfl, lw_g_in (List.mem_of_getElem? (i := 1129) (by decide +kernel)) rfl, lw_g_in (List.mem_of_getElem? (i := 124) (by decide +kernel)) rfl, by decide +kernel⟩
set_option maxRecDepth 20000 in
theorem cv_L_121 : CLV RL 121 10 yX11_seen 1 := ⟨TX11, 25, rfl, lw_g_in (List.mem_of_getElem? (i := 1829) (by decide +kernel)) rfl, lw_g_in (List.mem_of_getElem? (i := 1830) (by decide +kernel)) rfl, lw_g_in (List.mem_of_getElem? (i := 1831) (by decide +kernel)) rfl, lw_g_in (List.mem_of_getElem? (i := 134) (by decide +kernel)) rfl, by decide +kernel⟩
set_option maxRecDepth 20000 in
theorem cv_L_122 : CLV RL 122 9 yX10_until 1 := ⟨TX10, 11, rfl, lw_g_in (List.mem_of_getElem? (i := 1132) (by decide +kernel)) rfl, lw_g_in (List.mem_of_getElem? (i := 1133) (by decide +kernel)) rfl, lw_g_in (List.mem_of_getElem? (i := 1134) (by decide +kernel)) rfl, lw_g_in (List.mem_of_getElem? (i := 124) (by decide +kernel)) rfl, by decide +kernel⟩
set_option maxRecDepth 20000 in
theorem cv_L_125 : CLV RL 125 10 yX11_until 1 := ⟨TX11, 25, rfl, lw_g_in (List.mem_of_getElem? (i := 1833) (by decide +kernel)) rfl, lw_g_in (List.mem_of_getElem? (i := 1834) (by decide +kernel)) rfl, lw_g_in (List.mem_of_getElem? (i := 1835) (by decide +kernel)) rfl, lw_g_in (List.mem_of_getElem? (i := 134) (by decide +kernel)) rfl, by decide +kernel⟩
set_option maxRecDepth 20000 in
theorem cv_L_126 : CLV RL 126 9 yX10_book 2 := ⟨TX10, 11, rfl, lw_g_in (List.mem_of_getElem? (i := 1082) (by decide +kernel)) rfl, lw_g_in (List.mem_of_getElem? (i := 1083) (by decide +kernel)) rfl, lw_g_in (List.mem_of_getElem? (i := 1084) (by decide +kernel)) rfl, lw_g_in (List.mem_of_getElem? (i := 124) (by decide +kernel)) rfl, by decide +kernel⟩
set_option maxRecDepth 20000 in
theorem cv_L_129 : CLV RL 129 10 yX11_book 2 := ⟨TX11, 25, rfl, lw_g_in (List.mem_of_getElem? (i := 1857) (by decide +kernel)) rfl, lw_g_in (List.mem_of_getElem? (i := 1858) (by decide +kernel)) rfl, lw_g_in (List.mem_of_getElem? (i := 1859) (by decide +kernel)) rfl, lw_g_in (List.mem_of_getElem? (i := 134) (by decide +kernel)) rfl, by decide +kernel⟩
set_option maxRecDepth 20000 in
theorem cv_L_130 : CLV RL 130 9 yX10_foretold 3 := ⟨TX10, 11, rfl, lw_g_in (List.mem_of_getElem? (i := 1157) (by decide +kernel)) rfl, lw_g_in (List.mem_of_getElem? (i := 1158) (by decide +kernel)) rfl, lw_g_in (List.mem_of_getElem? (i := 1159) (by decide +kernel)) rfl, lw_g_in (List.mem_of_getElem? (i := 124) (by decide +kernel)) rfl, by decide +kernel⟩
set_option maxRecDepth 20000 in
theorem cv_L_133 : CLV RL 133 10 yX11_foretold 3 := ⟨TX11, 25, rfl, lw_g_in (List.mem_of_getElem? (i := 1869) (by decide +kernel)) rfl, lw_g_in (List.mem_of_getElem? (i := 1870) (by decide +kernel)) rfl, lw_g_in (List.mem_of_getElem? (i := 1871) (by decide +kernel)) rfl, lw_g_in (List.mem_of_getElem? (i := 134) (by decide +kernel)) rfl, by decide +kernel⟩
set_option maxRecDepth 20000 in
theorem cv_L_134 : CLV RL 134 9 yX10_till 1 := ⟨TX10, 11, rfl, lw_g_in (List.mem_of_getElem? (i := 1162) (by decide +kernel)) rfl, lw_g_in (List.mem_of_getElem? (i := 1163) (by decide +kernel)) rfl, lw_g_in (List.mem_of_getElem? (i := 1164) (by decide +kernel)) rfl, lw_g_in (List.mem_of_getElem? (i := 124) (by decide +kernel)) rfl, by decide +kernel⟩
set_option maxRecDepth 20000 in
theorem cv_L_137 : CLV RL 137 10 yX11_till 1 := ⟨TX11, 25, rfl, lw_g_in (List.mem_of_getElem? (i := 1881) (by decide +kernel)) rfl, lw_g_in (List.mem_of_getElem? (i := 1882) (by decide +kernel)) rfl, lw_g_in (List.mem_of_getElem? (i := 1883) (by decide +kernel)) rfl, lw_g_in (List.mem_of_getElem? (i := 134) (by decide +kernel)) rfl, by decide +kernel⟩
set_option maxRecDepth 20000 in
theorem cv_L_138 : CLV RL 138 9 yX10_ideal 1 := ⟨TX10, 11, rfl, lw_g_in (List.mem_of_getElem? (i := 1171) (by decide +kernel)) rfl, lw_g_in (List.mem_of_getElem? (i := 1172) (by decide +kernel)) rfl, lw_g_in (List.mem_of_getElem? (i := 1173) (by decide +kernel)) rfl, lw_g_in (List.mem_of_getElem? (i := 124) (by decide +kernel)) rfl, by decide +kernel⟩
set_option maxRecDepth 20000 in
theorem cv_L_141 : CLV RL 141 10 yX11_ideal 1 := ⟨TX11, 25, rfl, lw_g_in (List.mem_of_getElem? (i := 1889) (by decide +kernel)) rfl, lw_g_in (List.mem_of_getElem? (i := 1890) (by decide +kernel)) rfl, lw_g_in (List.mem_of_getElem? (i := 1891) (by decide +kernel)) rfl, lw_g_in (List.mem_of_getElem? (i := 134) (by decide +kernel)) rfl, by decide +kernel⟩
set_option maxRecDepth 20000 in
theorem cv_L_142 : CLV RL 142 9 yX10_whole 1 := ⟨TX10, 11, rfl, lw_g_in (List.mem_of_getElem? (i := 1090) (by decide +kernel)) rfl, lw_g_in (List.mem_of_getElem? (i := 1091) (by decide +kernel)) rfl, lw_g_in (List.mem_of_getElem? (i := 1092) (by decide +kernel)) rfl, lw_g_in (List.mem_of_getElem? (i := 124) (by decide +kernel)) rfl, by decide +kernel⟩
set_option maxRecDepth 20000 in
theorem cv_L_145 : CLV RL 145 10 yX11_whole 1 := ⟨TX11, 25, rfl, lw_g_in (List.mem_of_getElem? (i := 1893) (by decide +kernel)) rfl, lw_g_in (List.mem_of_getElem? (i := 1894) (by decide +kernel)) rfl, lw_g_in (List.mem_of_getElem? (i := 1895) (by decide +kernel)) rfl, lw_g_in (List.mem_of_getElem? (i := 134) (by decide +kernel)) rfl, by decide +kernel⟩
set_option maxRecDepth 20000 in
theorem cv_L_146 : CLV RL 146 9 yX10_spans 1 := ⟨TX10, 11, rfl, lw_g_in (List.mem_of_getElem? (i := 1175) (by decide +kernel)) rfl, lw_g_in (List.mem_of_getElem? (i := 1031) (by decide +kernel)) rfl, lw_g_in (List.mem_of_getElem? (i := 1032) (by decide +kernel)) rfl, lw_g_in (List.mem_of_getElem? (i := 124) (by decide +kernel)) rfl, by decide +kernel⟩
set_option maxRecDepth 20000 in
theorem cv_L_149 : CLV RL 149 10 yX11_spans 1 := ⟨TX11, 25, rfl, lw_g_in (List.mem_of_getElem? (i := 1918) (by decide +kernel)) rfl, lw_g_in (List.mem_of_getElem? (i := 1919) (by decide +kernel)) rfl, lw_g_in (List.mem_of_getElem? (i := 1920) (by decide +kernel)) rfl, lw_g_in (List.mem_of_getElem? (i := 134) (by decide +kernel)) rfl, by decide +kernel⟩
set_option maxRecDepth 20000 in
theorem cv_L_150 : CLV RL 150 9 yX10_span 3 := ⟨TX10, 11, rfl, lw_g_in (List.mem_of_getElem? (i := 1176) (by decide +kernel)) rfl, lw_g_in (List.mem_of_getElem? (i := 1043) (by decide +kernel)) rfl, lw_g_in (List.mem_of_getElem? (i := 1044) (by decide +kernel)) rfl, lw_g_in (List.mem_of_getElem? (i := 124) (by decide +kernel)) rfl, by decide +kernel⟩
set_option maxRecDepth 20000 in
theorem cv_L_153 : CLV RL 153 10 yX11_span 3 := ⟨TX11, 25, rfl, lw_g_in (List.mem_of_getElem? (i := 1926) (by decide +kernel)) rfl, lw_g_in (List.mem_of_getElem? (i := 1927) (by decide +kernel)) rfl, lw_g_in (List.mem_of_getElem? (i := 1928) (by decide +kernel)) rfl, lw_g_in (List.mem_of_getElem? (i := 134) (by decide +kernel)) rfl, by decide +kernel⟩
set_option maxRecDepth 20000 in
theorem cv_L_154 : CLV RL 154 9 yX10_within 3 := ⟨TX10, 11, rfl, lw_g_in (List.mem_of_getElem? (i := 1177) (by decide +kernel)) rfl, lw_g_in (List.mem_of_getElem? (i := 1178) (by decide +kernel)) rfl, lw_g_in (List.mem_of_getElem? (i := 1179) (by decide +kernel)) rfl, lw_g_in (List.mem_of_getElem? (i := 124) (by decide +kernel)) rfl, by decide +kernel⟩
set_option maxRecDepth 20000 in
theorem cv_L_157 : CLV RL 157 10 yX11_within 3 := ⟨TX11, 25, rfl, lw_g_in (List.mem_of_getElem? (i := 1930) (by decide +kernel)) rfl, lw_g_in (List.mem_of_getElem? (i := 1931) (by decide +kernel)) rfl, lw_g_in (List.mem_of_getElem? (i := 1932) (by decide +kernel)) rfl, lw_g_in (List.mem_of_getElem? (i := 134) (by decide +kernel)) rfl, by decide +kernel⟩
set_option maxRecDepth 20000 in
theorem cv_L_158 : CLV RL 158 9 yX10_pieces 1 := ⟨TX10, 11, rfl, lw_g_in (List.mem_of_getElem? (i := 1182) (by decide +kernel)) rfl, lw_g_in (List.mem_of_getElem? (i := 1183) (by decide +kernel)) rfl, lw_g_in (List.mem_of_getElem? (i := 1184) (by decide +kernel)) rfl, lw_g_in (List.mem_of_getElem? (i := 124) (by decide +kernel)) rfl, by decide +kernel⟩
set_option maxRecDepth 20000 in
theorem cv_L_161 : CLV RL 161 10 yX11_pieces 1 := ⟨TX11, 25, rfl, lw_g_in (List.mem_of_getElem? (i := 1946) (by decide +kernel)) rfl, lw_g_in (List.mem_of_getElem? (i := 1947) (by decide +kernel)) rfl, lw_g_in (List.mem_of_getElem? (i := 1948) (by decide +kernel)) rfl, lw_g_in (List.mem_of_getElem? (i := 134) (by decide +kernel)) rfl, by decide +kernel⟩
set_option maxRecDepth 20000 in
theorem cv_L_162 : CLV RL 162 9 yX10_piece 3 := ⟨TX10, 11, rfl, lw_g_in (List.mem_of_getElem? (i := 1186) (by decide +kernel)) rfl, lw_g_in (List.mem_of_getElem? (i := 1187) (by decide +kernel)) rfl, lw_g_in (List.mem_of_getElem? (i := 1188) (by decide +kernel)) rfl, lw_g_in (List.mem_of_getElem? (i := 124) (by decide +kernel)) rfl, by decide +kernel⟩
set_option maxRecDepth 20000 in
theorem cv_L_165 : CLV RL 165 10 yX11_piece 3 := ⟨TX11, 25, rfl, lw_g_in (List.mem_of_getElem? (i := 1950) (by decide +kernel)) rfl, lw_g_in (List.mem_of_getElem? (i := 1951) (by decide +kernel)) rfl, lw_g_in (List.mem_of_getElem? (i := 1952) (by decide +kernel)) rfl, lw_g_in (List.mem_of_getElem? (i := 134) (by decide +kernel)) rfl, by decide +kernel⟩
set_option maxRecDepth 20000 in
theorem cv_L_166 : CLV RL 166 9 yX10_join 2 := ⟨TX10, 11, rfl, lw_g_in (List.mem_of_getElem? (i := 1190) (by decide +kernel)) rfl, lw_g_in (List.mem_of_getElem? (i := 1191) (by decide +kernel)) rfl, lw_g_in (List.mem_of_getElem? (i := 1192) (by decide +kernel)) rfl, lw_g_in (List.mem_of_getElem? (i := 124) (by decide +kernel)) rfl, by decide +kernel⟩
set_option maxRecDepth 20000 in
theorem cv_L_169 : CLV RL 169 10 yX11_join 2 := ⟨TX11, 25, rfl, lw_g_in (List.mem_of_getElem? (i := 1934) (by decide +kernel)) rfl, lw_g_in (List.mem_of_getElem? (i := 1935) (by decide +kernel)) rfl, lw_g_in (List.mem_of_getElem? (i := 1936) (by decide +kernel)) rfl, lw_g_in (List.mem_of_getElem? (i := 134) (by decide +kernel)) rfl, by decide +kernel⟩
set_option maxRecDepth 20000 in
theorem cv_L_170 : CLV RL 170 9 yX10_less 2 := ⟨TX10, 11, rfl, lw_g_in (List.mem_of_getElem? (i := 1194) (by decide +kernel)) rfl, lw_g_in (List.mem_of_getElem? (i := 1195) (by decide +kernel)) rfl, lw_g_in (List.mem_of_getElem? (i := 1196) (by decide +kernel)) rfl, lw_g_in (List.mem_of_getElem? (i := 124) (by decide +kernel)) rfl, by decide +kernel⟩
set_option maxRecDepth 20000 in
theorem cv_L_173 : CLV RL 173 10 yX11_less 2 := ⟨TX11, 25, rfl, lw_g_in (List.mem_of_getElem? (i := 1938) (by decide +kernel)) rfl, lw_g_in (List.mem_of_getElem? (i := 1939) (by decide +kernel)) rfl, lw_g_in (List.mem_of_getElem? (i := 1940) (by decide +kernel)) rfl, lw_g_in (List.mem_of_getElem? (i := 134) (by decide +kernel)) rfl, by decide +kernel⟩
set_option maxRecDepth 20000 in
theorem cv_L_174 : CLV RL 174 9 yX10_longest 1 := ⟨TX10, 11, rfl, lw_g_in (List.mem_of_getElem? (i := 1198) (by decide +kernel)) rfl, lw_g_in (List.mem_of_getElem? (i := 1199) (by decide +kernel)) rfl, lw_g_in (List.mem_of_getElem? (i := 1200) (by decide +kernel)) rfl, lw_g_in (List.mem_of_getElem? (i := 124) (by decide +kernel)) rfl, by decide +kernel⟩
set_option maxRecDepth 20000 in
theorem cv_L_177 : CLV RL 177 10 yX11_longest 1 := ⟨TX11, 25, rfl, lw_g_in (List.mem_of_getElem? (i := 1942) (by decide +kernel)) rfl, lw_g_in (List.mem_of_getElem? (i := 1943) (by decide +kernel)) rfl, lw_g_in (List.mem_of_getElem? (i := 1944) (by decide +kernel)) rfl, lw_g_in (List.mem_of_getElem? (i := 134) (by decide +kernel)) rfl, by decide +kernel⟩
set_option maxRecDepth 20000 in
theorem cv_L_178 : CLV RL 178 9 yX10_next 1 := ⟨TX10, 11, rfl, lw_g_in (List.mem_of_getElem? (i := 1141) (by decide +kernel)) rfl, lw_g_in (List.mem_of_getElem? (i := 1142) (by decide +kernel)) rfl, lw_g_in (List.mem_of_getElem? (i := 1143) (by decide +kernel)) rfl, lw_g_in (List.mem_of_getElem? (i := 124) (by decide +kernel)) rfl, by decide +kernel⟩
set_option maxRecDepth 20000 in
theorem cv_L_181 : CLV RL 181 10 yX11_next 1 := ⟨TX11, 25, rfl, lw_g_in (List.mem_of_getElem? (i := 1841) (by decide +kernel)) rfl, lw_g_in (List.mem_of_getElem? (i := 1842) (by decide +kernel)) rfl, lw_g_in (List.mem_of_getElem? (i := 1843) (by decide +kernel)) rfl, lw_g_in (List.mem_of_getElem? (i := 134) (by decide +kernel)) rfl, by decide +kernel⟩
set_option maxRecDepth 20000 in
theorem cv_L_182 : CLV RL 182 9 yX10_round 0 := ⟨TX10, 11, rfl, lw_g_in (List.mem_of_getElem? (i := 1149) (by decide +kernel)) rfl, lw_g_in (List.mem_of_getElem? (i := 1150) (by decide +kernel)) rfl, lw_g_in (List.mem_of_getElem? (i := 1151) (by decide +kernel)) rfl, lw_g_in (List.mem_of_getElem? (i := 124) (by decide +kernel)) rfl, by decide +kernel⟩
set_option maxRecDepth 20000 in
theorem cv_L_185 : CLV RL 185 10 yX11_round 0 := ⟨TX11, 25, rfl, lw_g_in (List.mem_of_getElem? (i := 1849) (by decide +kernel)) rfl, lw_g_in (List.mem_of_getElem? (i := 1850) (by decide +kernel)) rfl, lw_g_in (List.mem_of_getElem? (i := 1851) (by decide +kernel)) rfl, lw_g_in (List.mem_of_getElem? (i := 134) (by decide +kernel)) rfl, by decide +kernel⟩
set_option maxRecDepth 20000 in
theorem cv_L_186 : CLV RL 186 9 yX10_rings 1 := ⟨TX10, 11, rfl, lw_g_in (List.mem_of_getElem? (i := 1153) (by decide +kernel)) rfl, lw_g_in (List.mem_of_getElem? (i := 1154) (by decide +kernel)) rfl, lw_g_in (List.mem_of_getElem? (i := 1155) (by decide +kernel)) rfl, lw_g_in (List.mem_of_getElem? (i := 124) (by decide +kernel)) rfl, by decide +kernel⟩
set_option maxRecDepth 20000 in
theorem cv_L_189 : CLV RL 189 10 yX11_rings 1 := ⟨TX11, 25, rfl, lw_g_in (List.mem_of_getElem? (i := 1853) (by decide +kernel)) rfl, lw_g_in (List.mem_of_getElem? (i := 1854) (by decide +kernel)) rfl, lw_g_in (List.mem_of_getElem? (i := 1855) (by decide +kernel)) rfl, lw_g_in (List.mem_of_getElem? (i := 134) (by decide +kernel)) rfl, by decide +kernel⟩
set_option maxRecDepth 20000 in
theorem cv_L_190 : CLV RL 190 9 yX10_odds 2 := ⟨TX10, 11, rfl, lw_g_in (List.mem_of_getElem? (i := 1232) (by decide +kernel)) rfl, lw_g_in (List.mem_of_getElem? (i := 1233) (by decide +kernel)) rfl, lw_g_in (List.mem_of_getElem? (i := 1234) (by decide +kernel)) rfl, lw_g_in (List.mem_of_getElem? (i := 124) (by decide +kernel)) rfl, by decide +kernel⟩
set_option maxRecDepth 20000 in
theorem cv_L_194 : CLV RL 194 10 yX11_odds 2 := ⟨TX11, 25, rfl, lw_g_in (List.mem_of_getElem? (i := 1897) (by decide +kernel)) rfl, lw_g_in (List.mem_of_getElem? (i := 1898) (by decide +kernel)) rfl, lw_g_in (List.mem_of_getElem? (i := 1899) (by decide +kernel)) rfl, lw_g_in (List.mem_of_getElem? (i := 134) (by decide +kernel)) rfl, by decide +kernel⟩
set_option maxRecDepth 20000 in
theorem cv_L_195 : CLV RL 195 9 yX10_resent 1 := ⟨TX10, 11, rfl, lw_g_in (List.mem_of_getElem? (i := 1094) (by decide +kernel)) rfl, lw_g_in (List.mem_of_getElem? (i := 1095) (by decide +kernel)) rfl, lw_g_in (List.mem_of_getElem? (i := 1096) (by decide +kernel)) rfl, lw_g_in (List.mem_of_getElem? (i := 124) (by decide +kernel)) rfl, by decide +kernel⟩
set_option maxRecDepth 20000 in
theorem cv_L_198 : CLV RL 198 10 yX11_resent 1 := ⟨TX11, 25, rfl, lw_g_in (List.mem_of_getElem? (i := 1906) (by decide +kernel)) rfl, lw_g_in (List.mem_of_getElem? (i := 1907) (by decide +kernel)) rfl, lw_g_in (List.mem_of_getElem? (i := 1908) (by decide +kernel)) rfl, lw_g_in (List.mem_of_getElem? (i := 134) (by decide +kernel)) rfl, by decide +kernel⟩
set_option maxRecDepth 20000 in
theorem cv_L_199 : CLV RL 199 9 yX10_idle 0 := ⟨TX10, 11, rfl, lw_g_in (List.mem_of_getElem? (i := 1099) (by decide +kernel)) rfl, lw_g_in (List.mem_of_getElem? (i := 1100) (by decide +kernel)) rfl, lw_g_in (List.mem_of_getElem? (i := 1101) (by decide +kernel)) rfl, lw_g_in (List.mem_of_getElem? (i := 124) (by decide +kernel)) rfl, by decide +kernel⟩
set_option maxRecDepth 20000 in
theorem cv_L_203 : CLV RL 203 10 yX11_idle 0 := ⟨TX11, 25, rfl, lw_g_in (List.mem_of_getElem? (i := 1910) (by decide +kernel)) rfl, lw_g_in (List.mem_of_getElem? (i := 1911) (by decide +kernel)) rfl, lw_g_in (List.mem_of_getElem? (i := 1912) (by decide +kernel)) rfl, lw_g_in (List.mem_of_getElem? (i := 134) (by decide +kernel)) rfl, by decide +kernel⟩
set_option maxRecDepth 20000 in
theorem cv_L_204 : CLV RL 204 9 yX10_live 0 := ⟨TX10, 11, rfl, lw_g_in (List.mem_of_getElem? (i := 1103) (by decide +kernel)) rfl, lw_g_in (List.mem_of_getElem? (i := 1104) (by decide +kernel)) rfl, lw_g_in (List.mem_of_getElem? (i := 1105) (by decide +kernel)) rfl, lw_g_in (List.mem_of_getElem? (i := 124) (by decide +kernel)) rfl, by decide +kernel⟩
set_option maxRecDepth 20000 in
theorem cv_L_207 : CLV RL 207 10 yX11_live 0 := ⟨TX11, 25, rfl, lw_g_in (List.mem_of_getElem? (i := 1914) (by decide +kernel)) rfl, lw_g_in (List.mem_of_getElem? (i := 1915) (by decide +kernel)) rfl, lw_g_in (List.mem_of_getElem? (i := 1916) (by decide +kernel)) rfl, lw_g_in (List.mem_of_getElem? (i := 134) (by decide +kernel)) rfl, by decide +kernel⟩
set_option maxRecDepth 20000 in
theorem cv_L_208 : CLV RL 208 9 yX10_said 2 := ⟨TX10, 11, rfl, lw_g_in (List.mem_of_getElem? (i := 733) (by decide +kernel)) rfl, lw_g_in (List.mem_of_getElem? (i := 734) (by decide +kernel)) rfl, lw_g_in (List.mem_of_getElem? (i := 735) (by decide +kernel)) rfl, lw_g_in (List.mem_of_getElem? (i := 124) (by decide +kernel)) rfl, by decide +kernel⟩
set_option maxRecDepth 20000 in
theorem cv_L_211 : CLV RL 211 10 yX11_said 2 := ⟨TX11, 25, rfl, lw_g_in (List.mem_of_getElem? (i := 1954) (by decide +kernel)) rfl, lw_g_in (List.mem_of_getElem? (i := 1955) (by decide +kernel)) rfl, lw_g_in (List.mem_of_getElem? (i := 1956) (by decide +kernel)) rfl, lw_g_in (List.mem_of_getElem? (i := 134) (by decide +kernel)) rfl, by decide +kernel⟩
set_option maxRecDepth 20000 in
theorem cv_L_212 : CLV RL 212 9 yX10_whose 0 := ⟨TX10, 11, rfl, lw_g_in (List.mem_of_getElem? (i := 1216) (by decide +kernel)) rfl, lw_g_in (List.mem_of_getElem? (i := 1217) (by decide +kernel)) rfl, lw_g_in (List.mem_of_getElem? (i := 1218) (by decide +kernel)) rfl, lw_g_in (List.mem_of_getElem? (i := 124) (by decide +kernel)) rfl, by decide +kernel⟩
set_option maxRecDepth 20000 in
theorem cv_L_215 : CLV RL 215 10 yX11_whose 0 := ⟨TX11, 25, rfl, lw_g_in (List.mem_of_getElem? (i := 1958) (by decide +kernel)) rfl, lw_g_in (List.mem_of_getElem? (i := 1959) (by decide +kernel)) rfl, lw_g_in (List.mem_of_getElem? (i := 1960) (by decide +kernel)) rfl, lw_g_in (List.mem_of_getElem? (i := 134) (by decide +kernel)) rfl, by decide +kernel⟩
set_option maxRecDepth 20000 in
theorem cv_L_216 : CLV RL 216 9 yX10_loses 2 := ⟨TX10, 11, rfl, lw_g_in (List.mem_of_getElem? (i := 1205) (by decide +kernel)) rfl, lw_g_in (List.mem_of_getElem? (i := 1206) (by decide +kernel)) rfl, lw_g_in (List.mem_of_getElem? (i := 1207) (by decide +kernel)) rfl, lw_g_in (List.mem_of_getElem? (i := 124) (by decide +kernel)) rfl, by decide +kernel⟩
set_option maxRecDepth 20000 in
theorem cv_L_219 : CLV RL 219 10 yX11_loses 2 := ⟨TX11, 25, rfl, lw_g_in (List.mem_of_getElem? (i := 1962) (by decide +kernel)) rfl, lw_g_in (List.mem_of_getElem? (i := 1963) (by decide +kernel)) rfl, lw_g_in (List.mem_of_getElem? (i := 1964) (by decide +kernel)) rfl, lw_g_in (List.mem_of_getElem? (i := 134) (by decide +kernel)) rfl, by decide +kernel⟩
set_option maxRecDepth 20000 in
theorem cv_L_220 : CLV RL 220 9 yX10_waits 3 := ⟨TX10, 11, rfl, lw_g_in (List.mem_of_getElem? (i := 1211) (by decide +kernel)) rfl, lw_g_in (List.mem_of_getElem? (i := 1212) (by decide +kernel)) rfl, lw_g_in (List.mem_of_getElem? (i := 1213) (by decide +kernel)) rfl, lw_g_in (List.mem_of_getElem? (i := 124) (by decide +kernel)) rfl, by decide +kernel⟩
set_option maxRecDepth 20000 in
theorem cv_L_223 : CLV RL 223 10 yX11_waits 3 := ⟨TX11, 25, rfl, lw_g_in (List.mem_of_getElem? (i := 1966) (by decide +kernel)) rfl, lw_g_in (List.mem_of_getElem? (i := 1967) (by decide +kernel)) rfl, lw_g_in (List.mem_of_getElem? (i := 1968) (by decide +kernel)) rfl, lw_g_in (List.mem_of_getElem? (i := 134) (by decide +kernel)) rfl, by decide +kernel⟩
set_option maxRecDepth 20000 in
theorem cv_L_224 : CLV RL 224 9 yX10_soonest 0 := ⟨TX10, 11, rfl, lw_g_in (List.mem_of_getElem? (i := 1107) (by decide +kernel)) rfl, lw_g_in (List.mem_of_getElem? (i := 1108) (by decide +kernel)) rfl, lw_g_in (List.mem_of_getElem? (i := 1109) (by decide +kernel)) rfl, lw_g_in (List.mem_of_getElem? (i := 124) (by decide +kernel)) rfl, by decide +kernel⟩
set_option maxRecDepth 20000 in
theorem cv_L_227 : CLV RL 227 10 yX11_soonest 0 := ⟨TX11, 25, rfl, lw_g_in (List.mem_of_getElem? (i := 1970) (by decide +kernel)) rfl, lw_g_in (List.mem_of_getElem? (i := 1971) (by decide +kernel)) rfl, lw_g_in (List.mem_of_getElem? (i := 1972) (by decide +kernel)) rfl, lw_g_in (List.mem_of_getElem? (i := 134) (by decide +kernel)) rfl, by decide +kernel⟩
set_option maxRecDepth 20000 in
theorem cv_L_228 : CLV RL 228 9 yX10_busiest 0 := ⟨TX10, 11, rfl, lw_g_in (List.mem_of_getElem? (i := 1111) (by decide +kernel)) rfl, lw_g_in (List.mem_of_getElem? (i := 1112) (by decide +kernel)) rfl, lw_g_in (List.mem_of_getElem? (i := 1113) (by decide +kernel)) rfl, lw_g_in (List.mem_of_getElem? (i := 124) (by decide +kernel)) rfl, by decide +kernel⟩
set_option maxRecDepth 20000 in
theorem cv_L_231 : CLV RL 231 10 yX11_busiest 0 := ⟨TX11, 25, rfl, lw_g_in (List.mem_of_getElem? (i := 1974) (by decide +kernel)) rfl, lw_g_in (List.mem_of_getElem? (i := 1975) (by decide +kernel)) rfl, lw_g_in (List.mem_of_getElem? (i := 1976) (by decide +kernel)) rfl, lw_g_in (List.mem_of_getElem? (i := 134) (by decide +kernel)) rfl, by decide +kernel⟩
set_option maxRecDepth 20000 in
theorem cv_L_232 : CLV RL 232 9 yX10_honest 0 := ⟨TX10, 11, rfl, lw_g_in (List.mem_of_getElem? (i := 1119) (by decide +kernel)) rfl, lw_g_in (List.mem_of_getElem? (i := 1120) (by decide +kernel)) rfl, lw_g_in (List.mem_of_getElem? (i := 1121) (by decide +kernel)) rfl, lw_g_in (List.mem_of_getElem? (i := 124) (by decide +kernel)) rfl, by decide +kernel⟩
set_option maxRecDepth 20000 in
theorem cv_L_235 : CLV RL 235 10 yX11_honest 0 := ⟨TX11, 25, rfl, lw_g_in (List.mem_of_getElem? (i := 1982) (by decide +kernel)) rfl, lw_g_in (List.mem_of_getElem? (i := 1983) (by decide +kernel)) rfl, lw_g_in (List.mem_of_getElem? (i := 1984) (by decide +kernel)) rfl, lw_g_in (List.mem_of_getElem? (i := 134) (by decide +kernel)) rfl, by decide +kernel⟩
set_option maxRecDepth 20000 in
theorem cv_L_236 : CLV RL 236 9 yX10_ledger 1 := ⟨TX10, 11, rfl, lw_g_in (List.mem_of_getElem? (i := 1123) (by decide +kernel)) rfl, lw_g_in (List.mem_of_getElem? (i := 1124) (by decide +kernel)) rfl, lw_g_in (List.mem_of_getElem? (i := 1125) (by decide +kernel)) rfl, lw_g_in (List.mem_of_getElem? (i := 124) (by decide +kernel)) rfl, by decide +kernel⟩
set_option maxRecDepth 20000 in
theorem cv_L_239 : CLV RL 239 10 yX11_ledger 1 := ⟨TX11, 25, rfl, lw_g_in (List.mem_of_getElem? (i := 1865) (by decide +kernel)) rfl, lw_g_in (List.mem_of_getElem? (i := 1866) (by decide +kernel)) rfl, lw_g_in (List.mem_of_getElem? (i := 1867) (by decide +kernel)) rfl, lw_g_in (List.mem_of_getElem? (i := 134) (by decide +kernel)) rfl, by decide +kernel⟩
set_option maxRecDepth 20000 in
theorem cv_L_240 : CLV RL 240 9 yX10_image 0 := ⟨TX10, 11, rfl, lw_g_in (List.mem_of_getElem? (i := 1241) (by decide +kernel)) rfl, lw_g_in (List.mem_of_getElem? (i := 1242) (by decide +kernel)) rfl, lw_g_in (List.mem_of_getElem? (i := 1243) (by decide +kernel)) rfl, lw_g_in (List.mem_of_getElem? (i := 124) (by decide +kernel)) rfl, by decide +kernel⟩
set_option maxRecDepth 20000 in
theorem cv_L_243 : CLV RL 243 10 yX11_image 0 := ⟨TX11, 25, rfl, lw_g_in (List.mem_of_getElem? (i := 1986) (by decide +kernel)) rfl, lw_g_in (List.mem_of_getElem? (i := 1987) (by decide +kernel)) rfl, lw_g_in (List.mem_of_getElem? (i := 1988) (by decide +kernel)) rfl, lw_g_in (List.mem_of_getElem? (i := 134) (by decide +kernel)) rfl, by decide +kernel⟩
set_option maxRecDepth 20000 in
theorem cv_L_244 : CLV RL 244 9 yX10_back 0 := ⟨TX10, 11, rfl, lw_g_in (List.mem_of_getElem? (i := 1258) (by decide +kernel)) rfl, lw_g_in (List.mem_of_getElem? (i := 1259) (by decide +kernel)) rfl, lw_g_in (List.mem_of_getElem? (i := 1260) (by decide +kernel)) rfl, lw_g_in (List.mem_of_getElem? (i := 124) (by decide +kernel)) rfl, by decide +kernel⟩
set_option maxRecDepth 20000 in
theorem cv_L_247 : CLV RL 247 10 yX11_back 0 := ⟨TX11, 25, rfl, lw_g_in (List.mem_of_getElem? (i := 1990) (by decide +kernel)) rfl, lw_g_in (List.mem_of_getElem? (i := 1991) (by decide +kernel)) rfl, lw_g_in (List.mem_of_getElem? (i := 1992) (by decide +kernel)) rfl, lw_g_in (List.mem_of_getElem? (i := 134) (by decide +kernel)) rfl, by decide +kernel⟩
set_option maxRecDepth 20000 in
theorem cv_L_248 : CLV RL 248 9 yX10_about 1 := ⟨TX10, 11, rfl, lw_g_in (List.mem_of_getElem? (i := 1086) (by decide +kernel)) rfl, lw_g_in (List.mem_of_getElem? (i := 1087) (by decide +kernel)) rfl, lw_g_in (List.mem_of_getElem? (i := 1088) (by decide +kernel)) rfl, lw_g_in (List.mem_of_getElem? (i := 124) (by decide +kernel)) rfl, by decide +kernel⟩
set_option maxRecDepth 20000 in
theorem cv_L_251 : CLV RL 251 10 yX11_about 1 := ⟨TX11, 25, rfl, lw_g_in (List.mem_of_getElem? (i := 1994) (by decide +kernel)) rfl, lw_g_in (List.mem_of_getElem? (i := 1995) (by decide +kernel)) rfl, lw_g_in (List.mem_of_getElem? (i := 1996) (by decide +kernel)) rfl, lw_g_in (List.mem_of_getElem? (i := 134) (by decide +kernel)) rfl, by decide +kernel⟩
set_option maxRecDepth 20000 in
theorem cs_X11_46 : CLS RX11 46 yX11_copy 2 := ⟨lw_g_in (List.mem_of_getElem? (i := 1268) (by decide +kernel)) rfl, lw_g_in (List.mem_of_getElem? (i := 1269) (by decide +kernel)) rfl, lw_g_in (List.mem_of_getElem? (i := 134) (by decide +kernel)) rfl, by decide +kernel⟩
set_option maxRecDepth 20000 in
theorem cs_X11_50 : CLS RX11 50 yX11_isIn 3 := ⟨lw_g_in (List.mem_of_getElem? (i := 1353) (by decide +kernel)) rfl, lw_g_in (List.mem_of_getElem? (i := 1354) (by decide +kernel)) rfl, lw_g_in (List.mem_of_getElem? (i := 134) (by decide +kernel)) rfl, by decide +kernel⟩
set_option maxRecDepth 20000 in
theorem cs_X11_54 : CLS RX11 54 yX11_bytesIn 2 := ⟨lw_g_in (List.mem_of_getElem? (i := 1575) (by decide +kernel)) rfl, lw_g_in (List.mem_of_getElem? (i := 1576) (by decide +kernel)) rfl, lw_g_in (List.mem_of_getElem? (i := 134) (by decide +kernel)) rfl, by decide +kernel⟩
set_option maxRecDepth 20000 in
theorem cv_X11_58 : CLV RX11 58 10 yX11_redOf 1 := ⟨TX11, 25, rfl, lw_g_in (List.mem_of_getElem? (i := 1571) (by decide +kernel)) rfl, lw_g_in (List.mem_of_getElem? (i := 1573) (by decide +kernel)) rfl, lw_g_in (List.mem_of_getElem? (i := 76) (by decide +kernel)) rfl, lw_g_in (List.mem_of_getElem? (i := 134) (by decide +kernel)) rfl, by decide +kernel⟩
set_option maxRecDepth 20000 in
theorem cs_X11_62 : CLS RX11 62 yX11_has 2 := ⟨lw_g_in (List.mem_of_getElem? (i := 1438) (by decide +kernel)) rfl, lw_g_in (List.mem_of_getElem? (i := 1439) (by decide +kernel)) rfl, lw_g_in (List.mem_of_getElem? (i := 134) (by decide +kernel)) rfl, by decide +kernel⟩
set_option maxRecDepth 20000 in
theorem cs_X11_66 : CLS RX11 66 yX11_firstFrom 2 := ⟨lw_g_in (List.mem_of_getElem? (i := 1586) (by decide +kernel)) rfl, lw_g_in (List.mem_of_getElem? (i := 1587) (by decide +kernel)) rfl, lw_g_in (List.mem_of_getElem? (i := 134) (by decide +kernel)) rfl, by decide +kernel⟩
set_option maxRecDepth 20000 in
theorem cs_X11_69 : CLS RX11 69 yX11_endFrom 2 := ⟨lw_g_in (List.mem_of_getElem? (i := 1593) (by decide +kernel)) rfl, lw_g_in (List.mem_of_getElem? (i := 1594) (by decide +kernel)) rfl, lw_g_in (List.mem_of_getElem? (i := 134) (by decide +kernel)) rfl, by decide +kernel⟩
set_option maxRecDepth 20000 in
theorem cv_X11_72 : CLV RX11 72 10 yX11_pieceEnd 2 := ⟨TX11, 25, rfl, lw_g_in (List.mem_of_getElem? (i := 1589) (by decide +kernel)) rfl, lw_g_in (List.mem_of_getElem? (i := 1591) (by decide +kernel)) rfl, lw_g_in (List.mem_of_getElem? (i := 79) (by decide +kernel)) rfl, lw_g_in (List.mem_of_getElem? (i := 134) (by decide +kernel)) rfl, by decide +kernel⟩
set_option maxRecDepth 20000 in
theorem cv_X11_78 : CLV RX11 78 10 yX11_four 1 := ⟨TX11, 25, rfl, lw_g_in (List.mem_of_getElem? (i := 1376) (by decide +kernel)) rfl, lw_g_in (List.mem_of_getElem? (i := 1378) (by decide +kernel)) rfl, lw_g_in (List.mem_of_getElem? (i := 42) (by decide +kernel)) rfl, lw_g_in (List.mem_of_getElem? (i := 134) (by decide +kernel)) rfl, by decide +kernel⟩
set_option maxRecDepth 20000 in
theorem cv_X11_85 : CLV RX11 85 10 yX11_byteAt 1 := ⟨TX11, 25, rfl, lw_g_in (List.mem_of_getElem? (i := 1396) (by decide +kernel)) rfl, lw_g_in (List.mem_of_getElem? (i := 1398) (by decide +kernel)) rfl, lw_g_in (List.mem_of_getElem? (i := 45) (by decide +kernel)) rfl, lw_g_in (List.mem_of_getElem? (i := 134) (by decide +kernel)) rfl, by decide +kernel⟩
set_option maxRecDepth 20000 in
theorem cs_X11_94 : CLS RX11 94 yX11_isFigure 1 := ⟨lw_g_in (List.mem_of_getElem? (i := 1400) (by decide +kernel)) rfl, lw_g_in (List.mem_of_getElem? (i := 1401) (by decide +kernel)) rfl, lw_g_in (List.mem_of_getElem? (i := 134) (by decide +kernel)) rfl, by decide +kernel⟩
set_option maxRecDepth 20000 in
theorem cs_X11_102 : CLS RX11 102 yX11_isLetterByte 1 := ⟨lw_g_in (List.mem_of_getElem? (i := 1404) (by decide +kernel)) rfl, lw_g_in (List.mem_of_getElem? (i := 1405) (by decide +kernel)) rfl, lw_g_in (List.mem_of_getElem? (i := 134) (by decide +kernel)) rfl, by decide +kernel⟩
set_option maxRecDepth 20000 in
theorem cs_X11_111 : CLS RX11 111 yX11_isSign 1 := ⟨lw_g_in (List.mem_of_getElem? (i := 1408) (by decide +kernel)) rfl, lw_g_in (List.mem_of_getElem? (i := 1409) (by decide +kernel)) rfl, lw_g_in (List.mem_of_getElem? (i := 134) (by decide +kernel)) rfl, by decide +kernel⟩
set_option maxRecDepth 20000 in
theorem cs_X11_114 : CLS RX11 114 yX11_w2 2 := ⟨lw_g_in (List.mem_of_getElem? (i := 1428) (by decide +kernel)) rfl, lw_g_in (List.mem_of_getElem? (i := 1429) (by decide +kernel)) rfl, lw_g_in (List.mem_of_getElem? (i := 134) (by decide +kernel)) rfl, by decide +kernel⟩
set_option maxRecDepth 20000 in
theorem cs_X11_118 : CLS RX11 118 yX11_w3 3 := ⟨lw_g_in (List.mem_of_getElem? (i := 1425) (by decide +kernel)) rfl, lw_g_in (List.mem_of_getElem? (i := 1426) (by decide +kernel)) rfl, lw_g_in (List.mem_of_getElem? (i := 134) (by decide +kernel)) rfl, by decide +kernel⟩
set_option maxRecDepth 20000 in
theorem cs_X11_122 : CLS RX11 122 yX11_w4 4 := ⟨lw_g_in (List.mem_of_getElem? (i := 1422) (by decide +kernel)) rfl, lw_g_in (List.mem_of_getElem? (i := 1423) (by decide +kernel)) rfl, lw_g_in (List.mem_of_getElem? (i := 134) (by decide +kernel)) rfl, by decide +kernel⟩
set_option maxRecDepth 20000 in
theorem cs_X11_126 : CLS RX11 126 yX11_w5 5 := ⟨lw_g_in (List.mem_of_getElem? (i := 1419) (by decide +kernel)) rfl, lw_g_in (List.mem_of_getElem? (i := 1420) (by decide +kernel)) rfl, lw_g_in (List.mem_of_getElem? (i := 134) (by decide +kernel)) rfl, by decide +kernel⟩
set_option maxRecDepth 20000 in
theorem cs_X11_136 : CLS RX11 136 yX11_w6 6 := ⟨lw_g_in (List.mem_of_getElem? (i := 1435) (by decide +kernel)) rfl, lw_g_in (List.mem_of_getElem? (i := 1436) (by decide +kernel)) rfl, lw_g_in (List.mem_of_getElem? (i := 134) (by decide +kernel)) rfl, by decide +kernel⟩
set_option maxRecDepth 20000 in
theorem cs_X11_146 : CLS RX11 146 yX11_rank 1 := ⟨lw_g_in (List.mem_of_getElem? (i := 1485) (by decide +kernel)) rfl, lw_g_in (List.mem_of_getElem? (i := 1486) (by decide +kernel)) rfl, lw_g_in (List.mem_of_getElem? (i := 134) (by decide +kernel)) rfl, by decide +kernel⟩
set_option maxRecDepth 20000 in
theorem cv_X11_149 : CLV RX11 149 10 yX11_emit 2 := ⟨TX11, 25, rfl, lw_g_in (List.mem_of_getElem? (i := 1496) (by decide +kernel)) rfl, lw_g_in (List.mem_of_getElem? (i := 1498) (by decide +kernel)) rfl, lw_g_in (List.mem_of_getElem? (i := 62) (by decide +kernel)) rfl, lw_g_in (List.mem_of_getElem? (i := 134) (by decide +kernel)) rfl, by decide +kernel⟩
set_option maxRecDepth 20000 in
theorem cv_X11_156 : CLV RX11 156 10 yX11_openAt 0 := ⟨TX11, 25, rfl, lw_g_in (List.mem_of_getElem? (i := 1477) (by decide +kernel)) rfl, lw_g_in (List.mem_of_getElem? (i := 1479) (by decide +kernel)) rfl, lw_g_in (List.mem_of_getElem? (i := 58) (by decide +kernel)) rfl, lw_g_in (List.mem_of_getElem? (i := 134) (by decide +kernel)) rfl, by decide +kernel⟩
set_option maxRecDepth 20000 in
theorem cv_X11_160 : CLV RX11 160 10 yX11_openNow 0 := ⟨TX11, 25, rfl, lw_g_in (List.mem_of_getElem? (i := 1473) (by decide +kernel)) rfl, lw_g_in (List.mem_of_getElem? (i := 1475) (by decide +kernel)) rfl, lw_g_in (List.mem_of_getElem? (i := 57) (by decide +kernel)) rfl, lw_g_in (List.mem_of_getElem? (i := 134) (by decide +kernel)) rfl, by decide +kernel⟩
set_option maxRecDepth 20000 in
theorem cv_X11_163 : CLV RX11 163 10 yX11_nextToken 0 := ⟨TX11, 25, rfl, lw_g_in (List.mem_of_getElem? (i := 1392) (by decide +kernel)) rfl, lw_g_in (List.mem_of_getElem? (i := 1394) (by decide +kernel)) rfl, lw_g_in (List.mem_of_getElem? (i := 44) (by decide +kernel)) rfl, lw_g_in (List.mem_of_getElem? (i := 134) (by decide +kernel)) rfl, by decide +kernel⟩
set_option maxRecDepth 20000 in
theorem cv_X11_166 : CLV RX11 166 10 yX11_nameOf 0 := ⟨TX11, 25, rfl, lw_g_in (List.mem_of_getElem? (i := 1508) (by decide +kernel)) rfl, lw_g_in (List.mem_of_getElem? (i := 1510) (by decide +kernel)) rfl, lw_g_in (List.mem_of_getElem? (i := 65) (by decide +kernel)) rfl, lw_g_in (List.mem_of_getElem? (i := 134) (by decide +kernel)) rfl, by decide +kernel⟩
set_option maxRecDepth 20000 in
theorem cv_X11_169 : CLV RX11 169 10 yX11_isOf 1 := ⟨TX11, 25, rfl, lw_g_in (List.mem_of_getElem? (i := 1512) (by decide +kernel)) rfl, lw_g_in (List.mem_of_getElem? (i := 1514) (by decide +kernel)) rfl, lw_g_in (List.mem_of_getElem? (i := 66) (by decide +kernel)) rfl, lw_g_in (List.mem_of_getElem? (i := 134) (by decide +kernel)) rfl, by decide +kernel⟩
set_option maxRecDepth 20000 in
theorem cv_X11_176 : CLV RX11 176 10 yX11_settle 1 := ⟨TX11, 25, rfl, lw_g_in (List.mem_of_getElem? (i := 1492) (by decide +kernel)) rfl, lw_g_in (List.mem_of_getElem? (i := 1494) (by decide +kernel)) rfl, lw_g_in (List.mem_of_getElem? (i := 61) (by decide +kernel)) rfl, lw_g_in (List.mem_of_getElem? (i := 134) (by decide +kernel)) rfl, by decide +kernel⟩
set_option maxRecDepth 20000 in
theorem cv_X11_179 : CLV RX11 179 10 yX11_opened 1 := ⟨TX11, 25, rfl, lw_g_in (List.mem_of_getElem? (i := 1516) (by decide +kernel)) rfl, lw_g_in (List.mem_of_getElem? (i := 1518) (by decide +kernel)) rfl, lw_g_in (List.mem_of_getElem? (i := 67) (by decide +kernel)) rfl, lw_g_in (List.mem_of_getElem? (i := 134) (by decide +kernel)) rfl, by decide +kernel⟩
set_option maxRecDepth 20000 in
theorem cv_X11_182 : CLV RX11 182 10 yX11_isClaimedWord 0 := ⟨TX11, 25, rfl, lw_g_in (List.mem_of_getElem? (i := 1520) (by decide +kernel)) rfl, lw_g_in (List.mem_of_getElem? (i := 1522) (by decide +kernel)) rfl, lw_g_in (List.mem_of_getElem? (i := 68) (by decide +kernel)) rfl, lw_g_in (List.mem_of_getElem? (i := 134) (by decide +kernel)) rfl, by decide +kernel⟩
set_option maxRecDepth 20000 in
theorem cv_X11_186 : CLV RX11 186 10 yX11_isWord 1 := ⟨TX11, 25, rfl, lw_g_in (List.mem_of_getElem? (i := 1431) (by decide +kernel)) rfl, lw_g_in (List.mem_of_getElem? (i := 1433) (by decide +kernel)) rfl, lw_g_in (List.mem_of_getElem? (i := 48) (by decide +kernel)) rfl, lw_g_in (List.mem_of_getElem? (i := 134) (by decide +kernel)) rfl, by decide +kernel⟩
set_option maxRecDepth 20000 in
theorem cv_X11_190 : CLV RX11 190 10 yX11_isAskAhead 0 := ⟨TX11, 25, rfl, lw_g_in (List.mem_of_getElem? (i := 1524) (by decide +kernel)) rfl, lw_g_in (List.mem_of_getElem? (i := 1526) (by decide +kernel)) rfl, lw_g_in (List.mem_of_getElem? (i := 69) (by decide +kernel)) rfl, lw_g_in (List.mem_of_getElem? (i := 134) (by decide +kernel)) rfl, by decide +kernel⟩
set_option maxRecDepth 20000 in
theorem cv_X11_193 : CLV RX11 193 10 yX11_isCompared 0 := ⟨TX11, 25, rfl, lw_g_in (List.mem_of_getElem? (i := 1481) (by decide +kernel)) rfl, lw_g_in (List.mem_of_getElem? (i := 1483) (by decide +kernel)) rfl, lw_g_in (List.mem_of_getElem? (i := 59) (by decide +kernel)) rfl, lw_g_in (List.mem_of_getElem? (i := 134) (by decide +kernel)) rfl, by decide +kernel⟩
set_option maxRecDepth 20000 in
theorem cv_X11_196 : CLV RX11 196 10 yX11_compareOf 0 := ⟨TX11, 25, rfl, lw_g_in (List.mem_of_getElem? (i := 1488) (by decide +kernel)) rfl, lw_g_in (List.mem_of_getElem? (i := 1490) (by decide +kernel)) rfl, lw_g_in (List.mem_of_getElem? (i := 60) (by decide +kernel)) rfl, lw_g_in (List.mem_of_getElem? (i := 134) (by decide +kernel)) rfl, by decide +kernel⟩
set_option maxRecDepth 20000 in
theorem cv_X11_199 : CLV RX11 199 10 yX11_betweenOf 0 := ⟨TX11, 25, rfl, lw_g_in (List.mem_of_getElem? (i := 1469) (by decide +kernel)) rfl, lw_g_in (List.mem_of_getElem? (i := 1471) (by decide +kernel)) rfl, lw_g_in (List.mem_of_getElem? (i := 56) (by decide +kernel)) rfl, lw_g_in (List.mem_of_getElem? (i := 134) (by decide +kernel)) rfl, by decide +kernel⟩
set_option maxRecDepth 20000 in
theorem cv_X11_202 : CLV RX11 202 10 yX11_partOf 1 := ⟨TX11, 25, rfl, lw_g_in (List.mem_of_getElem? (i := 1500) (by decide +kernel)) rfl, lw_g_in (List.mem_of_getElem? (i := 1502) (by decide +kernel)) rfl, lw_g_in (List.mem_of_getElem? (i := 63) (by decide +kernel)) rfl, lw_g_in (List.mem_of_getElem? (i := 134) (by decide +kernel)) rfl, by decide +kernel⟩
set_option maxRecDepth 20000 in
theorem cv_X11_205 : CLV RX11 205 10 yX11_behindOne 0 := ⟨TX11, 25, rfl, lw_g_in (List.mem_of_getElem? (i := 1465) (by decide +kernel)) rfl, lw_g_in (List.mem_of_getElem? (i := 1467) (by decide +kernel)) rfl, lw_g_in (List.mem_of_getElem? (i := 55) (by decide +kernel)) rfl, lw_g_in (List.mem_of_getElem? (i := 134) (by decide +kernel)) rfl, by decide +kernel⟩
set_option maxRecDepth 20000 in
theorem cv_X11_208 : CLV RX11 208 10 yX11_beginOne 0 := ⟨TX11, 25, rfl, lw_g_in (List.mem_of_getElem? (i := 1504) (by decide +kernel)) rfl, lw_g_in (List.mem_of_getElem? (i := 1506) (by decide +kernel)) rfl, lw_g_in (List.mem_of_getElem? (i := 64) (by decide +kernel)) rfl, lw_g_in (List.mem_of_getElem? (i := 134) (by decide +kernel)) rfl, by decide +kernel⟩
set_option maxRecDepth 20000 in
theorem cv_X11_211 : CLV RX11 211 10 yX11_summed 0 := ⟨TX11, 25, rfl, lw_g_in (List.mem_of_getElem? (i := 1461) (by decide +kernel)) rfl, lw_g_in (List.mem_of_getElem? (i := 1463) (by decide +kernel)) rfl, lw_g_in (List.mem_of_getElem? (i := 54) (by decide +kernel)) rfl, lw_g_in (List.mem_of_getElem? (i := 134) (by decide +kernel)) rfl, by decide +kernel⟩
set_option maxRecDepth 20000 in
theorem cv_X11_214 : CLV RX11 214 10 yX11_figure 3 := ⟨TX11, 25, rfl, lw_g_in (List.mem_of_getElem? (i := 1449) (by decide +kernel)) rfl, lw_g_in (List.mem_of_getElem? (i := 1451) (by decide +kernel)) rfl, lw_g_in (List.mem_of_getElem? (i := 51) (by decide +kernel)) rfl, lw_g_in (List.mem_of_getElem? (i := 134) (by decide +kernel)) rfl, by decide +kernel⟩
set_option maxRecDepth 20000 in
theorem cv_X11_218 : CLV RX11 218 10 yX11_blockClause 1 := ⟨TX11, 25, rfl, lw_g_in (List.mem_of_getElem? (i := 1445) (by decide +kernel)) rfl, lw_g_in (List.mem_of_getElem? (i := 1447) (by decide +kernel)) rfl, lw_g_in (List.mem_of_getElem? (i := 50) (by decide +kernel)) rfl, lw_g_in (List.mem_of_getElem? (i := 134) (by decide +kernel)) rfl, by decide +kernel⟩
set_option maxRecDepth 20000 in
theorem cv_X11_221 : CLV RX11 221 10 yX11_cancelClause 1 := ⟨TX11, 25, rfl, lw_g_in (List.mem_of_getElem? (i := 1453) (by decide +kernel)) rfl, lw_g_in (List.mem_of_getElem? (i := 1455) (by decide +kernel)) rfl, lw_g_in (List.mem_of_getElem? (i := 52) (by decide +kernel)) rfl, lw_g_in (List.mem_of_getElem? (i := 134) (by decide +kernel)) rfl, by decide +kernel⟩
set_option maxRecDepth 20000 in
theorem cv_X11_224 : CLV RX11 224 10 yX11_lawClause 1 := ⟨TX11, 25, rfl, lw_g_in (List.mem_of_getElem? (i := 1457) (by decide +kernel)) rfl, lw_g_in (List.mem_of_getElem? (i := 1459) (by decide +kernel)) rfl, lw_g_in (List.mem_of_getElem? (i := 53) (by decide +kernel)) rfl, lw_g_in (List.mem_of_getElem? (i := 134) (by decide +kernel)) rfl, by decide +kernel⟩
set_option maxRecDepth 20000 in
theorem cv_X11_227 : CLV RX11 227 10 yX11_sortOf 0 := ⟨TX11, 25, rfl, lw_g_in (List.mem_of_getElem? (i := 1415) (by decide +kernel)) rfl, lw_g_in (List.mem_of_getElem? (i := 1417) (by decide +kernel)) rfl, lw_g_in (List.mem_of_getElem? (i := 47) (by decide +kernel)) rfl, lw_g_in (List.mem_of_getElem? (i := 134) (by decide +kernel)) rfl, by decide +kernel⟩
set_option maxRecDepth 20000 in
theorem cv_X11_233 : CLV RX11 233 10 yX11_body 2 := ⟨TX11, 25, rfl, lw_g_in (List.mem_of_getElem? (i := 1441) (by decide +kernel)) rfl, lw_g_in (List.mem_of_getElem? (i := 1443) (by decide +kernel)) rfl, lw_g_in (List.mem_of_getElem? (i := 49) (by decide +kernel)) rfl, lw_g_in (List.mem_of_getElem? (i := 134) (by decide +kernel)) rfl, by decide +kernel⟩
set_option maxRecDepth 20000 in
theorem cv_X11_236 : CLV RX11 236 10 yX11_clause 0 := ⟨TX11, 25, rfl, lw_g_in (List.mem_of_getElem? (i := 1411) (by decide +kernel)) rfl, lw_g_in (List.mem_of_getElem? (i := 1413) (by decide +kernel)) rfl, lw_g_in (List.mem_of_getElem? (i := 46) (by decide +kernel)) rfl, lw_g_in (List.mem_of_getElem? (i := 134) (by decide +kernel)) rfl, by decide +kernel⟩
set_option maxRecDepth 20000 in
theorem cv_X11_239 : CLV RX11 239 10 yX11_readText 0 := ⟨TX11, 25, rfl, lw_g_in (List.mem_of_getElem? (i := 1388) (by decide +kernel)) rfl, lw_g_in (List.mem_of_getElem? (i := 1390) (by decide +kernel)) rfl, lw_g_in (List.mem_of_getElem? (i := 43) (by decide +kernel)) rfl, lw_g_in (List.mem_of_getElem? (i := 134) (by decide +kernel)) rfl, by decide +kernel⟩
set_option maxRecDepth 20000 in
theorem cs_X11_246 : CLS RX11 246 yX11_clip 1 := ⟨lw_g_in (List.mem_of_getElem? (i := 1730) (by decide +kernel)) rfl, lw_g_in (List.mem_of_getElem? (i := 1731) (by decide +kernel)) rfl, lw_g_in (List.mem_of_getElem? (i := 134) (by decide +kernel)) rfl, by decide +kernel⟩
set_option maxRecDepth 20000 in
theorem cs_X11_250 : CLS RX11 250 yX11_bitsOf 1 := ⟨lw_g_in (List.mem_of_getElem? (i := 1724) (by decide +kernel)) rfl, lw_g_in (List.mem_of_getElem? (i := 1725) (by decide +kernel)) rfl, lw_g_in (List.mem_of_getElem? (i := 134) (by decide +kernel)) rfl, by decide +kernel⟩
set_option maxRecDepth 20000 in
theorem cv_X11_253 : CLV RX11 253 10 yX11_ofOne 2 := ⟨TX11, 25, rfl, lw_g_in (List.mem_of_getElem? (i := 1720) (by decide +kernel)) rfl, lw_g_in (List.mem_of_getElem? (i := 1722) (by decide +kernel)) rfl, lw_g_in (List.mem_of_getElem? (i := 106) (by decide +kernel)) rfl, lw_g_in (List.mem_of_getElem? (i := 134) (by decide +kernel)) rfl, by decide +kernel⟩
set_option maxRecDepth 20000 in
theorem cs_X11_257 : CLS RX11 257 yX11_two 3 := ⟨lw_g_in (List.mem_of_getElem? (i := 1727) (by decide +kernel)) rfl, lw_g_in (List.mem_of_getElem? (i := 1728) (by decide +kernel)) rfl, lw_g_in (List.mem_of_getElem? (i := 134) (by decide +kernel)) rfl, by decide +kernel⟩
set_option maxRecDepth 20000 in
theorem cs_X11_261 : CLS RX11 261 yX11_isAsked 3 := ⟨lw_g_in (List.mem_of_getElem? (i := 1735) (by decide +kernel)) rfl, lw_g_in (List.mem_of_getElem? (i := 1736) (by decide +kernel)) rfl, lw_g_in (List.mem_of_getElem? (i := 134) (by decide +kernel)) rfl, by decide +kernel⟩
set_option maxRecDepth 20000 in
theorem cs_X11_265 : CLS RX11 265 yX11_joined 3 := ⟨lw_g_in (List.mem_of_getElem? (i := 1738) (by decide +kernel)) rfl, lw_g_in (List.mem_of_getElem? (i := 1739) (by decide +kernel)) rfl, lw_g_in (List.mem_of_getElem? (i := 134) (by decide +kernel)) rfl, by decide +kernel⟩
set_option maxRecDepth 20000 in
theorem cv_X11_269 : CLV RX11 269 10 yX11_summedUp 2 := ⟨TX11, 25, rfl, lw_g_in (List.mem_of_getElem? (i := 1716) (by decide +kernel)) rfl, lw_g_in (List.mem_of_getElem? (i := 1718) (by decide +kernel)) rfl, lw_g_in (List.mem_of_getElem? (i := 105) (by decide +kernel)) rfl, lw_g_in (List.mem_of_getElem? (i := 134) (by decide +kernel)) rfl, by decide +kernel⟩
set_option maxRecDepth 20000 in
theorem cs_X11_272 : CLS RX11 272 yX11_held 3 := ⟨lw_g_in (List.mem_of_getElem? (i := 1741) (by decide +kernel)) rfl, lw_g_in (List.mem_of_getElem? (i := 1742) (by decide +kernel)) rfl, lw_g_in (List.mem_of_getElem? (i := 134) (by decide +kernel)) rfl, by decide +kernel⟩
set_option maxRecDepth 20000 in
theorem cv_X11_276 : CLV RX11 276 10 yX11_name 2 := ⟨TX11, 25, rfl, lw_g_in (List.mem_of_getElem? (i := 1708) (by decide +kernel)) rfl, lw_g_in (List.mem_of_getElem? (i := 1710) (by decide +kernel)) rfl, lw_g_in (List.mem_of_getElem? (i := 103) (by decide +kernel)) rfl, lw_g_in (List.mem_of_getElem? (i := 134) (by decide +kernel)) rfl, by decide +kernel⟩
set_option maxRecDepth 20000 in
theorem cv_X11_279 : CLV RX11 279 10 yX11_says 5 := ⟨TX11, 25, rfl, lw_g_in (List.mem_of_getElem? (i := 1712) (by decide +kernel)) rfl, lw_g_in (List.mem_of_getElem? (i := 1714) (by decide +kernel)) rfl, lw_g_in (List.mem_of_getElem? (i := 104) (by decide +kernel)) rfl, lw_g_in (List.mem_of_getElem? (i := 134) (by decide +kernel)) rfl, by decide +kernel⟩
set_option maxRecDepth 20000 in
theorem cv_X11_283 : CLV RX11 283 10 yX11_anew 0 := ⟨TX11, 25, rfl, lw_g_in (List.mem_of_getElem? (i := 1697) (by decide +kernel)) rfl, lw_g_in (List.mem_of_getElem? (i := 1699) (by decide +kernel)) rfl, lw_g_in (List.mem_of_getElem? (i := 101) (by decide +kernel)) rfl, lw_g_in (List.mem_of_getElem? (i := 134) (by decide +kernel)) rfl, by decide +kernel⟩
set_option maxRecDepth 20000 in
theorem cs_X11_292 : CLS RX11 292 yX11_outAt 2 := ⟨lw_g_in (List.mem_of_getElem? (i := 1604) (by decide +kernel)) rfl, lw_g_in (List.mem_of_getElem? (i := 1605) (by decide +kernel)) rfl, lw_g_in (List.mem_of_getElem? (i := 134) (by decide +kernel)) rfl, by decide +kernel⟩
set_option maxRecDepth 20000 in
theorem cs_X11_295 : CLS RX11 295 yX11_timerAt 1 := ⟨lw_g_in (List.mem_of_getElem? (i := 1631) (by decide +kernel)) rfl, lw_g_in (List.mem_of_getElem? (i := 1632) (by decide +kernel)) rfl, lw_g_in (List.mem_of_getElem? (i := 134) (by decide +kernel)) rfl, by decide +kernel⟩
set_option maxRecDepth 20000 in
theorem cs_X11_298 : CLS RX11 298 yX11_flightAt 1 := ⟨lw_g_in (List.mem_of_getElem? (i := 1650) (by decide +kernel)) rfl, lw_g_in (List.mem_of_getElem? (i := 1651) (by decide +kernel)) rfl, lw_g_in (List.mem_of_getElem? (i := 134) (by decide +kernel)) rfl, by decide +kernel⟩
set_option maxRecDepth 20000 in
theorem cv_X11_301 : CLV RX11 301 10 yX11_takeOut 2 := ⟨TX11, 25, rfl, lw_g_in (List.mem_of_getElem? (i := 1627) (by decide +kernel)) rfl, lw_g_in (List.mem_of_getElem? (i := 1629) (by decide +kernel)) rfl, lw_g_in (List.mem_of_getElem? (i := 86) (by decide +kernel)) rfl, lw_g_in (List.mem_of_getElem? (i := 134) (by decide +kernel)) rfl, by decide +kernel⟩
set_option maxRecDepth 20000 in
theorem cv_X11_304 : CLV RX11 304 10 yX11_takeTimer 1 := ⟨TX11, 25, rfl, lw_g_in (List.mem_of_getElem? (i := 1634) (by decide +kernel)) rfl, lw_g_in (List.mem_of_getElem? (i := 1636) (by decide +kernel)) rfl, lw_g_in (List.mem_of_getElem? (i := 87) (by decide +kernel)) rfl, lw_g_in (List.mem_of_getElem? (i := 134) (by decide +kernel)) rfl, by decide +kernel⟩
set_option maxRecDepth 20000 in
theorem cv_X11_307 : CLV RX11 307 10 yX11_piecesOf 1 := ⟨TX11, 25, rfl, lw_g_in (List.mem_of_getElem? (i := 1582) (by decide +kernel)) rfl, lw_g_in (List.mem_of_getElem? (i := 1584) (by decide +kernel)) rfl, lw_g_in (List.mem_of_getElem? (i := 78) (by decide +kernel)) rfl, lw_g_in (List.mem_of_getElem? (i := 134) (by decide +kernel)) rfl, by decide +kernel⟩
set_option maxRecDepth 20000 in
theorem cv_X11_310 : CLV RX11 310 10 yX11_pieceOf 3 := ⟨TX11, 25, rfl, lw_g_in (List.mem_of_getElem? (i := 1596) (by decide +kernel)) rfl, lw_g_in (List.mem_of_getElem? (i := 1598) (by decide +kernel)) rfl, lw_g_in (List.mem_of_getElem? (i := 80) (by decide +kernel)) rfl, lw_g_in (List.mem_of_getElem? (i := 134) (by decide +kernel)) rfl, by decide +kernel⟩
set_option maxRecDepth 20000 in
theorem cv_X11_314 : CLV RX11 314 10 yX11_put 8 := ⟨TX11, 25, rfl, lw_g_in (List.mem_of_getElem? (i := 1600) (by decide +kernel)) rfl, lw_g_in (List.mem_of_getElem? (i := 1602) (by decide +kernel)) rfl, lw_g_in (List.mem_of_getElem? (i := 81) (by decide +kernel)) rfl, lw_g_in (List.mem_of_getElem? (i := 134) (by decide +kernel)) rfl, by decide +kernel⟩
set_option maxRecDepth 20000 in
theorem cv_X11_318 : CLV RX11 318 10 yX11_missingOf 1 := ⟨TX11, 25, rfl, lw_g_in (List.mem_of_getElem? (i := 1673) (by decide +kernel)) rfl, lw_g_in (List.mem_of_getElem? (i := 1675) (by decide +kernel)) rfl, lw_g_in (List.mem_of_getElem? (i := 95) (by decide +kernel)) rfl, lw_g_in (List.mem_of_getElem? (i := 134) (by decide +kernel)) rfl, by decide +kernel⟩
set_option maxRecDepth 20000 in
theorem cv_X11_321 : CLV RX11 321 10 yX11_writeDown 3 := ⟨TX11, 25, rfl, lw_g_in (List.mem_of_getElem? (i := 1567) (by decide +kernel)) rfl, lw_g_in (List.mem_of_getElem? (i := 1569) (by decide +kernel)) rfl, lw_g_in (List.mem_of_getElem? (i := 75) (by decide +kernel)) rfl, lw_g_in (List.mem_of_getElem? (i := 134) (by decide +kernel)) rfl, by decide +kernel⟩
set_option maxRecDepth 20000 in
theorem cv_X11_325 : CLV RX11 325 10 yX11_putRed 2 := ⟨TX11, 25, rfl, lw_g_in (List.mem_of_getElem? (i := 1578) (by decide +kernel)) rfl, lw_g_in (List.mem_of_getElem? (i := 1580) (by decide +kernel)) rfl, lw_g_in (List.mem_of_getElem? (i := 77) (by decide +kernel)) rfl, lw_g_in (List.mem_of_getElem? (i := 134) (by decide +kernel)) rfl, by decide +kernel⟩
set_option maxRecDepth 20000 in
theorem cv_X11_328 : CLV RX11 328 10 yX11_endNow 1 := ⟨TX11, 25, rfl, lw_g_in (List.mem_of_getElem? (i := 1607) (by decide +kernel)) rfl, lw_g_in (List.mem_of_getElem? (i := 1609) (by decide +kernel)) rfl, lw_g_in (List.mem_of_getElem? (i := 82) (by decide +kernel)) rfl, lw_g_in (List.mem_of_getElem? (i := 134) (by decide +kernel)) rfl, by decide +kernel⟩
set_option maxRecDepth 20000 in
theorem cv_X11_331 : CLV RX11 331 10 yX11_isBlock 1 := ⟨TX11, 25, rfl, lw_g_in (List.mem_of_getElem? (i := 1551) (by decide +kernel)) rfl, lw_g_in (List.mem_of_getElem? (i := 1553) (by decide +kernel)) rfl, lw_g_in (List.mem_of_getElem? (i := 71) (by decide +kernel)) rfl, lw_g_in (List.mem_of_getElem? (i := 134) (by decide +kernel)) rfl, by decide +kernel⟩
set_option maxRecDepth 20000 in
theorem cv_X11_334 : CLV RX11 334 10 yX11_howAt 2 := ⟨TX11, 25, rfl, lw_g_in (List.mem_of_getElem? (i := 1555) (by decide +kernel)) rfl, lw_g_in (List.mem_of_getElem? (i := 1557) (by decide +kernel)) rfl, lw_g_in (List.mem_of_getElem? (i := 72) (by decide +kernel)) rfl, lw_g_in (List.mem_of_getElem? (i := 134) (by decide +kernel)) rfl, by decide +kernel⟩
set_option maxRecDepth 20000 in
theorem cv_X11_337 : CLV RX11 337 10 yX11_dropAll 4 := ⟨TX11, 25, rfl, lw_g_in (List.mem_of_getElem? (i := 1623) (by decide +kernel)) rfl, lw_g_in (List.mem_of_getElem? (i := 1625) (by decide +kernel)) rfl, lw_g_in (List.mem_of_getElem? (i := 85) (by decide +kernel)) rfl, lw_g_in (List.mem_of_getElem? (i := 134) (by decide +kernel)) rfl, by decide +kernel⟩
set_option maxRecDepth 20000 in
theorem cv_X11_341 : CLV RX11 341 10 yX11_isAll 1 := ⟨TX11, 25, rfl, lw_g_in (List.mem_of_getElem? (i := 1669) (by decide +kernel)) rfl, lw_g_in (List.mem_of_getElem? (i := 1671) (by decide +kernel)) rfl, lw_g_in (List.mem_of_getElem? (i := 94) (by decide +kernel)) rfl, lw_g_in (List.mem_of_getElem? (i := 134) (by decide +kernel)) rfl, by decide +kernel⟩
set_option maxRecDepth 20000 in
theorem cv_X11_344 : CLV RX11 344 10 yX11_dropChecks 1 := ⟨TX11, 25, rfl, lw_g_in (List.mem_of_getElem? (i := 1677) (by decide +kernel)) rfl, lw_g_in (List.mem_of_getElem? (i := 1679) (by decide +kernel)) rfl, lw_g_in (List.mem_of_getElem? (i := 96) (by decide +kernel)) rfl, lw_g_in (List.mem_of_getElem? (i := 134) (by decide +kernel)) rfl, by decide +kernel⟩
set_option maxRecDepth 20000 in
theorem cv_X11_347 : CLV RX11 347 10 yX11_takeFlight 1 := ⟨TX11, 25, rfl, lw_g_in (List.mem_of_getElem? (i := 1657) (by decide +kernel)) rfl, lw_g_in (List.mem_of_getElem? (i := 1659) (by decide +kernel)) rfl, lw_g_in (List.mem_of_getElem? (i := 91) (by decide +kernel)) rfl, lw_g_in (List.mem_of_getElem? (i := 134) (by decide +kernel)) rfl, by decide +kernel⟩
set_option maxRecDepth 20000 in
theorem cv_X11_350 : CLV RX11 350 10 yX11_gotData 4 := ⟨TX11, 25, rfl, lw_g_in (List.mem_of_getElem? (i := 1661) (by decide +kernel)) rfl, lw_g_in (List.mem_of_getElem? (i := 1663) (by decide +kernel)) rfl, lw_g_in (List.mem_of_getElem? (i := 92) (by decide +kernel)) rfl, lw_g_in (List.mem_of_getElem? (i := 134) (by decide +kernel)) rfl, by decide +kernel⟩
set_option maxRecDepth 20000 in
theorem cv_X11_353 : CLV RX11 353 10 yX11_gotReport 4 := ⟨TX11, 25, rfl, lw_g_in (List.mem_of_getElem? (i := 1665) (by decide +kernel)) rfl, lw_g_in (List.mem_of_getElem? (i := 1667) (by decide +kernel)) rfl, lw_g_in (List.mem_of_getElem? (i := 93) (by decide +kernel)) rfl, lw_g_in (List.mem_of_getElem? (i := 134) (by decide +kernel)) rfl, by decide +kernel⟩
set_option maxRecDepth 20000 in
theorem cv_X11_356 : CLV RX11 356 10 yX11_gotCancelling 2 := ⟨TX11, 25, rfl, lw_g_in (List.mem_of_getElem? (i := 1681) (by decide +kernel)) rfl, lw_g_in (List.mem_of_getElem? (i := 1683) (by decide +kernel)) rfl, lw_g_in (List.mem_of_getElem? (i := 97) (by decide +kernel)) rfl, lw_g_in (List.mem_of_getElem? (i := 134) (by decide +kernel)) rfl, by decide +kernel⟩
set_option maxRecDepth 20000 in
theorem cv_X11_359 : CLV RX11 359 10 yX11_waitsBy 3 := ⟨TX11, 25, rfl, lw_g_in (List.mem_of_getElem? (i := 1752) (by decide +kernel)) rfl, lw_g_in (List.mem_of_getElem? (i := 1754) (by decide +kernel)) rfl, lw_g_in (List.mem_of_getElem? (i := 109) (by decide +kernel)) rfl, lw_g_in (List.mem_of_getElem? (i := 134) (by decide +kernel)) rfl, by decide +kernel⟩
set_option maxRecDepth 20000 in
theorem cv_X11_365 : CLV RX11 365 10 yX11_drawnBy 1 := ⟨TX11, 25, rfl, lw_g_in (List.mem_of_getElem? (i := 1693) (by decide +kernel)) rfl, lw_g_in (List.mem_of_getElem? (i := 1695) (by decide +kernel)) rfl, lw_g_in (List.mem_of_getElem? (i := 100) (by decide +kernel)) rfl, lw_g_in (List.mem_of_getElem? (i := 134) (by decide +kernel)) rfl, by decide +kernel⟩
set_option maxRecDepth 20000 in
theorem cv_X11_368 : CLV RX11 368 10 yX11_losesBy 4 := ⟨TX11, 25, rfl, lw_g_in (List.mem_of_getElem? (i := 1704) (by decide +kernel)) rfl, lw_g_in (List.mem_of_getElem? (i := 1706) (by decide +kernel)) rfl, lw_g_in (List.mem_of_getElem? (i := 102) (by decide +kernel)) rfl, lw_g_in (List.mem_of_getElem? (i := 134) (by decide +kernel)) rfl, by decide +kernel⟩
set_option maxRecDepth 20000 in
theorem cv_X11_372 : CLV RX11 372 10 yX11_fly 2 := ⟨TX11, 25, rfl, lw_g_in (List.mem_of_getElem? (i := 1744) (by decide +kernel)) rfl, lw_g_in (List.mem_of_getElem? (i := 1746) (by decide +kernel)) rfl, lw_g_in (List.mem_of_getElem? (i := 107) (by decide +kernel)) rfl, lw_g_in (List.mem_of_getElem? (i := 134) (by decide +kernel)) rfl, by decide +kernel⟩
set_option maxRecDepth 20000 in
theorem cv_X11_375 : CLV RX11 375 10 yX11_startTimer 2 := ⟨TX11, 25, rfl, lw_g_in (List.mem_of_getElem? (i := 1748) (by decide +kernel)) rfl, lw_g_in (List.mem_of_getElem? (i := 1750) (by decide +kernel)) rfl, lw_g_in (List.mem_of_getElem? (i := 108) (by decide +kernel)) rfl, lw_g_in (List.mem_of_getElem? (i := 134) (by decide +kernel)) rfl, by decide +kernel⟩
set_option maxRecDepth 20000 in
theorem cv_X11_378 : CLV RX11 378 10 yX11_canCancel 2 := ⟨TX11, 25, rfl, lw_g_in (List.mem_of_getElem? (i := 1615) (by decide +kernel)) rfl, lw_g_in (List.mem_of_getElem? (i := 1617) (by decide +kernel)) rfl, lw_g_in (List.mem_of_getElem? (i := 83) (by decide +kernel)) rfl, lw_g_in (List.mem_of_getElem? (i := 134) (by decide +kernel)) rfl, by decide +kernel⟩
set_option maxRecDepth 20000 in
theorem cv_X11_381 : CLV RX11 381 10 yX11_cancelNow 2 := ⟨TX11, 25, rfl, lw_g_in (List.mem_of_getElem? (i := 1619) (by decide +kernel)) rfl, lw_g_in (List.mem_of_getElem? (i := 1621) (by decide +kernel)) rfl, lw_g_in (List.mem_of_getElem? (i := 84) (by decide +kernel)) rfl, lw_g_in (List.mem_of_getElem? (i := 134) (by decide +kernel)) rfl, by decide +kernel⟩
set_option maxRecDepth 20000 in
theorem cv_X11_384 : CLV RX11 384 10 yX11_got 1 := ⟨TX11, 25, rfl, lw_g_in (List.mem_of_getElem? (i := 1653) (by decide +kernel)) rfl, lw_g_in (List.mem_of_getElem? (i := 1655) (by decide +kernel)) rfl, lw_g_in (List.mem_of_getElem? (i := 90) (by decide +kernel)) rfl, lw_g_in (List.mem_of_getElem? (i := 134) (by decide +kernel)) rfl, by decide +kernel⟩
set_option maxRecDepth 20000 in
theorem cv_X11_387 : CLV RX11 387 10 yX11_isSeenAt 1 := ⟨TX11, 25, rfl, lw_g_in (List.mem_of_getElem? (i := 1685) (by decide +kernel)) rfl, lw_g_in (List.mem_of_getElem? (i := 1687) (by decide +kernel)) rfl, lw_g_in (List.mem_of_getElem? (i := 98) (by decide +kernel)) rfl, lw_g_in (List.mem_of_getElem? (i := 134) (by decide +kernel)) rfl, by decide +kernel⟩
set_option maxRecDepth 20000 in
theorem cv_X11_390 : CLV RX11 390 10 yX11_sendFirst 1 := ⟨TX11, 25, rfl, lw_g_in (List.mem_of_getElem? (i := 1689) (by decide +kernel)) rfl, lw_g_in (List.mem_of_getElem? (i := 1691) (by decide +kernel)) rfl, lw_g_in (List.mem_of_getElem? (i := 99) (by decide +kernel)) rfl, lw_g_in (List.mem_of_getElem? (i := 134) (by decide +kernel)) rfl, by decide +kernel⟩
set_option maxRecDepth 20000 in
theorem cv_X11_393 : CLV RX11 393 10 yX11_ringing 0 := ⟨TX11, 25, rfl, lw_g_in (List.mem_of_getElem? (i := 1756) (by decide +kernel)) rfl, lw_g_in (List.mem_of_getElem? (i := 1758) (by decide +kernel)) rfl, lw_g_in (List.mem_of_getElem? (i := 110) (by decide +kernel)) rfl, lw_g_in (List.mem_of_getElem? (i := 134) (by decide +kernel)) rfl, by decide +kernel⟩
set_option maxRecDepth 20000 in
theorem cv_X11_396 : CLV RX11 396 10 yX11_ring 1 := ⟨TX11, 25, rfl, lw_g_in (List.mem_of_getElem? (i := 1760) (by decide +kernel)) rfl, lw_g_in (List.mem_of_getElem? (i := 1762) (by decide +kernel)) rfl, lw_g_in (List.mem_of_getElem? (i := 111) (by decide +kernel)) rfl, lw_g_in (List.mem_of_getElem? (i := 134) (by decide +kernel)) rfl, by decide +kernel⟩
set_option maxRecDepth 20000 in
theorem cs_X11_399 : CLS RX11 399 yX11_stepAt 2 := ⟨lw_g_in (List.mem_of_getElem? (i := 1540) (by decide +kernel)) rfl, lw_g_in (List.mem_of_getElem? (i := 1541) (by decide +kernel)) rfl, lw_g_in (List.mem_of_getElem? (i := 134) (by decide +kernel)) rfl, by decide +kernel⟩
set_option maxRecDepth 20000 in
theorem cv_X11_402 : CLV RX11 402 10 yX11_canOpen 1 := ⟨TX11, 25, rfl, lw_g_in (List.mem_of_getElem? (i := 1547) (by decide +kernel)) rfl, lw_g_in (List.mem_of_getElem? (i := 1549) (by decide +kernel)) rfl, lw_g_in (List.mem_of_getElem? (i := 70) (by decide +kernel)) rfl, lw_g_in (List.mem_of_getElem? (i := 134) (by decide +kernel)) rfl, by decide +kernel⟩
set_option maxRecDepth 20000 in
theorem cv_X11_405 : CLV RX11 405 10 yX11_keep 0 := ⟨TX11, 25, rfl, lw_g_in (List.mem_of_getElem? (i := 1559) (by decide +kernel)) rfl, lw_g_in (List.mem_of_getElem? (i := 1561) (by decide +kernel)) rfl, lw_g_in (List.mem_of_getElem? (i := 73) (by decide +kernel)) rfl, lw_g_in (List.mem_of_getElem? (i := 134) (by decide +kernel)) rfl, by decide +kernel⟩
set_option maxRecDepth 20000 in
theorem cv_X11_408 : CLV RX11 408 10 yX11_openNow_ 1 := ⟨TX11, 25, rfl, lw_g_in (List.mem_of_getElem? (i := 1563) (by decide +kernel)) rfl, lw_g_in (List.mem_of_getElem? (i := 1565) (by decide +kernel)) rfl, lw_g_in (List.mem_of_getElem? (i := 74) (by decide +kernel)) rfl, lw_g_in (List.mem_of_getElem? (i := 134) (by decide +kernel)) rfl, by decide +kernel⟩
set_option maxRecDepth 20000 in
theorem cv_X11_410 : CLV RX11 410 10 yX11_tick 0 := ⟨TX11, 25, rfl, lw_g_in (List.mem_of_getElem? (i := 1646) (by decide +kernel)) rfl, lw_g_in (List.mem_of_getElem? (i := 1648) (by decide +kernel)) rfl, lw_g_in (List.mem_of_getElem? (i := 89) (by decide +kernel)) rfl, lw_g_in (List.mem_of_getElem? (i := 134) (by decide +kernel)) rfl, by decide +kernel⟩
set_option maxRecDepth 20000 in
theorem cv_X11_413 : CLV RX11 413 10 yX11_arePassed 1 := ⟨TX11, 25, rfl, lw_g_in (List.mem_of_getElem? (i := 1642) (by decide +kernel)) rfl, lw_g_in (List.mem_of_getElem? (i := 1644) (by decide +kernel)) rfl, lw_g_in (List.mem_of_getElem? (i := 88) (by decide +kernel)) rfl, lw_g_in (List.mem_of_getElem? (i := 134) (by decide +kernel)) rfl, by decide +kernel⟩
set_option maxRecDepth 20000 in
theorem cv_X11_416 : CLV RX11 416 10 yX11_block 2 := ⟨TX11, 25, rfl, lw_g_in (List.mem_of_getElem? (i := 1772) (by decide +kernel)) rfl, lw_g_in (List.mem_of_getElem? (i := 1350) (by decide +kernel)) rfl, lw_g_in (List.mem_of_getElem? (i := 1351) (by decide +kernel)) rfl, lw_g_in (List.mem_of_getElem? (i := 134) (by decide +kernel)) rfl, by decide +kernel⟩
set_option maxRecDepth 20000 in
theorem cv_X11_419 : CLV RX11 419 10 yX11_open 1 := ⟨TX11, 25, rfl, lw_g_in (List.mem_of_getElem? (i := 1773) (by decide +kernel)) rfl, lw_g_in (List.mem_of_getElem? (i := 1544) (by decide +kernel)) rfl, lw_g_in (List.mem_of_getElem? (i := 1545) (by decide +kernel)) rfl, lw_g_in (List.mem_of_getElem? (i := 134) (by decide +kernel)) rfl, by decide +kernel⟩
set_option maxRecDepth 20000 in
theorem cv_X11_422 : CLV RX11 422 10 yX11_cancel 2 := ⟨TX11, 25, rfl, lw_g_in (List.mem_of_getElem? (i := 1774) (by decide +kernel)) rfl, lw_g_in (List.mem_of_getElem? (i := 1612) (by decide +kernel)) rfl, lw_g_in (List.mem_of_getElem? (i := 1613) (by decide +kernel)) rfl, lw_g_in (List.mem_of_getElem? (i := 134) (by decide +kernel)) rfl, by decide +kernel⟩
set_option maxRecDepth 20000 in
theorem cv_X11_425 : CLV RX11 425 10 yX11_isPlayed 1 := ⟨TX11, 25, rfl, lw_g_in (List.mem_of_getElem? (i := 1768) (by decide +kernel)) rfl, lw_g_in (List.mem_of_getElem? (i := 1770) (by decide +kernel)) rfl, lw_g_in (List.mem_of_getElem? (i := 112) (by decide +kernel)) rfl, lw_g_in (List.mem_of_getElem? (i := 134) (by decide +kernel)) rfl, by decide +kernel⟩
set_option maxRecDepth 20000 in
theorem cv_X11_428 : CLV RX11 428 10 yX11_happens 1 := ⟨TX11, 25, rfl, lw_g_in (List.mem_of_getElem? (i := 1779) (by decide +kernel)) rfl, lw_g_in (List.mem_of_getElem? (i := 1781) (by decide +kernel)) rfl, lw_g_in (List.mem_of_getElem? (i := 113) (by decide +kernel)) rfl, lw_g_in (List.mem_of_getElem? (i := 134) (by decide +kernel)) rfl, by decide +kernel⟩
set_option maxRecDepth 20000 in
theorem cv_X11_431 : CLV RX11 431 10 yX11_told 2 := ⟨TX11, 25, rfl, lw_g_in (List.mem_of_getElem? (i := 1787) (by decide +kernel)) rfl, lw_g_in (List.mem_of_getElem? (i := 1789) (by decide +kernel)) rfl, lw_g_in (List.mem_of_getElem? (i := 114) (by decide +kernel)) rfl, lw_g_in (List.mem_of_getElem? (i := 134) (by decide +kernel)) rfl, by decide +kernel⟩
set_option maxRecDepth 20000 in
theorem cs_X11_434 : CLS RX11 434 yX11_spansOf 1 := ⟨lw_g_in (List.mem_of_getElem? (i := 1799) (by decide +kernel)) rfl, lw_g_in (List.mem_of_getElem? (i := 1800) (by decide +kernel)) rfl, lw_g_in (List.mem_of_getElem? (i := 134) (by decide +kernel)) rfl, by decide +kernel⟩
set_option maxRecDepth 20000 in
theorem cs_X11_437 : CLS RX11 437 yX11_spanOf 3 := ⟨lw_g_in (List.mem_of_getElem? (i := 1802) (by decide +kernel)) rfl, lw_g_in (List.mem_of_getElem? (i := 1803) (by decide +kernel)) rfl, lw_g_in (List.mem_of_getElem? (i := 134) (by decide +kernel)) rfl, by decide +kernel⟩
set_option maxRecDepth 20000 in
theorem cv_X11_440 : CLV RX11 440 10 yX11_toldSpan 3 := ⟨TX11, 25, rfl, lw_g_in (List.mem_of_getElem? (i := 1795) (by decide +kernel)) rfl, lw_g_in (List.mem_of_getElem? (i := 1797) (by decide +kernel)) rfl, lw_g_in (List.mem_of_getElem? (i := 115) (by decide +kernel)) rfl, lw_g_in (List.mem_of_getElem? (i := 134) (by decide +kernel)) rfl, by decide +kernel⟩
set_option maxRecDepth 20000 in
theorem cv_X11_443 : CLV RX11 443 10 yX11_ticksTo 1 := ⟨TX11, 25, rfl, lw_g_in (List.mem_of_getElem? (i := 1837) (by decide +kernel)) rfl, lw_g_in (List.mem_of_getElem? (i := 1839) (by decide +kernel)) rfl, lw_g_in (List.mem_of_getElem? (i := 116) (by decide +kernel)) rfl, lw_g_in (List.mem_of_getElem? (i := 134) (by decide +kernel)) rfl, by decide +kernel⟩
set_option maxRecDepth 20000 in
theorem cv_X11_446 : CLV RX11 446 10 yX11_seenFrom 1 := ⟨TX11, 25, rfl, lw_g_in (List.mem_of_getElem? (i := 1845) (by decide +kernel)) rfl, lw_g_in (List.mem_of_getElem? (i := 1847) (by decide +kernel)) rfl, lw_g_in (List.mem_of_getElem? (i := 117) (by decide +kernel)) rfl, lw_g_in (List.mem_of_getElem? (i := 134) (by decide +kernel)) rfl, by decide +kernel⟩
set_option maxRecDepth 20000 in
theorem cv_X11_449 : CLV RX11 449 10 yX11_lineOf 2 := ⟨TX11, 25, rfl, lw_g_in (List.mem_of_getElem? (i := 1861) (by decide +kernel)) rfl, lw_g_in (List.mem_of_getElem? (i := 1863) (by decide +kernel)) rfl, lw_g_in (List.mem_of_getElem? (i := 118) (by decide +kernel)) rfl, lw_g_in (List.mem_of_getElem? (i := 134) (by decide +kernel)) rfl, by decide +kernel⟩
set_option maxRecDepth 20000 in
theorem cv_X11_452 : CLV RX11 452 10 yX11_putAside 0 := ⟨TX11, 25, rfl, lw_g_in (List.mem_of_getElem? (i := 1873) (by decide +kernel)) rfl, lw_g_in (List.mem_of_getElem? (i := 1875) (by decide +kernel)) rfl, lw_g_in (List.mem_of_getElem? (i := 119) (by decide +kernel)) rfl, lw_g_in (List.mem_of_getElem? (i := 134) (by decide +kernel)) rfl, by decide +kernel⟩
set_option maxRecDepth 20000 in
theorem cv_X11_455 : CLV RX11 455 10 yX11_bringBack 0 := ⟨TX11, 25, rfl, lw_g_in (List.mem_of_getElem? (i := 1877) (by decide +kernel)) rfl, lw_g_in (List.mem_of_getElem? (i := 1879) (by decide +kernel)) rfl, lw_g_in (List.mem_of_getElem? (i := 120) (by decide +kernel)) rfl, lw_g_in (List.mem_of_getElem? (i := 134) (by decide +kernel)) rfl, by decide +kernel⟩
set_option maxRecDepth 20000 in
theorem cv_X11_458 : CLV RX11 458 10 yX11_endsBy 1 := ⟨TX11, 25, rfl, lw_g_in (List.mem_of_getElem? (i := 1885) (by decide +kernel)) rfl, lw_g_in (List.mem_of_getElem? (i := 1887) (by decide +kernel)) rfl, lw_g_in (List.mem_of_getElem? (i := 121) (by decide +kernel)) rfl, lw_g_in (List.mem_of_getElem? (i := 134) (by decide +kernel)) rfl, by decide +kernel⟩
set_option maxRecDepth 20000 in
theorem cs_X11_465 : CLS RX11 465 yX11_divisor 2 := ⟨lw_g_in (List.mem_of_getElem? (i := 1903) (by decide +kernel)) rfl, lw_g_in (List.mem_of_getElem? (i := 1904) (by decide +kernel)) rfl, lw_g_in (List.mem_of_getElem? (i := 134) (by decide +kernel)) rfl, by decide +kernel⟩
set_option maxRecDepth 20000 in
theorem cs_X11_470 : CLS RX11 470 yX11_isBits 1 := ⟨lw_g_in (List.mem_of_getElem? (i := 1922) (by decide +kernel)) rfl, lw_g_in (List.mem_of_getElem? (i := 1923) (by decide +kernel)) rfl, lw_g_in (List.mem_of_getElem? (i := 134) (by decide +kernel)) rfl, by decide +kernel⟩
set_option maxRecDepth 20000 in
theorem cv_X11_473 : CLV RX11 473 10 yX11_messagesOf 1 := ⟨TX11, 25, rfl, lw_g_in (List.mem_of_getElem? (i := 1978) (by decide +kernel)) rfl, lw_g_in (List.mem_of_getElem? (i := 1980) (by decide +kernel)) rfl, lw_g_in (List.mem_of_getElem? (i := 122) (by decide +kernel)) rfl, lw_g_in (List.mem_of_getElem? (i := 134) (by decide +kernel)) rfl, by decide +kernel⟩
set_option maxRecDepth 20000 in
theorem cs_J0_495 : CLS RJ0 495 yJ1_charAt_3b067 2 := ⟨lw_g_in (List.mem_of_getElem? (i := 563) (by decide +kernel)) rfl, lw_g_in (List.mem_of_getElem? (i := 564) (by decide +kernel)) rfl, lw_g_in (List.mem_of_getElem? (i := 136) (by decide +kernel)) rfl, by decide +kernel⟩
set_option maxRecDepth 20000 in
theorem cs_J0_498 : CLS RJ0 498 yJ2_charAt_3b067 2 := ⟨lw_g_in (List.mem_of_getElem? (i := 574) (by decide +kernel)) rfl, lw_g_in (List.mem_of_getElem? (i := 575) (by decide +kernel)) rfl, lw_g_in (List.mem_of_getElem? (i := 138) (by decide +kernel)) rfl, by decide +kernel⟩
set_option maxRecDepth 20000 in
theorem cs_J0_1059 : CLS RJ0 1059 yJ3_checkIndex_8e157 3 := ⟨lw_g_in (List.mem_of_getElem? (i := 571) (by decide +kernel)) rfl, lw_g_in (List.mem_of_getElem? (i := 572) (by decide +kernel)) rfl, lw_g_in (List.mem_of_getElem? (i := 137) (by decide +kernel)) rfl, by decide +kernel⟩
set_option maxRecDepth 20000 in
theorem cs_J1_9 : CLS RJ1 9 yJ0_checkIndex_df160 2 := ⟨lw_g_in (List.mem_of_getElem? (i := 566) (by decide +kernel)) rfl, lw_g_in (List.mem_of_getElem? (i := 567) (by decide +kernel)) rfl, lw_g_in (List.mem_of_getElem? (i := 135) (by decide +kernel)) rfl, by decide +kernel⟩
set_option maxRecDepth 20000 in
theorem cs_J2_48 : CLS RJ2 48 yJ2_length_9d52b 1 := ⟨lw_g_in (List.mem_of_getElem? (i := 580) (by decide +kernel)) rfl, lw_g_in (List.mem_of_getElem? (i := 581) (by decide +kernel)) rfl, lw_g_in (List.mem_of_getElem? (i := 138) (by decide +kernel)) rfl, by decide +kernel⟩
set_option maxRecDepth 20000 in
theorem cs_J2_67 : CLS RJ2 67 yJ2_checkIndex_2214a 2 := ⟨lw_g_in (List.mem_of_getElem? (i := 577) (by decide +kernel)) rfl, lw_g_in (List.mem_of_getElem? (i := 578) (by decide +kernel)) rfl, lw_g_in (List.mem_of_getElem? (i := 138) (by decide +kernel)) rfl, by decide +kernel⟩
set_option maxRecDepth 20000 in
theorem cs_J2_71 : CLS RJ2 71 yJ2_getChar_3b067 2 := ⟨lw_g_in (List.mem_of_getElem? (i := 584) (by decide +kernel)) rfl, lw_g_in (List.mem_of_getElem? (i := 585) (by decide +kernel)) rfl, lw_g_in (List.mem_of_getElem? (i := 138) (by decide +kernel)) rfl, by decide +kernel⟩
set_option maxRecDepth 20000 in
theorem cs_J2_414 : CLS RJ2 414 yJ0_checkIndex_df160 2 := ⟨lw_g_in (List.mem_of_getElem? (i := 583) (by decide +kernel)) rfl, lw_g_in (List.mem_of_getElem? (i := 567) (by decide +kernel)) rfl, lw_g_in (List.mem_of_getElem? (i := 135) (by decide +kernel)) rfl, by decide +kernel⟩
set_option maxRecDepth 20000 in
theorem cs_J7_304 : CLS RJ7 304 yJ9_min_7cf53 2 := ⟨lw_g_in (List.mem_of_getElem? (i := 685) (by decide +kernel)) rfl, lw_g_in (List.mem_of_getElem? (i := 529) (by decide +kernel)) rfl, lw_g_in (List.mem_of_getElem? (i := 129) (by decide +kernel)) rfl, by decide +kernel⟩
set_option maxRecDepth 20000 in
theorem kc_X0_9 : Cond.constant RX0 9 (1073741823) ∈ lw_g := lw_g_in (List.mem_of_getElem? (i := 798) (by decide +kernel)) rfl
set_option maxRecDepth 20000 in
theorem kc_X1_91 : Cond.constant RX1 91 (2147483647) ∈ lw_g := lw_g_in (List.mem_of_getElem? (i := 831) (by decide +kernel)) rfl
set_option maxRecDepth 20000 in
theorem kc_X11_101 : Cond.constant RX11 101 (99999) ∈ lw_g := lw_g_in (List.mem_of_getElem? (i := 1403) (by decide +kernel)) rfl
set_option maxRecDepth 20000 in
theorem kc_X11_469 : Cond.constant RX11 469 (1073741823) ∈ lw_g := lw_g_in (List.mem_of_getElem? (i := 1925) (by decide +kernel)) rfl
set_option maxRecDepth 20000 in
theorem kc_J6_265 : Cond.constant RJ6 265 (1431655765) ∈ lw_g := lw_g_in (List.mem_of_getElem? (i := 933) (by decide +kernel)) rfl
set_option maxRecDepth 20000 in
theorem kc_J6_266 : Cond.constant RJ6 266 (858993459) ∈ lw_g := lw_g_in (List.mem_of_getElem? (i := 934) (by decide +kernel)) rfl
set_option maxRecDepth 20000 in
theorem kc_J6_267 : Cond.constant RJ6 267 (252645135) ∈ lw_g := lw_g_in (List.mem_of_getElem? (i := 935) (by decide +kernel)) rfl
set_option maxRecDepth 20000 in
theorem kl_X10_331 : Cond.constantLong RX10 331 (-1) ∈ lw_g := lw_g_in (List.mem_of_getElem? (i := 1236) (by decide +kernel)) rfl
set_option maxRecDepth 20000 in
theorem kl_X10_333 : Cond.constantLong RX10 333 (10) ∈ lw_g := lw_g_in (List.mem_of_getElem? (i := 1237) (by decide +kernel)) rfl
set_option maxRecDepth 20000 in
theorem kl_X2_106 : Cond.constantLong RX2 106 (-1000000) ∈ lw_g := lw_g_in (List.mem_of_getElem? (i := 944) (by decide +kernel)) rfl
set_option maxRecDepth 20000 in
theorem kl_X2_108 : Cond.constantLong RX2 108 (1000000) ∈ lw_g := lw_g_in (List.mem_of_getElem? (i := 945) (by decide +kernel)) rfl
set_option maxRecDepth 20000 in
theorem kl_X11_109 : Cond.constantLong RX11 109 (1152921504606846976) ∈ lw_g := lw_g_in (List.mem_of_getElem? (i := 1407) (by decide +kernel)) rfl
set_option maxRecDepth 20000 in
theorem kl_X11_242 : Cond.constantLong RX11 242 (1000000) ∈ lw_g := lw_g_in (List.mem_of_getElem? (i := 1733) (by decide +kernel)) rfl
set_option maxRecDepth 20000 in
theorem kl_X11_244 : Cond.constantLong RX11 244 (-1000000) ∈ lw_g := lw_g_in (List.mem_of_getElem? (i := 1734) (by decide +kernel)) rfl
set_option maxRecDepth 20000 in
theorem kl_X11_286 : Cond.constantLong RX11 286 (757) ∈ lw_g := lw_g_in (List.mem_of_getElem? (i := 1701) (by decide +kernel)) rfl
set_option maxRecDepth 20000 in
theorem kl_X11_288 : Cond.constantLong RX11 288 (617) ∈ lw_g := lw_g_in (List.mem_of_getElem? (i := 1702) (by decide +kernel)) rfl
set_option maxRecDepth 20000 in
theorem kl_X11_290 : Cond.constantLong RX11 290 (31091) ∈ lw_g := lw_g_in (List.mem_of_getElem? (i := 1703) (by decide +kernel)) rfl
set_option maxRecDepth 20000 in
theorem kl_X11_461 : Cond.constantLong RX11 461 (-1) ∈ lw_g := lw_g_in (List.mem_of_getElem? (i := 1901) (by decide +kernel)) rfl
set_option maxRecDepth 20000 in
theorem kl_X11_463 : Cond.constantLong RX11 463 (10) ∈ lw_g := lw_g_in (List.mem_of_getElem? (i := 1902) (by decide +kernel)) rfl
