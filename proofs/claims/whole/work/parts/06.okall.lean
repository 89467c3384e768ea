theorem vok_law : vrow 171 = true := by
  have h1 : vN[171]? = some vrL := by rfl
  have h2 : vC[171]? = some vC_171 := by rfl
  unfold vrow
  rw [h1, h2]
  show vC_171.all (vche vrL) = true
  unfold vC_171
  simp only [List.all_append, vokL_0, vokL_1, vokL_2, vokL_3, vokL_4, vokL_5, vokL_6, vokL_7, Bool.and_self]
theorem vn_ok_0 : vN_0.all (fun r => r.2.2.2.2.2.2.2.1 == 9999 || vnok r) = true := by decide +kernel
theorem vn_ok_1 : vN_1.all (fun r => r.2.2.2.2.2.2.2.1 == 9999 || vnok r) = true := by decide +kernel
theorem vn_ok_2 : vN_2.all (fun r => r.2.2.2.2.2.2.2.1 == 9999 || vnok r) = true := by decide +kernel
theorem vn_ok_3 : vN_3.all (fun r => r.2.2.2.2.2.2.2.1 == 9999 || vnok r) = true := by decide +kernel
theorem vn_ok_4 : vN_4.all (fun r => r.2.2.2.2.2.2.2.1 == 9999 || vnok r) = true := by decide +kernel
set_option maxRecDepth 20000 in
theorem vcw_0 : vat 81 = some (.code yX0_init cX0_init 1 none) := by rfl
set_option maxRecDepth 20000 in
theorem vcw_1 : vat 343 = some (.code yX0_holds cX0_holds 2 (some .boolean)) := by rfl
set_option maxRecDepth 20000 in
theorem vcw_2 : vat 301 = some (.code yX0_add cX0_add 2 none) := by rfl
set_option maxRecDepth 20000 in
theorem vcw_3 : vat 360 = some (.code yX0_remove cX0_remove 2 none) := by rfl
set_option maxRecDepth 20000 in
theorem vcw_4 : vat 242 = some (.code yX0_wipe cX0_wipe 2 none) := by rfl
set_option maxRecDepth 20000 in
theorem vcw_5 : vat 282 = some (.code yX0_become cX0_become 3 none) := by rfl
set_option maxRecDepth 20000 in
theorem vcw_6 : vat 373 = some (.code yX0_addAll cX0_addAll 3 none) := by rfl
set_option maxRecDepth 20000 in
theorem vcw_7 : vat 369 = some (.code yX0_removeAll cX0_removeAll 3 none) := by rfl
set_option maxRecDepth 20000 in
theorem vcw_8 : vat 365 = some (.code yX0_keepAll cX0_keepAll 3 none) := by rfl
set_option maxRecDepth 20000 in
theorem vcw_9 : vat 250 = some (.code yX0_invert cX0_invert 2 none) := by rfl
set_option maxRecDepth 20000 in
theorem vcw_10 : vat 392 = some (.code yX0_size cX0_size 3 (some .int)) := by rfl
set_option maxRecDepth 20000 in
theorem vcw_11 : vat 456 = some (.code yX0_heldWithin cX0_heldWithin 5 (some .int)) := by rfl
set_option maxRecDepth 20000 in
theorem vcw_12 : vat 339 = some (.code yX0_pick cX0_pick 6 (some .int)) := by rfl
set_option maxRecDepth 20000 in
theorem vcw_13 : vat 308 = some (.code yX0_addSpan cX0_addSpan 4 none) := by rfl
set_option maxRecDepth 20000 in
theorem vcw_14 : vat 297 = some (.code yX0_addEach cX0_addEach 4 none) := by rfl
set_option maxRecDepth 20000 in
theorem vcw_15 : vat 351 = some (.code yX0_addMoved cX0_addMoved 4 none) := by rfl
set_option maxRecDepth 20000 in
theorem vcw_16 : vat 355 = some (.code yX0_addEachNth cX0_addEachNth 5 none) := by rfl
set_option maxRecDepth 20000 in
theorem vcw_17 : vat 329 = some (.code yX0_addOfBlocks cX0_addOfBlocks 5 none) := by rfl
set_option maxRecDepth 20000 in
theorem vcw_18 : vat 493 = some (.code yX0_wordFrom cX0_wordFrom 8 (some .long)) := by rfl
set_option maxRecDepth 20000 in
theorem vcw_19 : vat 487 = some (.code yX0_comesAgainAfter cX0_comesAgainAfter 8 (some .boolean)) := by rfl
set_option maxRecDepth 20000 in
theorem vcw_20 : vat 114 = some (.code yX1_init cX1_init 1 none) := by rfl
set_option maxRecDepth 20000 in
theorem vcw_21 : vat 460 = some (.code yX1_ask cX1_ask 6 none) := by rfl
set_option maxRecDepth 20000 in
theorem vcw_22 : vat 464 = some (.code yX1_find cX1_find 6 (some .int)) := by rfl
set_option maxRecDepth 20000 in
theorem vcw_23 : vat 468 = some (.code yX1_write cX1_write 6 none) := by rfl
set_option maxRecDepth 20000 in
theorem vcw_24 : vat 472 = some (.code yX1_makeLatest cX1_makeLatest 4 none) := by rfl
set_option maxRecDepth 20000 in
theorem vcw_25 : vat 388 = some (.code yX1_forget cX1_forget 5 none) := by rfl
set_option maxRecDepth 20000 in
theorem vcw_26 : vat 623 = some (.code yX1_forgetAll cX1_forgetAll 1 none) := by rfl
set_option maxRecDepth 20000 in
theorem vcw_27 : vat 142 = some (.code yX2_init cX2_init 1 none) := by rfl
set_option maxRecDepth 20000 in
theorem vcw_28 : vat 377 = some (.code yX2_become cX2_become 3 none) := by rfl
set_option maxRecDepth 20000 in
theorem vcw_29 : vat 406 = some (.code yX2_unrule cX2_unrule 1 none) := by rfl
set_option maxRecDepth 20000 in
theorem vcw_30 : vat 614 = some (.code yX2_take cX2_take 2 none) := by rfl
set_option maxRecDepth 20000 in
theorem vcw_31 : vat 382 = some (.code yX2_refresh cX2_refresh 1 none) := by rfl
set_option maxRecDepth 20000 in
theorem vcw_32 : vat 74 = some (.code yX3_init cX3_init 2 none) := by rfl
set_option maxRecDepth 20000 in
theorem vcw_33 : vat 215 = some (.code yX3_append cX3_append 2 (some .int)) := by rfl
set_option maxRecDepth 20000 in
theorem vcw_34 : vat 223 = some (.code yX3_empty cX3_empty 2 (some .int)) := by rfl
set_option maxRecDepth 20000 in
theorem vcw_35 : vat 234 = some (.code yX3_read cX3_read 3 (some (.object "RecurringDays$Days"))) := by rfl
set_option maxRecDepth 20000 in
theorem vcw_36 : vat 263 = some (.code yX3_here cX3_here 1 (some .int)) := by rfl
set_option maxRecDepth 20000 in
theorem vcw_37 : vat 259 = some (.code yX3_take cX3_take 2 (some .boolean)) := by rfl
set_option maxRecDepth 20000 in
theorem vcw_38 : vat 238 = some (.code yX3_readSum cX3_readSum 7 (some (.object "RecurringDays$Days"))) := by rfl
set_option maxRecDepth 20000 in
theorem vcw_39 : vat 246 = some (.code yX3_readProduct cX3_readProduct 6 (some (.object "RecurringDays$Days"))) := by rfl
set_option maxRecDepth 20000 in
theorem vcw_40 : vat 255 = some (.code yX3_readFactor cX3_readFactor 5 (some (.object "RecurringDays$Days"))) := by rfl
set_option maxRecDepth 20000 in
theorem vcw_41 : vat 267 = some (.code yX3_readPlain cX3_readPlain 5 (some .boolean)) := by rfl
set_option maxRecDepth 20000 in
theorem vcw_42 : vat 270 = some (.code yX3_hasBracket cX3_hasBracket 1 (some .boolean)) := by rfl
set_option maxRecDepth 20000 in
theorem vcw_43 : vat 286 = some (.code yX3_readUnit cX3_readUnit 5 (some .boolean)) := by rfl
set_option maxRecDepth 20000 in
theorem vcw_44 : vat 312 = some (.code yX3_readPair cX3_readPair 6 (some .boolean)) := by rfl
set_option maxRecDepth 20000 in
theorem vcw_45 : vat 316 = some (.code yX3_readOfBlocks cX3_readOfBlocks 8 (some .boolean)) := by rfl
set_option maxRecDepth 20000 in
theorem vcw_46 : vat 347 = some (.code yX3_readChanged cX3_readChanged 7 (some .boolean)) := by rfl
set_option maxRecDepth 20000 in
theorem vcw_47 : vat 274 = some (.code yX3_readInner cX3_readInner 5 (some .boolean)) := by rfl
set_option maxRecDepth 20000 in
theorem vcw_48 : vat 278 = some (.code yX3_readBracket cX3_readBracket 4 (some (.object "RecurringDays$Days"))) := by rfl
set_option maxRecDepth 20000 in
theorem vcw_49 : vat 293 = some (.code yX3_readNumber cX3_readNumber 6 (some .int)) := by rfl
set_option maxRecDepth 20000 in
theorem vcw_50 : vat 289 = some (.code yX3_mostOf cX3_mostOf 1 (some .int)) := by rfl
set_option maxRecDepth 20000 in
theorem vcw_51 : vat 319 = some (.code yX3_blockOf cX3_blockOf 1 (some .int)) := by rfl
set_option maxRecDepth 20000 in
theorem vcw_52 : vat 171 = some (.code yX4_init cX4_init 1 none) := by rfl
set_option maxRecDepth 20000 in
theorem vcw_53 : vat 578 = some (.code yX4_begin cX4_begin 3 none) := by rfl
set_option maxRecDepth 20000 in
theorem vcw_54 : vat 64 = some (.code yX5_init cX5_init 2 none) := by rfl
set_option maxRecDepth 20000 in
theorem vcw_55 : vat 211 = some (.code yX5_feed cX5_feed 2 (some .int)) := by rfl
set_option maxRecDepth 20000 in
theorem vcw_56 : vat 219 = some (.code yX5_clear cX5_clear 1 (some .int)) := by rfl
set_option maxRecDepth 20000 in
theorem vcw_57 : vat 227 = some (.code yX5_rule cX5_rule 4 (some .int)) := by rfl
set_option maxRecDepth 20000 in
theorem vcw_58 : vat 402 = some (.code yX5_drop cX5_drop 4 (some .int)) := by rfl
set_option maxRecDepth 20000 in
theorem vcw_59 : vat 411 = some (.code yX5_copy cX5_copy 4 (some .int)) := by rfl
set_option maxRecDepth 20000 in
theorem vcw_60 : vat 415 = some (.code yX5_out cX5_out 3 (some .int)) := by rfl
set_option maxRecDepth 20000 in
theorem vcw_61 : vat 428 = some (.code yX5_extra cX5_extra 3 (some .int)) := by rfl
set_option maxRecDepth 20000 in
theorem vcw_62 : vat 432 = some (.code yX5_has cX5_has 3 (some .int)) := by rfl
set_option maxRecDepth 20000 in
theorem vcw_63 : vat 436 = some (.code yX5_next cX5_next 3 (some .int)) := by rfl
set_option maxRecDepth 20000 in
theorem vcw_64 : vat 441 = some (.code yX5_ahead cX5_ahead 3 (some .int)) := by rfl
set_option maxRecDepth 20000 in
theorem vcw_65 : vat 445 = some (.code yX5_at cX5_at 3 (some .int)) := by rfl
set_option maxRecDepth 20000 in
theorem vcw_66 : vat 449 = some (.code yX5_count cX5_count 5 (some .int)) := by rfl
set_option maxRecDepth 20000 in
theorem vcw_67 : vat 476 = some (.code yX5_gap cX5_gap 6 (some .int)) := by rfl
set_option maxRecDepth 20000 in
theorem vcw_68 : vat 483 = some (.code yX5_period cX5_period 3 (some .int)) := by rfl
set_option maxRecDepth 20000 in
theorem vcw_69 : vat 497 = some (.code yX5_clash cX5_clash 7 (some .int)) := by rfl
set_option maxRecDepth 20000 in
theorem vcw_70 : vat 501 = some (.code yX5_unlike cX5_unlike 6 (some .int)) := by rfl
set_option maxRecDepth 20000 in
theorem vcw_71 : vat 505 = some (.code yX5_merged cX5_merged 3 (some .int)) := by rfl
set_option maxRecDepth 20000 in
theorem vcw_72 : vat 518 = some (.code yX5_whose cX5_whose 3 (some .int)) := by rfl
set_option maxRecDepth 20000 in
theorem vcw_73 : vat 526 = some (.code yX5_busiest cX5_busiest 8 (some .int)) := by rfl
set_option maxRecDepth 20000 in
theorem vcw_74 : vat 536 = some (.code yX5_free cX5_free 6 (some .int)) := by rfl
set_option maxRecDepth 20000 in
theorem vcw_75 : vat 540 = some (.code yX5_parts cX5_parts 7 (some .int)) := by rfl
set_option maxRecDepth 20000 in
theorem vcw_76 : vat 547 = some (.code yX5_nth cX5_nth 7 (some .int)) := by rfl
set_option maxRecDepth 20000 in
theorem vcw_77 : vat 551 = some (.code yX5_told cX5_told 2 (some .int)) := by rfl
set_option maxRecDepth 20000 in
theorem vcw_78 : vat 567 = some (.code yX5_remembered cX5_remembered 3 (some .int)) := by rfl
set_option maxRecDepth 20000 in
theorem vcw_79 : vat 571 = some (.code yX5_list cX5_list 3 (some .int)) := by rfl
set_option maxRecDepth 20000 in
theorem vcw_80 : vat 582 = some (.code yX5_put cX5_put 5 (some .int)) := by rfl
set_option maxRecDepth 20000 in
theorem vcw_81 : vat 586 = some (.code yX5_get cX5_get 4 (some .int)) := by rfl
set_option maxRecDepth 20000 in
theorem vcw_82 : vat 591 = some (.code yX5_move cX5_move 8 (some .int)) := by rfl
set_option maxRecDepth 20000 in
theorem vcw_83 : vat 598 = some (.code yX5_lay cX5_lay 10 (some .int)) := by rfl
set_option maxRecDepth 20000 in
theorem vcw_84 : vat 606 = some (.code yX5_judge cX5_judge 12 (some .int)) := by rfl
set_option maxRecDepth 20000 in
theorem vcw_85 : vat 610 = some (.code yX5_image cX5_image 2 (some .int)) := by rfl
set_option maxRecDepth 20000 in
theorem vcw_86 : vat 619 = some (.code yX5_undo cX5_undo 2 (some .int)) := by rfl
set_option maxRecDepth 20000 in
theorem vcw_87 : vat 230 = some (.code yX5_isName cX5_isName 1 (some .boolean)) := by rfl
set_option maxRecDepth 20000 in
theorem vcw_88 : vat 304 = some (.code yX5_isDay cX5_isDay 1 (some .boolean)) := by rfl
set_option maxRecDepth 20000 in
theorem vcw_89 : vat 452 = some (.code yX5_isSpan cX5_isSpan 2 (some .boolean)) := by rfl
set_option maxRecDepth 20000 in
theorem vcw_90 : vat 508 = some (.code yX5_isSet cX5_isSet 1 (some .boolean)) := by rfl
set_option maxRecDepth 20000 in
theorem vcw_91 : vat 322 = some (.code yX5_isBlock cX5_isBlock 1 (some .boolean)) := by rfl
set_option maxRecDepth 20000 in
theorem vcw_92 : vat 574 = some (.code yX5_isList cX5_isList 1 (some .boolean)) := by rfl
set_option maxRecDepth 20000 in
theorem vcw_93 : vat 332 = some (.code yX5_lastOfBlock cX5_lastOfBlock 2 (some .int)) := by rfl
set_option maxRecDepth 20000 in
theorem vcw_94 : vat 419 = some (.code yX5_toggle cX5_toggle 4 (some .int)) := by rfl
set_option maxRecDepth 20000 in
theorem vcw_95 : vat 512 = some (.code yX5_join cX5_join 3 none) := by rfl
set_option maxRecDepth 20000 in
theorem vcw_96 : vat 522 = some (.code yX5_ownersOf cX5_ownersOf 4 (some .int)) := by rfl
set_option maxRecDepth 20000 in
theorem vcw_97 : vat 555 = some (.code yX5_ruledNames cX5_ruledNames 3 (some .int)) := by rfl
set_option maxRecDepth 20000 in
theorem vcw_98 : vat 559 = some (.code yX5_daysOutOfAll cX5_daysOutOfAll 3 (some .int)) := by rfl
set_option maxRecDepth 20000 in
theorem vcw_99 : vat 563 = some (.code yX5_extraDaysOfAll cX5_extraDaysOfAll 3 (some .int)) := by rfl
set_option maxRecDepth 20000 in
theorem vcw_100 : vat 602 = some (.code yX5_refusalOf cX5_refusalOf 6 (some .int)) := by rfl
set_option maxRecDepth 20000 in
theorem vcw_101 : vat 628 = some (.code yX6_init cX6_init 1 none) := by rfl
set_option maxRecDepth 20000 in
theorem vcw_102 : vat 715 = some (.code yX6_isIn cX6_isIn 6 (some .boolean)) := by rfl
set_option maxRecDepth 20000 in
theorem vcw_103 : vat 726 = some (.code yX6_isName cX6_isName 1 (some .boolean)) := by rfl
set_option maxRecDepth 20000 in
theorem vcw_104 : vat 797 = some (.code yX6_isDay cX6_isDay 1 (some .boolean)) := by rfl
set_option maxRecDepth 20000 in
theorem vcw_105 : vat 975 = some (.code yX6_pours cX6_pours 4 none) := by rfl
set_option maxRecDepth 20000 in
theorem vcw_106 : vat 765 = some (.code yX6_isOf cX6_isOf 4 (some .boolean)) := by rfl
set_option maxRecDepth 20000 in
theorem vcw_107 : vat 809 = some (.code yX6_many cX6_many 4 (some .int)) := by rfl
set_option maxRecDepth 20000 in
theorem vcw_108 : vat 711 = some (.code yX6_feed cX6_feed 2 (some .int)) := by rfl
set_option maxRecDepth 20000 in
theorem vcw_109 : vat 719 = some (.code yX6_clear cX6_clear 2 (some .int)) := by rfl
set_option maxRecDepth 20000 in
theorem vcw_110 : vat 747 = some (.code yX6_peek cX6_peek 1 (some .int)) := by rfl
set_option maxRecDepth 20000 in
theorem vcw_111 : vat 743 = some (.code yX6_isAt cX6_isAt 2 (some .boolean)) := by rfl
set_option maxRecDepth 20000 in
theorem vcw_112 : vat 755 = some (.code yX6_takes cX6_takes 2 none) := by rfl
set_option maxRecDepth 20000 in
theorem vcw_113 : vat 773 = some (.code yX6_number cX6_number 5 (some .int)) := by rfl
set_option maxRecDepth 20000 in
theorem vcw_114 : vat 761 = some (.code yX6_fresh cX6_fresh 3 (some .int)) := by rfl
set_option maxRecDepth 20000 in
theorem vcw_115 : vat 731 = some (.code yX6_expression cX6_expression 6 (some .int)) := by rfl
set_option maxRecDepth 20000 in
theorem vcw_116 : vat 735 = some (.code yX6_term cX6_term 5 (some .int)) := by rfl
set_option maxRecDepth 20000 in
theorem vcw_117 : vat 751 = some (.code yX6_bracketed cX6_bracketed 3 (some .int)) := by rfl
set_option maxRecDepth 20000 in
theorem vcw_118 : vat 739 = some (.code yX6_factor cX6_factor 8 (some .int)) := by rfl
set_option maxRecDepth 20000 in
theorem vcw_119 : vat 769 = some (.code yX6_calendar cX6_calendar 6 (some .int)) := by rfl
set_option maxRecDepth 20000 in
theorem vcw_120 : vat 779 = some (.code yX6_stretch cX6_stretch 7 (some .int)) := by rfl
set_option maxRecDepth 20000 in
theorem vcw_121 : vat 786 = some (.code yX6_blockOf cX6_blockOf 2 (some .int)) := by rfl
set_option maxRecDepth 20000 in
theorem vcw_122 : vat 783 = some (.code yX6_blocks cX6_blocks 11 (some .int)) := by rfl
set_option maxRecDepth 20000 in
theorem vcw_123 : vat 790 = some (.code yX6_over cX6_over 4 (some .int)) := by rfl
set_option maxRecDepth 20000 in
theorem vcw_124 : vat 794 = some (.code yX6_whole cX6_whole 9 (some .int)) := by rfl
set_option maxRecDepth 20000 in
theorem vcw_125 : vat 802 = some (.code yX6_forgets cX6_forgets 4 none) := by rfl
set_option maxRecDepth 20000 in
theorem vcw_126 : vat 723 = some (.code yX6_rule cX6_rule 5 (some .int)) := by rfl
set_option maxRecDepth 20000 in
theorem vcw_127 : vat 813 = some (.code yX6_drop cX6_drop 4 (some .int)) := by rfl
set_option maxRecDepth 20000 in
theorem vcw_128 : vat 817 = some (.code yX6_copy cX6_copy 4 (some .int)) := by rfl
set_option maxRecDepth 20000 in
theorem vcw_129 : vat 825 = some (.code yX6_turns cX6_turns 5 (some .int)) := by rfl
set_option maxRecDepth 20000 in
theorem vcw_130 : vat 821 = some (.code yX6_out cX6_out 3 (some .int)) := by rfl
set_option maxRecDepth 20000 in
theorem vcw_131 : vat 829 = some (.code yX6_extra cX6_extra 3 (some .int)) := by rfl
set_option maxRecDepth 20000 in
theorem vcw_132 : vat 836 = some (.code yX6_amiss cX6_amiss 2 (some .int)) := by rfl
set_option maxRecDepth 20000 in
theorem vcw_133 : vat 833 = some (.code yX6_has cX6_has 4 (some .int)) := by rfl
set_option maxRecDepth 20000 in
theorem vcw_134 : vat 844 = some (.code yX6_nextOf cX6_nextOf 4 (some .int)) := by rfl
set_option maxRecDepth 20000 in
theorem vcw_135 : vat 840 = some (.code yX6_next cX6_next 4 (some .int)) := by rfl
set_option maxRecDepth 20000 in
theorem vcw_136 : vat 848 = some (.code yX6_ahead cX6_ahead 5 (some .int)) := by rfl
set_option maxRecDepth 20000 in
theorem vcw_137 : vat 856 = some (.code yX6_ith cX6_ith 9 (some .int)) := by rfl
set_option maxRecDepth 20000 in
theorem vcw_138 : vat 852 = some (.code yX6_at cX6_at 3 (some .int)) := by rfl
set_option maxRecDepth 20000 in
theorem vcw_139 : vat 860 = some (.code yX6_counted cX6_counted 6 (some .int)) := by rfl
set_option maxRecDepth 20000 in
theorem vcw_140 : vat 806 = some (.code yX6_puts cX6_puts 6 none) := by rfl
set_option maxRecDepth 20000 in
theorem vcw_141 : vat 864 = some (.code yX6_count cX6_count 7 (some .int)) := by rfl
set_option maxRecDepth 20000 in
theorem vcw_142 : vat 868 = some (.code yX6_gap cX6_gap 5 (some .int)) := by rfl
set_option maxRecDepth 20000 in
theorem vcw_143 : vat 873 = some (.code yX6_period cX6_period 5 (some .int)) := by rfl
set_option maxRecDepth 20000 in
theorem vcw_144 : vat 877 = some (.code yX6_clash cX6_clash 5 (some .int)) := by rfl
set_option maxRecDepth 20000 in
theorem vcw_145 : vat 881 = some (.code yX6_unlike cX6_unlike 4 (some .int)) := by rfl
set_option maxRecDepth 20000 in
theorem vcw_146 : vat 888 = some (.code yX6_isSet cX6_isSet 1 (some .boolean)) := by rfl
set_option maxRecDepth 20000 in
theorem vcw_147 : vat 893 = some (.code yX6_having cX6_having 5 (some .int)) := by rfl
set_option maxRecDepth 20000 in
theorem vcw_148 : vat 897 = some (.code yX6_mergedDay cX6_mergedDay 5 (some .int)) := by rfl
set_option maxRecDepth 20000 in
theorem vcw_149 : vat 885 = some (.code yX6_merged cX6_merged 5 (some .int)) := by rfl
set_option maxRecDepth 20000 in
theorem vcw_150 : vat 901 = some (.code yX6_whose cX6_whose 4 (some .int)) := by rfl
set_option maxRecDepth 20000 in
theorem vcw_151 : vat 909 = some (.code yX6_manyAt cX6_manyAt 5 (some .int)) := by rfl
set_option maxRecDepth 20000 in
theorem vcw_152 : vat 905 = some (.code yX6_busiest cX6_busiest 8 (some .int)) := by rfl
set_option maxRecDepth 20000 in
theorem vcw_153 : vat 913 = some (.code yX6_free cX6_free 7 (some .int)) := by rfl
set_option maxRecDepth 20000 in
theorem vcw_154 : vat 921 = some (.code yX6_isBlock cX6_isBlock 1 (some .boolean)) := by rfl
set_option maxRecDepth 20000 in
theorem vcw_155 : vat 918 = some (.code yX6_parts cX6_parts 6 (some .int)) := by rfl
set_option maxRecDepth 20000 in
theorem vcw_156 : vat 926 = some (.code yX6_nth cX6_nth 7 (some .int)) := by rfl
set_option maxRecDepth 20000 in
theorem vcw_157 : vat 931 = some (.code yX6_told cX6_told 4 (some .int)) := by rfl
set_option maxRecDepth 20000 in
theorem vcw_158 : vat 935 = some (.code yX6_remembered cX6_remembered 3 (some .int)) := by rfl
set_option maxRecDepth 20000 in
theorem vcw_159 : vat 943 = some (.code yX6_isList cX6_isList 1 (some .boolean)) := by rfl
set_option maxRecDepth 20000 in
theorem vcw_160 : vat 940 = some (.code yX6_list cX6_list 4 (some .int)) := by rfl
set_option maxRecDepth 20000 in
theorem vcw_161 : vat 947 = some (.code yX6_put cX6_put 4 (some .int)) := by rfl
set_option maxRecDepth 20000 in
theorem vcw_162 : vat 951 = some (.code yX6_get cX6_get 3 (some .int)) := by rfl
set_option maxRecDepth 20000 in
theorem vcw_163 : vat 956 = some (.code yX6_move cX6_move 7 (some .int)) := by rfl
set_option maxRecDepth 20000 in
theorem vcw_164 : vat 964 = some (.code yX6_wrong cX6_wrong 5 (some .int)) := by rfl
set_option maxRecDepth 20000 in
theorem vcw_165 : vat 960 = some (.code yX6_lay cX6_lay 8 (some .int)) := by rfl
set_option maxRecDepth 20000 in
theorem vcw_166 : vat 968 = some (.code yX6_judge cX6_judge 8 (some .int)) := by rfl
set_option maxRecDepth 20000 in
theorem vcw_167 : vat 972 = some (.code yX6_image cX6_image 1 (some .int)) := by rfl
set_option maxRecDepth 20000 in
theorem vcw_168 : vat 980 = some (.code yX6_undo cX6_undo 1 (some .int)) := by rfl
set_option maxRecDepth 20000 in
theorem vcw_169 : vat 529 = some (.code yJ6_bitCount_0f7a4 cJ6_bitCount_0f7a4 1 (some .int)) := by rfl
set_option maxRecDepth 20000 in
theorem vcw_170 : vat 395 = some (.code yJ13_bitCount_95d88 cJ13_bitCount_95d88 2 (some .int)) := by rfl
abbrev vNum : Nat := 172
theorem vn_ok_all : vN.all (fun r => r.2.2.2.2.2.2.2.1 == 9999 || vnok r) = true := by
  have h : ∀ k, k < 5 → True := fun _ _ => trivial
  unfold vN
  simp only [List.all_append, Bool.and_eq_true]
  exact ⟨vn_ok_0, vn_ok_1, vn_ok_2, vn_ok_3, vn_ok_4⟩
theorem vn_init_all : vN.all (fun r => decide (r.1.name = "<init>" → r.2.2.2.1 = none)) = true := by decide +kernel
theorem vcw_all : ∀ m, m < 171 → ∀ r, vN[m]? = some r → vcw r := by
  intro m hm r hr
  match m, hm with
  | 0, _ => have e : vN[0]? = some (yX0_init, cX0_init, 1, none, 0, 0, false, 81, 80, 9999, 51) := rfl; rw [e] at hr; cases hr; exact vcw_0
  | 1, _ => have e : vN[1]? = some (yX0_holds, cX0_holds, 2, (some .boolean), 0, 1, false, 343, 341, 342, 51) := rfl; rw [e] at hr; cases hr; exact vcw_1
  | 2, _ => have e : vN[2]? = some (yX0_add, cX0_add, 2, none, 0, 1, false, 301, 299, 300, 51) := rfl; rw [e] at hr; cases hr; exact vcw_2
  | 3, _ => have e : vN[3]? = some (yX0_remove, cX0_remove, 2, none, 0, 1, false, 360, 358, 359, 51) := rfl; rw [e] at hr; cases hr; exact vcw_3
  | 4, _ => have e : vN[4]? = some (yX0_wipe, cX0_wipe, 2, none, 0, 0, false, 242, 240, 241, 51) := rfl; rw [e] at hr; cases hr; exact vcw_4
  | 5, _ => have e : vN[5]? = some (yX0_become, cX0_become, 3, none, 0, 1, false, 282, 280, 281, 51) := rfl; rw [e] at hr; cases hr; exact vcw_5
  | 6, _ => have e : vN[6]? = some (yX0_addAll, cX0_addAll, 3, none, 0, 1, false, 373, 371, 372, 51) := rfl; rw [e] at hr; cases hr; exact vcw_6
  | 7, _ => have e : vN[7]? = some (yX0_removeAll, cX0_removeAll, 3, none, 0, 1, false, 369, 367, 368, 51) := rfl; rw [e] at hr; cases hr; exact vcw_7
  | 8, _ => have e : vN[8]? = some (yX0_keepAll, cX0_keepAll, 3, none, 0, 1, false, 365, 363, 364, 51) := rfl; rw [e] at hr; cases hr; exact vcw_8
  | 9, _ => have e : vN[9]? = some (yX0_invert, cX0_invert, 2, none, 0, 0, false, 250, 248, 249, 51) := rfl; rw [e] at hr; cases hr; exact vcw_9
  | 10, _ => have e : vN[10]? = some (yX0_size, cX0_size, 3, (some .int), 0, 0, false, 392, 390, 391, 51) := rfl; rw [e] at hr; cases hr; exact vcw_10
  | 11, _ => have e : vN[11]? = some (yX0_heldWithin, cX0_heldWithin, 5, (some .int), 0, 2, false, 456, 454, 455, 51) := rfl; rw [e] at hr; cases hr; exact vcw_11
  | 12, _ => have e : vN[12]? = some (yX0_pick, cX0_pick, 6, (some .int), 0, 3, false, 339, 337, 338, 51) := rfl; rw [e] at hr; cases hr; exact vcw_12
  | 13, _ => have e : vN[13]? = some (yX0_addSpan, cX0_addSpan, 4, none, 0, 2, false, 308, 306, 307, 51) := rfl; rw [e] at hr; cases hr; exact vcw_13
  | 14, _ => have e : vN[14]? = some (yX0_addEach, cX0_addEach, 4, none, 0, 2, false, 297, 295, 296, 51) := rfl; rw [e] at hr; cases hr; exact vcw_14
  | 15, _ => have e : vN[15]? = some (yX0_addMoved, cX0_addMoved, 4, none, 0, 2, false, 351, 349, 350, 51) := rfl; rw [e] at hr; cases hr; exact vcw_15
  | 16, _ => have e : vN[16]? = some (yX0_addEachNth, cX0_addEachNth, 5, none, 0, 2, false, 355, 353, 354, 51) := rfl; rw [e] at hr; cases hr; exact vcw_16
  | 17, _ => have e : vN[17]? = some (yX0_addOfBlocks, cX0_addOfBlocks, 5, none, 0, 3, false, 329, 327, 328, 51) := rfl; rw [e] at hr; cases hr; exact vcw_17
  | 18, _ => have e : vN[18]? = some (yX0_wordFrom, cX0_wordFrom, 8, (some .long), 0, 1, false, 493, 491, 492, 51) := rfl; rw [e] at hr; cases hr; exact vcw_18
  | 19, _ => have e : vN[19]? = some (yX0_comesAgainAfter, cX0_comesAgainAfter, 8, (some .boolean), 0, 1, false, 487, 485, 486, 51) := rfl; rw [e] at hr; cases hr; exact vcw_19
  | 20, _ => have e : vN[20]? = some (yX1_init, cX1_init, 1, none, 1, 0, false, 114, 113, 9999, 52) := rfl; rw [e] at hr; cases hr; exact vcw_20
  | 21, _ => have e : vN[21]? = some (yX1_ask, cX1_ask, 6, none, 1, 4, false, 460, 458, 459, 52) := rfl; rw [e] at hr; cases hr; exact vcw_21
  | 22, _ => have e : vN[22]? = some (yX1_find, cX1_find, 6, (some .int), 1, 3, false, 464, 463, 14, 52) := rfl; rw [e] at hr; cases hr; exact vcw_22
  | 23, _ => have e : vN[23]? = some (yX1_write, cX1_write, 6, none, 1, 4, false, 468, 467, 15, 52) := rfl; rw [e] at hr; cases hr; exact vcw_23
  | 24, _ => have e : vN[24]? = some (yX1_makeLatest, cX1_makeLatest, 4, none, 1, 1, false, 472, 471, 16, 52) := rfl; rw [e] at hr; cases hr; exact vcw_24
  | 25, _ => have e : vN[25]? = some (yX1_forget, cX1_forget, 5, none, 1, 1, false, 388, 386, 387, 52) := rfl; rw [e] at hr; cases hr; exact vcw_25
  | 26, _ => have e : vN[26]? = some (yX1_forgetAll, cX1_forgetAll, 1, none, 1, 0, false, 623, 621, 622, 52) := rfl; rw [e] at hr; cases hr; exact vcw_26
  | 27, _ => have e : vN[27]? = some (yX2_init, cX2_init, 1, none, 2, 0, false, 142, 141, 9999, 53) := rfl; rw [e] at hr; cases hr; exact vcw_27
  | 28, _ => have e : vN[28]? = some (yX2_become, cX2_become, 3, none, 2, 2, false, 377, 375, 376, 53) := rfl; rw [e] at hr; cases hr; exact vcw_28
  | 29, _ => have e : vN[29]? = some (yX2_unrule, cX2_unrule, 1, none, 2, 0, false, 406, 404, 405, 53) := rfl; rw [e] at hr; cases hr; exact vcw_29
  | 30, _ => have e : vN[30]? = some (yX2_take, cX2_take, 2, none, 2, 1, false, 614, 612, 613, 53) := rfl; rw [e] at hr; cases hr; exact vcw_30
  | 31, _ => have e : vN[31]? = some (yX2_refresh, cX2_refresh, 1, none, 2, 0, false, 382, 380, 381, 53) := rfl; rw [e] at hr; cases hr; exact vcw_31
  | 32, _ => have e : vN[32]? = some (yX3_init, cX3_init, 2, none, 3, 0, false, 74, 73, 9999, 50) := rfl; rw [e] at hr; cases hr; exact vcw_32
  | 33, _ => have e : vN[33]? = some (yX3_append, cX3_append, 2, (some .int), 3, 1, false, 215, 213, 214, 50) := rfl; rw [e] at hr; cases hr; exact vcw_33
  | 34, _ => have e : vN[34]? = some (yX3_empty, cX3_empty, 2, (some .int), 3, 0, false, 223, 221, 222, 50) := rfl; rw [e] at hr; cases hr; exact vcw_34
  | 35, _ => have e : vN[35]? = some (yX3_read, cX3_read, 3, (some (.object "RecurringDays$Days")), 3, 1, false, 234, 232, 233, 50) := rfl; rw [e] at hr; cases hr; exact vcw_35
  | 36, _ => have e : vN[36]? = some (yX3_here, cX3_here, 1, (some .int), 3, 0, false, 263, 262, 4, 50) := rfl; rw [e] at hr; cases hr; exact vcw_36
  | 37, _ => have e : vN[37]? = some (yX3_take, cX3_take, 2, (some .boolean), 3, 1, false, 259, 258, 3, 50) := rfl; rw [e] at hr; cases hr; exact vcw_37
  | 38, _ => have e : vN[38]? = some (yX3_readSum, cX3_readSum, 7, (some (.object "RecurringDays$Days")), 3, 2, false, 238, 237, 0, 50) := rfl; rw [e] at hr; cases hr; exact vcw_38
  | 39, _ => have e : vN[39]? = some (yX3_readProduct, cX3_readProduct, 6, (some (.object "RecurringDays$Days")), 3, 2, false, 246, 245, 1, 50) := rfl; rw [e] at hr; cases hr; exact vcw_39
  | 40, _ => have e : vN[40]? = some (yX3_readFactor, cX3_readFactor, 5, (some (.object "RecurringDays$Days")), 3, 2, false, 255, 254, 2, 50) := rfl; rw [e] at hr; cases hr; exact vcw_40
  | 41, _ => have e : vN[41]? = some (yX3_readPlain, cX3_readPlain, 5, (some .boolean), 3, 3, false, 267, 266, 5, 50) := rfl; rw [e] at hr; cases hr; exact vcw_41
  | 42, _ => have e : vN[42]? = some (yX3_hasBracket, cX3_hasBracket, 1, (some .boolean), 3, 1, true, 270, 269, 9999, 50) := rfl; rw [e] at hr; cases hr; exact vcw_42
  | 43, _ => have e : vN[43]? = some (yX3_readUnit, cX3_readUnit, 5, (some .boolean), 3, 2, false, 286, 285, 8, 50) := rfl; rw [e] at hr; cases hr; exact vcw_43
  | 44, _ => have e : vN[44]? = some (yX3_readPair, cX3_readPair, 6, (some .boolean), 3, 2, false, 312, 311, 10, 50) := rfl; rw [e] at hr; cases hr; exact vcw_44
  | 45, _ => have e : vN[45]? = some (yX3_readOfBlocks, cX3_readOfBlocks, 8, (some .boolean), 3, 4, false, 316, 315, 11, 50) := rfl; rw [e] at hr; cases hr; exact vcw_45
  | 46, _ => have e : vN[46]? = some (yX3_readChanged, cX3_readChanged, 7, (some .boolean), 3, 4, false, 347, 346, 12, 50) := rfl; rw [e] at hr; cases hr; exact vcw_46
  | 47, _ => have e : vN[47]? = some (yX3_readInner, cX3_readInner, 5, (some .boolean), 3, 3, false, 274, 273, 6, 50) := rfl; rw [e] at hr; cases hr; exact vcw_47
  | 48, _ => have e : vN[48]? = some (yX3_readBracket, cX3_readBracket, 4, (some (.object "RecurringDays$Days")), 3, 2, false, 278, 277, 7, 50) := rfl; rw [e] at hr; cases hr; exact vcw_48
  | 49, _ => have e : vN[49]? = some (yX3_readNumber, cX3_readNumber, 6, (some .int), 3, 2, false, 293, 292, 9, 50) := rfl; rw [e] at hr; cases hr; exact vcw_49
  | 50, _ => have e : vN[50]? = some (yX3_mostOf, cX3_mostOf, 1, (some .int), 3, 1, true, 289, 288, 9999, 50) := rfl; rw [e] at hr; cases hr; exact vcw_50
  | 51, _ => have e : vN[51]? = some (yX3_blockOf, cX3_blockOf, 1, (some .int), 3, 1, true, 319, 318, 9999, 50) := rfl; rw [e] at hr; cases hr; exact vcw_51
  | 52, _ => have e : vN[52]? = some (yX4_init, cX4_init, 1, none, 4, 0, false, 171, 170, 9999, 54) := rfl; rw [e] at hr; cases hr; exact vcw_52
  | 53, _ => have e : vN[53]? = some (yX4_begin, cX4_begin, 3, none, 4, 1, false, 578, 576, 577, 54) := rfl; rw [e] at hr; cases hr; exact vcw_53
  | 54, _ => have e : vN[54]? = some (yX5_init, cX5_init, 2, none, 5, 0, false, 64, 63, 9999, 49) := rfl; rw [e] at hr; cases hr; exact vcw_54
  | 55, _ => have e : vN[55]? = some (yX5_feed, cX5_feed, 2, (some .int), 5, 1, false, 211, 209, 210, 49) := rfl; rw [e] at hr; cases hr; exact vcw_55
  | 56, _ => have e : vN[56]? = some (yX5_clear, cX5_clear, 1, (some .int), 5, 0, false, 219, 217, 218, 49) := rfl; rw [e] at hr; cases hr; exact vcw_56
  | 57, _ => have e : vN[57]? = some (yX5_rule, cX5_rule, 4, (some .int), 5, 1, false, 227, 225, 226, 49) := rfl; rw [e] at hr; cases hr; exact vcw_57
  | 58, _ => have e : vN[58]? = some (yX5_drop, cX5_drop, 4, (some .int), 5, 1, false, 402, 400, 401, 49) := rfl; rw [e] at hr; cases hr; exact vcw_58
  | 59, _ => have e : vN[59]? = some (yX5_copy, cX5_copy, 4, (some .int), 5, 2, false, 411, 409, 410, 49) := rfl; rw [e] at hr; cases hr; exact vcw_59
  | 60, _ => have e : vN[60]? = some (yX5_out, cX5_out, 3, (some .int), 5, 2, false, 415, 413, 414, 49) := rfl; rw [e] at hr; cases hr; exact vcw_60
  | 61, _ => have e : vN[61]? = some (yX5_extra, cX5_extra, 3, (some .int), 5, 2, false, 428, 426, 427, 49) := rfl; rw [e] at hr; cases hr; exact vcw_61
  | 62, _ => have e : vN[62]? = some (yX5_has, cX5_has, 3, (some .int), 5, 2, false, 432, 430, 431, 49) := rfl; rw [e] at hr; cases hr; exact vcw_62
  | 63, _ => have e : vN[63]? = some (yX5_next, cX5_next, 3, (some .int), 5, 2, false, 436, 434, 435, 49) := rfl; rw [e] at hr; cases hr; exact vcw_63
  | 64, _ => have e : vN[64]? = some (yX5_ahead, cX5_ahead, 3, (some .int), 5, 2, false, 441, 439, 440, 49) := rfl; rw [e] at hr; cases hr; exact vcw_64
  | 65, _ => have e : vN[65]? = some (yX5_at, cX5_at, 3, (some .int), 5, 2, false, 445, 443, 444, 49) := rfl; rw [e] at hr; cases hr; exact vcw_65
  | 66, _ => have e : vN[66]? = some (yX5_count, cX5_count, 5, (some .int), 5, 3, false, 449, 447, 448, 49) := rfl; rw [e] at hr; cases hr; exact vcw_66
  | 67, _ => have e : vN[67]? = some (yX5_gap, cX5_gap, 6, (some .int), 5, 1, false, 476, 474, 475, 49) := rfl; rw [e] at hr; cases hr; exact vcw_67
  | 68, _ => have e : vN[68]? = some (yX5_period, cX5_period, 3, (some .int), 5, 1, false, 483, 481, 482, 49) := rfl; rw [e] at hr; cases hr; exact vcw_68
  | 69, _ => have e : vN[69]? = some (yX5_clash, cX5_clash, 7, (some .int), 5, 3, false, 497, 495, 496, 49) := rfl; rw [e] at hr; cases hr; exact vcw_69
  | 70, _ => have e : vN[70]? = some (yX5_unlike, cX5_unlike, 6, (some .int), 5, 2, false, 501, 499, 500, 49) := rfl; rw [e] at hr; cases hr; exact vcw_70
  | 71, _ => have e : vN[71]? = some (yX5_merged, cX5_merged, 3, (some .int), 5, 2, false, 505, 503, 504, 49) := rfl; rw [e] at hr; cases hr; exact vcw_71
  | 72, _ => have e : vN[72]? = some (yX5_whose, cX5_whose, 3, (some .int), 5, 2, false, 518, 516, 517, 49) := rfl; rw [e] at hr; cases hr; exact vcw_72
  | 73, _ => have e : vN[73]? = some (yX5_busiest, cX5_busiest, 8, (some .int), 5, 3, false, 526, 524, 525, 49) := rfl; rw [e] at hr; cases hr; exact vcw_73
  | 74, _ => have e : vN[74]? = some (yX5_free, cX5_free, 6, (some .int), 5, 3, false, 536, 534, 535, 49) := rfl; rw [e] at hr; cases hr; exact vcw_74
  | 75, _ => have e : vN[75]? = some (yX5_parts, cX5_parts, 7, (some .int), 5, 3, false, 540, 538, 539, 49) := rfl; rw [e] at hr; cases hr; exact vcw_75
  | 76, _ => have e : vN[76]? = some (yX5_nth, cX5_nth, 7, (some .int), 5, 4, false, 547, 545, 546, 49) := rfl; rw [e] at hr; cases hr; exact vcw_76
  | 77, _ => have e : vN[77]? = some (yX5_told, cX5_told, 2, (some .int), 5, 1, false, 551, 549, 550, 49) := rfl; rw [e] at hr; cases hr; exact vcw_77
  | 78, _ => have e : vN[78]? = some (yX5_remembered, cX5_remembered, 3, (some .int), 5, 2, false, 567, 565, 566, 49) := rfl; rw [e] at hr; cases hr; exact vcw_78
  | 79, _ => have e : vN[79]? = some (yX5_list, cX5_list, 3, (some .int), 5, 2, false, 571, 569, 570, 49) := rfl; rw [e] at hr; cases hr; exact vcw_79
  | 80, _ => have e : vN[80]? = some (yX5_put, cX5_put, 5, (some .int), 5, 3, false, 582, 580, 581, 49) := rfl; rw [e] at hr; cases hr; exact vcw_80
  | 81, _ => have e : vN[81]? = some (yX5_get, cX5_get, 4, (some .int), 5, 2, false, 586, 584, 585, 49) := rfl; rw [e] at hr; cases hr; exact vcw_81
  | 82, _ => have e : vN[82]? = some (yX5_move, cX5_move, 8, (some .int), 5, 5, false, 591, 589, 590, 49) := rfl; rw [e] at hr; cases hr; exact vcw_82
  | 83, _ => have e : vN[83]? = some (yX5_lay, cX5_lay, 10, (some .int), 5, 4, false, 598, 596, 597, 49) := rfl; rw [e] at hr; cases hr; exact vcw_83
  | 84, _ => have e : vN[84]? = some (yX5_judge, cX5_judge, 12, (some .int), 5, 4, false, 606, 604, 605, 49) := rfl; rw [e] at hr; cases hr; exact vcw_84
  | 85, _ => have e : vN[85]? = some (yX5_image, cX5_image, 2, (some .int), 5, 0, false, 610, 608, 609, 49) := rfl; rw [e] at hr; cases hr; exact vcw_85
  | 86, _ => have e : vN[86]? = some (yX5_undo, cX5_undo, 2, (some .int), 5, 0, false, 619, 617, 618, 49) := rfl; rw [e] at hr; cases hr; exact vcw_86
  | 87, _ => have e : vN[87]? = some (yX5_isName, cX5_isName, 1, (some .boolean), 5, 1, true, 230, 229, 9999, 49) := rfl; rw [e] at hr; cases hr; exact vcw_87
  | 88, _ => have e : vN[88]? = some (yX5_isDay, cX5_isDay, 1, (some .boolean), 5, 1, true, 304, 303, 9999, 49) := rfl; rw [e] at hr; cases hr; exact vcw_88
  | 89, _ => have e : vN[89]? = some (yX5_isSpan, cX5_isSpan, 2, (some .boolean), 5, 2, true, 452, 451, 9999, 49) := rfl; rw [e] at hr; cases hr; exact vcw_89
  | 90, _ => have e : vN[90]? = some (yX5_isSet, cX5_isSet, 1, (some .boolean), 5, 1, true, 508, 507, 9999, 49) := rfl; rw [e] at hr; cases hr; exact vcw_90
  | 91, _ => have e : vN[91]? = some (yX5_isBlock, cX5_isBlock, 1, (some .boolean), 5, 1, true, 322, 321, 9999, 49) := rfl; rw [e] at hr; cases hr; exact vcw_91
  | 92, _ => have e : vN[92]? = some (yX5_isList, cX5_isList, 1, (some .boolean), 5, 1, true, 574, 573, 9999, 49) := rfl; rw [e] at hr; cases hr; exact vcw_92
  | 93, _ => have e : vN[93]? = some (yX5_lastOfBlock, cX5_lastOfBlock, 2, (some .int), 5, 2, true, 332, 331, 9999, 49) := rfl; rw [e] at hr; cases hr; exact vcw_93
  | 94, _ => have e : vN[94]? = some (yX5_toggle, cX5_toggle, 4, (some .int), 5, 3, false, 419, 418, 13, 49) := rfl; rw [e] at hr; cases hr; exact vcw_94
  | 95, _ => have e : vN[95]? = some (yX5_join, cX5_join, 3, none, 5, 1, false, 512, 511, 17, 49) := rfl; rw [e] at hr; cases hr; exact vcw_95
  | 96, _ => have e : vN[96]? = some (yX5_ownersOf, cX5_ownersOf, 4, (some .int), 5, 1, false, 522, 521, 18, 49) := rfl; rw [e] at hr; cases hr; exact vcw_96
  | 97, _ => have e : vN[97]? = some (yX5_ruledNames, cX5_ruledNames, 3, (some .int), 5, 0, false, 555, 554, 19, 49) := rfl; rw [e] at hr; cases hr; exact vcw_97
  | 98, _ => have e : vN[98]? = some (yX5_daysOutOfAll, cX5_daysOutOfAll, 3, (some .int), 5, 0, false, 559, 558, 20, 49) := rfl; rw [e] at hr; cases hr; exact vcw_98
  | 99, _ => have e : vN[99]? = some (yX5_extraDaysOfAll, cX5_extraDaysOfAll, 3, (some .int), 5, 0, false, 563, 562, 21, 49) := rfl; rw [e] at hr; cases hr; exact vcw_99
  | 100, _ => have e : vN[100]? = some (yX5_refusalOf, cX5_refusalOf, 6, (some .int), 5, 4, false, 602, 601, 22, 49) := rfl; rw [e] at hr; cases hr; exact vcw_100
  | 101, _ => have e : vN[101]? = some (yX6_init, cX6_init, 1, none, 6, 0, false, 628, 627, 9999, 55) := rfl; rw [e] at hr; cases hr; exact vcw_101
  | 102, _ => have e : vN[102]? = some (yX6_isIn, cX6_isIn, 6, (some .boolean), 6, 3, true, 715, 714, 9999, 55) := rfl; rw [e] at hr; cases hr; exact vcw_102
  | 103, _ => have e : vN[103]? = some (yX6_isName, cX6_isName, 1, (some .boolean), 6, 1, true, 726, 725, 9999, 55) := rfl; rw [e] at hr; cases hr; exact vcw_103
  | 104, _ => have e : vN[104]? = some (yX6_isDay, cX6_isDay, 1, (some .boolean), 6, 1, true, 797, 796, 9999, 55) := rfl; rw [e] at hr; cases hr; exact vcw_104
  | 105, _ => have e : vN[105]? = some (yX6_pours, cX6_pours, 4, none, 6, 3, true, 975, 974, 9999, 55) := rfl; rw [e] at hr; cases hr; exact vcw_105
  | 106, _ => have e : vN[106]? = some (yX6_isOf, cX6_isOf, 4, (some .boolean), 6, 2, false, 765, 764, 31, 55) := rfl; rw [e] at hr; cases hr; exact vcw_106
  | 107, _ => have e : vN[107]? = some (yX6_many, cX6_many, 4, (some .int), 6, 2, true, 809, 808, 9999, 55) := rfl; rw [e] at hr; cases hr; exact vcw_107
  | 108, _ => have e : vN[108]? = some (yX6_feed, cX6_feed, 2, (some .int), 6, 1, false, 711, 709, 710, 55) := rfl; rw [e] at hr; cases hr; exact vcw_108
  | 109, _ => have e : vN[109]? = some (yX6_clear, cX6_clear, 2, (some .int), 6, 0, false, 719, 717, 718, 55) := rfl; rw [e] at hr; cases hr; exact vcw_109
  | 110, _ => have e : vN[110]? = some (yX6_peek, cX6_peek, 1, (some .int), 6, 0, false, 747, 746, 27, 55) := rfl; rw [e] at hr; cases hr; exact vcw_110
  | 111, _ => have e : vN[111]? = some (yX6_isAt, cX6_isAt, 2, (some .boolean), 6, 1, false, 743, 742, 26, 55) := rfl; rw [e] at hr; cases hr; exact vcw_111
  | 112, _ => have e : vN[112]? = some (yX6_takes, cX6_takes, 2, none, 6, 1, false, 755, 754, 29, 55) := rfl; rw [e] at hr; cases hr; exact vcw_112
  | 113, _ => have e : vN[113]? = some (yX6_number, cX6_number, 5, (some .int), 6, 2, false, 773, 772, 33, 55) := rfl; rw [e] at hr; cases hr; exact vcw_113
  | 114, _ => have e : vN[114]? = some (yX6_fresh, cX6_fresh, 3, (some .int), 6, 0, false, 761, 760, 30, 55) := rfl; rw [e] at hr; cases hr; exact vcw_114
  | 115, _ => have e : vN[115]? = some (yX6_expression, cX6_expression, 6, (some .int), 6, 1, false, 731, 730, 23, 55) := rfl; rw [e] at hr; cases hr; exact vcw_115
  | 116, _ => have e : vN[116]? = some (yX6_term, cX6_term, 5, (some .int), 6, 1, false, 735, 734, 24, 55) := rfl; rw [e] at hr; cases hr; exact vcw_116
  | 117, _ => have e : vN[117]? = some (yX6_bracketed, cX6_bracketed, 3, (some .int), 6, 1, false, 751, 750, 28, 55) := rfl; rw [e] at hr; cases hr; exact vcw_117
  | 118, _ => have e : vN[118]? = some (yX6_factor, cX6_factor, 8, (some .int), 6, 2, false, 739, 738, 25, 55) := rfl; rw [e] at hr; cases hr; exact vcw_118
  | 119, _ => have e : vN[119]? = some (yX6_calendar, cX6_calendar, 6, (some .int), 6, 1, false, 769, 768, 32, 55) := rfl; rw [e] at hr; cases hr; exact vcw_119
  | 120, _ => have e : vN[120]? = some (yX6_stretch, cX6_stretch, 7, (some .int), 6, 1, false, 779, 778, 34, 55) := rfl; rw [e] at hr; cases hr; exact vcw_120
  | 121, _ => have e : vN[121]? = some (yX6_blockOf, cX6_blockOf, 2, (some .int), 6, 2, true, 786, 785, 9999, 55) := rfl; rw [e] at hr; cases hr; exact vcw_121
  | 122, _ => have e : vN[122]? = some (yX6_blocks, cX6_blocks, 11, (some .int), 6, 2, false, 783, 782, 35, 55) := rfl; rw [e] at hr; cases hr; exact vcw_122
  | 123, _ => have e : vN[123]? = some (yX6_over, cX6_over, 4, (some .int), 6, 2, false, 790, 789, 36, 55) := rfl; rw [e] at hr; cases hr; exact vcw_123
  | 124, _ => have e : vN[124]? = some (yX6_whole, cX6_whole, 9, (some .int), 6, 2, false, 794, 793, 37, 55) := rfl; rw [e] at hr; cases hr; exact vcw_124
  | 125, _ => have e : vN[125]? = some (yX6_forgets, cX6_forgets, 4, none, 6, 1, false, 802, 801, 38, 55) := rfl; rw [e] at hr; cases hr; exact vcw_125
  | 126, _ => have e : vN[126]? = some (yX6_rule, cX6_rule, 5, (some .int), 6, 1, false, 723, 721, 722, 55) := rfl; rw [e] at hr; cases hr; exact vcw_126
  | 127, _ => have e : vN[127]? = some (yX6_drop, cX6_drop, 4, (some .int), 6, 1, false, 813, 811, 812, 55) := rfl; rw [e] at hr; cases hr; exact vcw_127
  | 128, _ => have e : vN[128]? = some (yX6_copy, cX6_copy, 4, (some .int), 6, 2, false, 817, 815, 816, 55) := rfl; rw [e] at hr; cases hr; exact vcw_128
  | 129, _ => have e : vN[129]? = some (yX6_turns, cX6_turns, 5, (some .int), 6, 3, false, 825, 824, 40, 55) := rfl; rw [e] at hr; cases hr; exact vcw_129
  | 130, _ => have e : vN[130]? = some (yX6_out, cX6_out, 3, (some .int), 6, 2, false, 821, 819, 820, 55) := rfl; rw [e] at hr; cases hr; exact vcw_130
  | 131, _ => have e : vN[131]? = some (yX6_extra, cX6_extra, 3, (some .int), 6, 2, false, 829, 827, 828, 55) := rfl; rw [e] at hr; cases hr; exact vcw_131
  | 132, _ => have e : vN[132]? = some (yX6_amiss, cX6_amiss, 2, (some .int), 6, 2, true, 836, 835, 9999, 55) := rfl; rw [e] at hr; cases hr; exact vcw_132
  | 133, _ => have e : vN[133]? = some (yX6_has, cX6_has, 4, (some .int), 6, 2, false, 833, 831, 832, 55) := rfl; rw [e] at hr; cases hr; exact vcw_133
  | 134, _ => have e : vN[134]? = some (yX6_nextOf, cX6_nextOf, 4, (some .int), 6, 2, false, 844, 843, 41, 55) := rfl; rw [e] at hr; cases hr; exact vcw_134
  | 135, _ => have e : vN[135]? = some (yX6_next, cX6_next, 4, (some .int), 6, 2, false, 840, 838, 839, 55) := rfl; rw [e] at hr; cases hr; exact vcw_135
  | 136, _ => have e : vN[136]? = some (yX6_ahead, cX6_ahead, 5, (some .int), 6, 2, false, 848, 846, 847, 55) := rfl; rw [e] at hr; cases hr; exact vcw_136
  | 137, _ => have e : vN[137]? = some (yX6_ith, cX6_ith, 9, (some .int), 6, 4, false, 856, 855, 42, 55) := rfl; rw [e] at hr; cases hr; exact vcw_137
  | 138, _ => have e : vN[138]? = some (yX6_at, cX6_at, 3, (some .int), 6, 2, false, 852, 850, 851, 55) := rfl; rw [e] at hr; cases hr; exact vcw_138
  | 139, _ => have e : vN[139]? = some (yX6_counted, cX6_counted, 6, (some .int), 6, 3, false, 860, 859, 43, 55) := rfl; rw [e] at hr; cases hr; exact vcw_139
  | 140, _ => have e : vN[140]? = some (yX6_puts, cX6_puts, 6, none, 6, 5, false, 806, 805, 39, 55) := rfl; rw [e] at hr; cases hr; exact vcw_140
  | 141, _ => have e : vN[141]? = some (yX6_count, cX6_count, 7, (some .int), 6, 3, false, 864, 862, 863, 55) := rfl; rw [e] at hr; cases hr; exact vcw_141
  | 142, _ => have e : vN[142]? = some (yX6_gap, cX6_gap, 5, (some .int), 6, 1, false, 868, 866, 867, 55) := rfl; rw [e] at hr; cases hr; exact vcw_142
  | 143, _ => have e : vN[143]? = some (yX6_period, cX6_period, 5, (some .int), 6, 1, false, 873, 871, 872, 55) := rfl; rw [e] at hr; cases hr; exact vcw_143
  | 144, _ => have e : vN[144]? = some (yX6_clash, cX6_clash, 5, (some .int), 6, 3, false, 877, 875, 876, 55) := rfl; rw [e] at hr; cases hr; exact vcw_144
  | 145, _ => have e : vN[145]? = some (yX6_unlike, cX6_unlike, 4, (some .int), 6, 2, false, 881, 879, 880, 55) := rfl; rw [e] at hr; cases hr; exact vcw_145
  | 146, _ => have e : vN[146]? = some (yX6_isSet, cX6_isSet, 1, (some .boolean), 6, 1, true, 888, 887, 9999, 55) := rfl; rw [e] at hr; cases hr; exact vcw_146
  | 147, _ => have e : vN[147]? = some (yX6_having, cX6_having, 5, (some .int), 6, 2, false, 893, 892, 44, 55) := rfl; rw [e] at hr; cases hr; exact vcw_147
  | 148, _ => have e : vN[148]? = some (yX6_mergedDay, cX6_mergedDay, 5, (some .int), 6, 2, false, 897, 896, 45, 55) := rfl; rw [e] at hr; cases hr; exact vcw_148
  | 149, _ => have e : vN[149]? = some (yX6_merged, cX6_merged, 5, (some .int), 6, 2, false, 885, 883, 884, 55) := rfl; rw [e] at hr; cases hr; exact vcw_149
  | 150, _ => have e : vN[150]? = some (yX6_whose, cX6_whose, 4, (some .int), 6, 2, false, 901, 899, 900, 55) := rfl; rw [e] at hr; cases hr; exact vcw_150
  | 151, _ => have e : vN[151]? = some (yX6_manyAt, cX6_manyAt, 5, (some .int), 6, 1, false, 909, 908, 46, 55) := rfl; rw [e] at hr; cases hr; exact vcw_151
  | 152, _ => have e : vN[152]? = some (yX6_busiest, cX6_busiest, 8, (some .int), 6, 3, false, 905, 903, 904, 55) := rfl; rw [e] at hr; cases hr; exact vcw_152
  | 153, _ => have e : vN[153]? = some (yX6_free, cX6_free, 7, (some .int), 6, 3, false, 913, 911, 912, 55) := rfl; rw [e] at hr; cases hr; exact vcw_153
  | 154, _ => have e : vN[154]? = some (yX6_isBlock, cX6_isBlock, 1, (some .boolean), 6, 1, true, 921, 920, 9999, 55) := rfl; rw [e] at hr; cases hr; exact vcw_154
  | 155, _ => have e : vN[155]? = some (yX6_parts, cX6_parts, 6, (some .int), 6, 3, false, 918, 916, 917, 55) := rfl; rw [e] at hr; cases hr; exact vcw_155
  | 156, _ => have e : vN[156]? = some (yX6_nth, cX6_nth, 7, (some .int), 6, 4, false, 926, 924, 925, 55) := rfl; rw [e] at hr; cases hr; exact vcw_156
  | 157, _ => have e : vN[157]? = some (yX6_told, cX6_told, 4, (some .int), 6, 1, false, 931, 929, 930, 55) := rfl; rw [e] at hr; cases hr; exact vcw_157
  | 158, _ => have e : vN[158]? = some (yX6_remembered, cX6_remembered, 3, (some .int), 6, 2, false, 935, 933, 934, 55) := rfl; rw [e] at hr; cases hr; exact vcw_158
  | 159, _ => have e : vN[159]? = some (yX6_isList, cX6_isList, 1, (some .boolean), 6, 1, true, 943, 942, 9999, 55) := rfl; rw [e] at hr; cases hr; exact vcw_159
  | 160, _ => have e : vN[160]? = some (yX6_list, cX6_list, 4, (some .int), 6, 2, false, 940, 938, 939, 55) := rfl; rw [e] at hr; cases hr; exact vcw_160
  | 161, _ => have e : vN[161]? = some (yX6_put, cX6_put, 4, (some .int), 6, 3, false, 947, 945, 946, 55) := rfl; rw [e] at hr; cases hr; exact vcw_161
  | 162, _ => have e : vN[162]? = some (yX6_get, cX6_get, 3, (some .int), 6, 2, false, 951, 949, 950, 55) := rfl; rw [e] at hr; cases hr; exact vcw_162
  | 163, _ => have e : vN[163]? = some (yX6_move, cX6_move, 7, (some .int), 6, 5, false, 956, 954, 955, 55) := rfl; rw [e] at hr; cases hr; exact vcw_163
  | 164, _ => have e : vN[164]? = some (yX6_wrong, cX6_wrong, 5, (some .int), 6, 4, false, 964, 963, 47, 55) := rfl; rw [e] at hr; cases hr; exact vcw_164
  | 165, _ => have e : vN[165]? = some (yX6_lay, cX6_lay, 8, (some .int), 6, 4, false, 960, 958, 959, 55) := rfl; rw [e] at hr; cases hr; exact vcw_165
  | 166, _ => have e : vN[166]? = some (yX6_judge, cX6_judge, 8, (some .int), 6, 4, false, 968, 966, 967, 55) := rfl; rw [e] at hr; cases hr; exact vcw_166
  | 167, _ => have e : vN[167]? = some (yX6_image, cX6_image, 1, (some .int), 6, 0, false, 972, 970, 971, 55) := rfl; rw [e] at hr; cases hr; exact vcw_167
  | 168, _ => have e : vN[168]? = some (yX6_undo, cX6_undo, 1, (some .int), 6, 0, false, 980, 978, 979, 55) := rfl; rw [e] at hr; cases hr; exact vcw_168
  | 169, _ => have e : vN[169]? = some (yJ6_bitCount_0f7a4, cJ6_bitCount_0f7a4, 1, (some .int), 99, 1, true, 529, 528, 9999, 58) := rfl; rw [e] at hr; cases hr; exact vcw_169
  | 170, _ => have e : vN[170]? = some (yJ13_bitCount_95d88, cJ13_bitCount_95d88, 2, (some .int), 99, 1, true, 395, 394, 9999, 57) := rfl; rw [e] at hr; cases hr; exact vcw_170
  | k + 171, h => exact absurd h (by omega)
theorem vrow_all : ∀ m, m < 172 → vrow m = true := by
  intro m hm
  match m, hm with
  | 0, _ => exact vok_0
  | 1, _ => exact vok_1
  | 2, _ => exact vok_2
  | 3, _ => exact vok_3
  | 4, _ => exact vok_4
  | 5, _ => exact vok_5
  | 6, _ => exact vok_6
  | 7, _ => exact vok_7
  | 8, _ => exact vok_8
  | 9, _ => exact vok_9
  | 10, _ => exact vok_10
  | 11, _ => exact vok_11
  | 12, _ => exact vok_12
  | 13, _ => exact vok_13
  | 14, _ => exact vok_14
  | 15, _ => exact vok_15
  | 16, _ => exact vok_16
  | 17, _ => exact vok_17
  | 18, _ => exact vok_18
  | 19, _ => exact vok_19
  | 20, _ => exact vok_20
  | 21, _ => exact vok_21
  | 22, _ => exact vok_22
  | 23, _ => exact vok_23
  | 24, _ => exact vok_24
  | 25, _ => exact vok_25
  | 26, _ => exact vok_26
  | 27, _ => exact vok_27
  | 28, _ => exact vok_28
  | 29, _ => exact vok_29
  | 30, _ => exact vok_30
  | 31, _ => exact vok_31
  | 32, _ => exact vok_32
  | 33, _ => exact vok_33
  | 34, _ => exact vok_34
  | 35, _ => exact vok_35
  | 36, _ => exact vok_36
  | 37, _ => exact vok_37
  | 38, _ => exact vok_38
  | 39, _ => exact vok_39
  | 40, _ => exact vok_40
  | 41, _ => exact vok_41
  | 42, _ => exact vok_42
  | 43, _ => exact vok_43
  | 44, _ => exact vok_44
  | 45, _ => exact vok_45
  | 46, _ => exact vok_46
  | 47, _ => exact vok_47
  | 48, _ => exact vok_48
  | 49, _ => exact vok_49
  | 50, _ => exact vok_50
  | 51, _ => exact vok_51
  | 52, _ => exact vok_52
  | 53, _ => exact vok_53
  | 54, _ => exact vok_54
  | 55, _ => exact vok_55
  | 56, _ => exact vok_56
  | 57, _ => exact vok_57
  | 58, _ => exact vok_58
  | 59, _ => exact vok_59
  | 60, _ => exact vok_60
  | 61, _ => exact vok_61
  | 62, _ => exact vok_62
  | 63, _ => exact vok_63
  | 64, _ => exact vok_64
  | 65, _ => exact vok_65
  | 66, _ => exact vok_66
  | 67, _ => exact vok_67
  | 68, _ => exact vok_68
  | 69, _ => exact vok_69
  | 70, _ => exact vok_70
  | 71, _ => exact vok_71
  | 72, _ => exact vok_72
  | 73, _ => exact vok_73
  | 74, _ => exact vok_74
  | 75, _ => exact vok_75
  | 76, _ => exact vok_76
  | 77, _ => exact vok_77
  | 78, _ => exact vok_78
  | 79, _ => exact vok_79
  | 80, _ => exact vok_80
  | 81, _ => exact vok_81
  | 82, _ => exact vok_82
  | 83, _ => exact vok_83
  | 84, _ => exact vok_84
  | 85, _ => exact vok_85
  | 86, _ => exact vok_86
  | 87, _ => exact vok_87
  | 88, _ => exact vok_88
  | 89, _ => exact vok_89
  | 90, _ => exact vok_90
  | 91, _ => exact vok_91
  | 92, _ => exact vok_92
  | 93, _ => exact vok_93
  | 94, _ => exact vok_94
  | 95, _ => exact vok_95
  | 96, _ => exact vok_96
  | 97, _ => exact vok_97
  | 98, _ => exact vok_98
  | 99, _ => exact vok_99
  | 100, _ => exact vok_100
  | 101, _ => exact vok_101
  | 102, _ => exact vok_102
  | 103, _ => exact vok_103
  | 104, _ => exact vok_104
  | 105, _ => exact vok_105
  | 106, _ => exact vok_106
  | 107, _ => exact vok_107
  | 108, _ => exact vok_108
  | 109, _ => exact vok_109
  | 110, _ => exact vok_110
  | 111, _ => exact vok_111
  | 112, _ => exact vok_112
  | 113, _ => exact vok_113
  | 114, _ => exact vok_114
  | 115, _ => exact vok_115
  | 116, _ => exact vok_116
  | 117, _ => exact vok_117
  | 118, _ => exact vok_118
  | 119, _ => exact vok_119
  | 120, _ => exact vok_120
  | 121, _ => exact vok_121
  | 122, _ => exact vok_122
  | 123, _ => exact vok_123
  | 124, _ => exact vok_124
  | 125, _ => exact vok_125
  | 126, _ => exact vok_126
  | 127, _ => exact vok_127
  | 128, _ => exact vok_128
  | 129, _ => exact vok_129
  | 130, _ => exact vok_130
  | 131, _ => exact vok_131
  | 132, _ => exact vok_132
  | 133, _ => exact vok_133
  | 134, _ => exact vok_134
  | 135, _ => exact vok_135
  | 136, _ => exact vok_136
  | 137, _ => exact vok_137
  | 138, _ => exact vok_138
  | 139, _ => exact vok_139
  | 140, _ => exact vok_140
  | 141, _ => exact vok_141
  | 142, _ => exact vok_142
  | 143, _ => exact vok_143
  | 144, _ => exact vok_144
  | 145, _ => exact vok_145
  | 146, _ => exact vok_146
  | 147, _ => exact vok_147
  | 148, _ => exact vok_148
  | 149, _ => exact vok_149
  | 150, _ => exact vok_150
  | 151, _ => exact vok_151
  | 152, _ => exact vok_152
  | 153, _ => exact vok_153
  | 154, _ => exact vok_154
  | 155, _ => exact vok_155
  | 156, _ => exact vok_156
  | 157, _ => exact vok_157
  | 158, _ => exact vok_158
  | 159, _ => exact vok_159
  | 160, _ => exact vok_160
  | 161, _ => exact vok_161
  | 162, _ => exact vok_162
  | 163, _ => exact vok_163
  | 164, _ => exact vok_164
  | 165, _ => exact vok_165
  | 166, _ => exact vok_166
  | 167, _ => exact vok_167
  | 168, _ => exact vok_168
  | 169, _ => exact vok_169
  | 170, _ => exact vok_170
  | 171, _ => exact vok_law
  | k + 172, h => exact absurd h (by omega)
