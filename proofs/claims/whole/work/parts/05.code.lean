/-! the code of each method is the Statement's -/
set_option maxRecDepth 40000 in
theorem zci_0 : Cond.code yX0_init cX0_init 1 none ∈ zW := zW_of (i := 103) rfl (by decide +kernel)
set_option maxRecDepth 40000 in
theorem zci_1 : Cond.code yX0_become cX0_become 6 none ∈ zW := zW_of (i := 318) rfl (by decide +kernel)
set_option maxRecDepth 40000 in
theorem zci_2 : Cond.code yX0_findComing cX0_findComing 3 none ∈ zW := zW_of (i := 332) rfl (by decide +kernel)
set_option maxRecDepth 40000 in
theorem zci_3 : Cond.code yX0_findLoads cX0_findLoads 3 none ∈ zW := zW_of (i := 336) rfl (by decide +kernel)
set_option maxRecDepth 40000 in
theorem zci_4 : Cond.code yX0_price cX0_price 2 (some .int) ∈ zW := zW_of (i := 380) rfl (by decide +kernel)
set_option maxRecDepth 40000 in
theorem zci_5 : Cond.code yX0_heavy cX0_heavy 2 (some .int) ∈ zW := zW_of (i := 340) rfl (by decide +kernel)
set_option maxRecDepth 40000 in
theorem zci_6 : Cond.code yX0_whoPays cX0_whoPays 4 (some .int) ∈ zW := zW_of (i := 376) rfl (by decide +kernel)
set_option maxRecDepth 40000 in
theorem zci_7 : Cond.code yX0_knowsAll cX0_knowsAll 5 (some .boolean) ∈ zW := zW_of (i := 484) rfl (by decide +kernel)
set_option maxRecDepth 40000 in
theorem zci_8 : Cond.code yX0_carries cX0_carries 2 (some .boolean) ∈ zW := zW_of (i := 392) rfl (by decide +kernel)
set_option maxRecDepth 40000 in
theorem zci_9 : Cond.code yX1_init cX1_init 2 none ∈ zW := zW_of (i := 195) rfl (by decide +kernel)
set_option maxRecDepth 40000 in
theorem zci_10 : Cond.code yX1_firstWrong cX1_firstWrong 9 (some .int) ∈ zW := zW_of (i := 489) rfl (by decide +kernel)
set_option maxRecDepth 40000 in
theorem zci_11 : Cond.code yX1_leastWaiting cX1_leastWaiting 5 (some .int) ∈ zW := zW_of (i := 498) rfl (by decide +kernel)
set_option maxRecDepth 40000 in
theorem zci_12 : Cond.code yX1_cross cX1_cross 9 none ∈ zW := zW_of (i := 503) rfl (by decide +kernel)
set_option maxRecDepth 40000 in
theorem zci_13 : Cond.code yX2_init cX2_init 1 none ∈ zW := zW_of (i := 154) rfl (by decide +kernel)
set_option maxRecDepth 40000 in
theorem zci_14 : Cond.code yX2_add cX2_add 4 (some .int) ∈ zW := zW_of (i := 432) rfl (by decide +kernel)
set_option maxRecDepth 40000 in
theorem zci_15 : Cond.code yX2_lentBy cX2_lentBy 2 (some .int) ∈ zW := zW_of (i := 348) rfl (by decide +kernel)
set_option maxRecDepth 40000 in
theorem zci_16 : Cond.code yX2_lentTo cX2_lentTo 2 (some .int) ∈ zW := zW_of (i := 356) rfl (by decide +kernel)
set_option maxRecDepth 40000 in
theorem zci_17 : Cond.code yX2_sum cX2_sum 5 (some .int) ∈ zW := zW_of (i := 352) rfl (by decide +kernel)
set_option maxRecDepth 40000 in
theorem zci_18 : Cond.code yX3_init cX3_init 1 none ∈ zW := zW_of (i := 174) rfl (by decide +kernel)
set_option maxRecDepth 40000 in
theorem zci_19 : Cond.code yX3_add cX3_add 4 (some .int) ∈ zW := zW_of (i := 541) rfl (by decide +kernel)
set_option maxRecDepth 40000 in
theorem zci_20 : Cond.code yX3_allSo cX3_allSo 4 (some .boolean) ∈ zW := zW_of (i := 553) rfl (by decide +kernel)
set_option maxRecDepth 40000 in
theorem zci_21 : Cond.code yX4_init cX4_init 1 none ∈ zW := zW_of (i := 80) rfl (by decide +kernel)
set_option maxRecDepth 40000 in
theorem zci_22 : Cond.code yX4_renew cX4_renew 3 none ∈ zW := zW_of (i := 565) rfl (by decide +kernel)
set_option maxRecDepth 40000 in
theorem zci_23 : Cond.code yX4_holds cX4_holds 3 (some .boolean) ∈ zW := zW_of (i := 295) rfl (by decide +kernel)
set_option maxRecDepth 40000 in
theorem zci_24 : Cond.code yX4_faultOfCells cX4_faultOfCells 4 (some .int) ∈ zW := zW_of (i := 291) rfl (by decide +kernel)
set_option maxRecDepth 40000 in
theorem zci_25 : Cond.code yX4_write cX4_write 3 none ∈ zW := zW_of (i := 578) rfl (by decide +kernel)
set_option maxRecDepth 40000 in
theorem zci_26 : Cond.code yX5_firstFault cX5_firstFault 5 (some .int) ∈ zW := zW_of (i := 302) rfl (by decide +kernel)
set_option maxRecDepth 40000 in
theorem zci_27 : Cond.code yX5_mayStand cX5_mayStand 3 (some .boolean) ∈ zW := zW_of (i := 305) rfl (by decide +kernel)
set_option maxRecDepth 40000 in
theorem zci_28 : Cond.code yX5_mayStandInHead cX5_mayStandInHead 3 (some .boolean) ∈ zW := zW_of (i := 308) rfl (by decide +kernel)
set_option maxRecDepth 40000 in
theorem zci_29 : Cond.code yX5_mayStandInPart cX5_mayStandInPart 2 (some .boolean) ∈ zW := zW_of (i := 314) rfl (by decide +kernel)
set_option maxRecDepth 40000 in
theorem zci_30 : Cond.code yX5_isDigit cX5_isDigit 3 (some .boolean) ∈ zW := zW_of (i := 311) rfl (by decide +kernel)
set_option maxRecDepth 40000 in
theorem zci_31 : Cond.code yX5_kindOf cX5_kindOf 1 (some .int) ∈ zW := zW_of (i := 328) rfl (by decide +kernel)
set_option maxRecDepth 40000 in
theorem zci_32 : Cond.code yX5_digit cX5_digit 2 (some .int) ∈ zW := zW_of (i := 321) rfl (by decide +kernel)
set_option maxRecDepth 40000 in
theorem zci_33 : Cond.code yX5_twoDigits cX5_twoDigits 2 (some .int) ∈ zW := zW_of (i := 324) rfl (by decide +kernel)
set_option maxRecDepth 40000 in
theorem zci_34 : Cond.code yX6_init cX6_init 2 none ∈ zW := zW_of (i := 208) rfl (by decide +kernel)
set_option maxRecDepth 40000 in
theorem zci_35 : Cond.code yX6_goThrough cX6_goThrough 7 none ∈ zW := zW_of (i := 360) rfl (by decide +kernel)
set_option maxRecDepth 40000 in
theorem zci_36 : Cond.code yX6_lineUp cX6_lineUp 5 none ∈ zW := zW_of (i := 364) rfl (by decide +kernel)
set_option maxRecDepth 40000 in
theorem zci_37 : Cond.code yX6_rank cX6_rank 4 (some .int) ∈ zW := zW_of (i := 368) rfl (by decide +kernel)
set_option maxRecDepth 40000 in
theorem zci_38 : Cond.code yX6_firstOf cX6_firstOf 3 (some .int) ∈ zW := zW_of (i := 384) rfl (by decide +kernel)
set_option maxRecDepth 40000 in
theorem zci_39 : Cond.code yX6_seat cX6_seat 5 (some .int) ∈ zW := zW_of (i := 388) rfl (by decide +kernel)
set_option maxRecDepth 40000 in
theorem zci_40 : Cond.code yX6_freed cX6_freed 2 (some .int) ∈ zW := zW_of (i := 402) rfl (by decide +kernel)
set_option maxRecDepth 40000 in
theorem zci_41 : Cond.code yX6_note cX6_note 4 none ∈ zW := zW_of (i := 406) rfl (by decide +kernel)
set_option maxRecDepth 40000 in
theorem zci_42 : Cond.code yX6_waitOf cX6_waitOf 3 (some .int) ∈ zW := zW_of (i := 467) rfl (by decide +kernel)
set_option maxRecDepth 40000 in
theorem zci_43 : Cond.code yX6_waitOfAll cX6_waitOfAll 3 (some .int) ∈ zW := zW_of (i := 475) rfl (by decide +kernel)
set_option maxRecDepth 40000 in
theorem zci_44 : Cond.code yX6_longestWait cX6_longestWait 3 (some .int) ∈ zW := zW_of (i := 515) rfl (by decide +kernel)
set_option maxRecDepth 40000 in
theorem zci_45 : Cond.code yX7_init cX7_init 3 none ∈ zW := zW_of (i := 71) rfl (by decide +kernel)
set_option maxRecDepth 40000 in
theorem zci_46 : Cond.code yX7_bank cX7_bank 8 (some .int) ∈ zW := zW_of (i := 277) rfl (by decide +kernel)
set_option maxRecDepth 40000 in
theorem zci_47 : Cond.code yX7_ofShade cX7_ofShade 3 (some .int) ∈ zW := zW_of (i := 410) rfl (by decide +kernel)
set_option maxRecDepth 40000 in
theorem zci_48 : Cond.code yX7_law cX7_law 3 (some .int) ∈ zW := zW_of (i := 420) rfl (by decide +kernel)
set_option maxRecDepth 40000 in
theorem zci_49 : Cond.code yX7_loan cX7_loan 5 (some .int) ∈ zW := zW_of (i := 428) rfl (by decide +kernel)
set_option maxRecDepth 40000 in
theorem zci_50 : Cond.code yX7_undo cX7_undo 2 (some .int) ∈ zW := zW_of (i := 436) rfl (by decide +kernel)
set_option maxRecDepth 40000 in
theorem zci_51 : Cond.code yX7_over cX7_over 2 (some .int) ∈ zW := zW_of (i := 440) rfl (by decide +kernel)
set_option maxRecDepth 40000 in
theorem zci_52 : Cond.code yX7_overBy cX7_overBy 2 (some .int) ∈ zW := zW_of (i := 444) rfl (by decide +kernel)
set_option maxRecDepth 40000 in
theorem zci_53 : Cond.code yX7_rower cX7_rower 2 (some .int) ∈ zW := zW_of (i := 455) rfl (by decide +kernel)
set_option maxRecDepth 40000 in
theorem zci_54 : Cond.code yX7_sits cX7_sits 2 (some .int) ∈ zW := zW_of (i := 459) rfl (by decide +kernel)
set_option maxRecDepth 40000 in
theorem zci_55 : Cond.code yX7_waits cX7_waits 2 (some .int) ∈ zW := zW_of (i := 463) rfl (by decide +kernel)
set_option maxRecDepth 40000 in
theorem zci_56 : Cond.code yX7_allWait cX7_allWait 1 (some .int) ∈ zW := zW_of (i := 471) rfl (by decide +kernel)
set_option maxRecDepth 40000 in
theorem zci_57 : Cond.code yX7_crossings cX7_crossings 7 (some .int) ∈ zW := zW_of (i := 480) rfl (by decide +kernel)
set_option maxRecDepth 40000 in
theorem zci_58 : Cond.code yX7_least cX7_least 1 (some .int) ∈ zW := zW_of (i := 494) rfl (by decide +kernel)
set_option maxRecDepth 40000 in
theorem zci_59 : Cond.code yX7_laws cX7_laws 4 (some .int) ∈ zW := zW_of (i := 511) rfl (by decide +kernel)
set_option maxRecDepth 40000 in
theorem zci_60 : Cond.code yX7_gain cX7_gain 6 (some .int) ∈ zW := zW_of (i := 522) rfl (by decide +kernel)
set_option maxRecDepth 40000 in
theorem zci_61 : Cond.code yX7_favours cX7_favours 3 (some .int) ∈ zW := zW_of (i := 533) rfl (by decide +kernel)
set_option maxRecDepth 40000 in
theorem zci_62 : Cond.code yX7_reading cX7_reading 4 (some .int) ∈ zW := zW_of (i := 537) rfl (by decide +kernel)
set_option maxRecDepth 40000 in
theorem zci_63 : Cond.code yX7_back cX7_back 2 (some .int) ∈ zW := zW_of (i := 545) rfl (by decide +kernel)
set_option maxRecDepth 40000 in
theorem zci_64 : Cond.code yX7_payers cX7_payers 4 (some .int) ∈ zW := zW_of (i := 549) rfl (by decide +kernel)
set_option maxRecDepth 40000 in
theorem zci_65 : Cond.code yX7_rules cX7_rules 3 (some .int) ∈ zW := zW_of (i := 557) rfl (by decide +kernel)
set_option maxRecDepth 40000 in
theorem zci_66 : Cond.code yX7_sheet cX7_sheet 4 (some .int) ∈ zW := zW_of (i := 561) rfl (by decide +kernel)
set_option maxRecDepth 40000 in
theorem zci_67 : Cond.code yX7_lose cX7_lose 3 (some .int) ∈ zW := zW_of (i := 570) rfl (by decide +kernel)
set_option maxRecDepth 40000 in
theorem zci_68 : Cond.code yX7_put cX7_put 5 (some .int) ∈ zW := zW_of (i := 574) rfl (by decide +kernel)
set_option maxRecDepth 40000 in
theorem zci_69 : Cond.code yX7_cell cX7_cell 4 (some .long) ∈ zW := zW_of (i := 582) rfl (by decide +kernel)
set_option maxRecDepth 40000 in
theorem zci_70 : Cond.code yX7_copy cX7_copy 8 (some .int) ∈ zW := zW_of (i := 587) rfl (by decide +kernel)
set_option maxRecDepth 40000 in
theorem zci_71 : Cond.code yX7_tell cX7_tell 2 (some .int) ∈ zW := zW_of (i := 592) rfl (by decide +kernel)
set_option maxRecDepth 40000 in
theorem zci_72 : Cond.code yX7_hail cX7_hail 2 (some .int) ∈ zW := zW_of (i := 612) rfl (by decide +kernel)
set_option maxRecDepth 40000 in
theorem zci_73 : Cond.code yX7_as cX7_as 3 (some .int) ∈ zW := zW_of (i := 624) rfl (by decide +kernel)
set_option maxRecDepth 40000 in
theorem zci_74 : Cond.code yX7_trace cX7_trace 1 (some .int) ∈ zW := zW_of (i := 628) rfl (by decide +kernel)
set_option maxRecDepth 40000 in
theorem zci_75 : Cond.code yX7_fault cX7_fault 1 (some .int) ∈ zW := zW_of (i := 632) rfl (by decide +kernel)
set_option maxRecDepth 40000 in
theorem zci_76 : Cond.code yX7_many cX7_many 2 (some .int) ∈ zW := zW_of (i := 636) rfl (by decide +kernel)
set_option maxRecDepth 40000 in
theorem zci_77 : Cond.code yX7_noBank cX7_noBank 1 (some .boolean) ∈ zW := zW_of (i := 424) rfl (by decide +kernel)
set_option maxRecDepth 40000 in
theorem zci_78 : Cond.code yX7_isShade cX7_isShade 2 (some .boolean) ∈ zW := zW_of (i := 414) rfl (by decide +kernel)
set_option maxRecDepth 40000 in
theorem zci_79 : Cond.code yX7_isNight cX7_isNight 1 (some .boolean) ∈ zW := zW_of (i := 451) rfl (by decide +kernel)
set_option maxRecDepth 40000 in
theorem zci_80 : Cond.code yX7_isSheet cX7_isSheet 1 (some .boolean) ∈ zW := zW_of (i := 280) rfl (by decide +kernel)
set_option maxRecDepth 40000 in
theorem zci_81 : Cond.code yX7_isLane cX7_isLane 1 (some .boolean) ∈ zW := zW_of (i := 287) rfl (by decide +kernel)
set_option maxRecDepth 40000 in
theorem zci_82 : Cond.code yX7_faultless cX7_faultless 2 (some .int) ∈ zW := zW_of (i := 284) rfl (by decide +kernel)
set_option maxRecDepth 40000 in
theorem zci_83 : Cond.code yX7_faulted cX7_faulted 2 (some .int) ∈ zW := zW_of (i := 299) rfl (by decide +kernel)
set_option maxRecDepth 40000 in
theorem zci_84 : Cond.code yX7_ofNight cX7_ofNight 3 (some .int) ∈ zW := zW_of (i := 448) rfl (by decide +kernel)
set_option maxRecDepth 40000 in
theorem zci_85 : Cond.code yX7_goThroughNights cX7_goThroughNights 2 none ∈ zW := zW_of (i := 344) rfl (by decide +kernel)
set_option maxRecDepth 40000 in
theorem zci_86 : Cond.code yX7_tryLoan cX7_tryLoan 3 none ∈ zW := zW_of (i := 526) rfl (by decide +kernel)
set_option maxRecDepth 40000 in
theorem zci_87 : Cond.code yX7_leave cX7_leave 2 none ∈ zW := zW_of (i := 600) rfl (by decide +kernel)
set_option maxRecDepth 40000 in
theorem zci_88 : Cond.code yX7_shadeTells cX7_shadeTells 2 (some .int) ∈ zW := zW_of (i := 608) rfl (by decide +kernel)
set_option maxRecDepth 40000 in
theorem zci_89 : Cond.code yX7_drownedTells cX7_drownedTells 2 (some .int) ∈ zW := zW_of (i := 604) rfl (by decide +kernel)
set_option maxRecDepth 40000 in
theorem zci_90 : Cond.code yX7_livingTells cX7_livingTells 3 (some .int) ∈ zW := zW_of (i := 596) rfl (by decide +kernel)
set_option maxRecDepth 40000 in
theorem zci_91 : Cond.code yX7_hailByNumber cX7_hailByNumber 2 (some .int) ∈ zW := zW_of (i := 620) rfl (by decide +kernel)
set_option maxRecDepth 40000 in
theorem zci_92 : Cond.code yX7_hailLiving cX7_hailLiving 1 (some .int) ∈ zW := zW_of (i := 616) rfl (by decide +kernel)
set_option maxRecDepth 40000 in
theorem zci_93 : Cond.code yX8_init cX8_init 2 none ∈ zW := zW_of (i := 641) rfl (by decide +kernel)
set_option maxRecDepth 40000 in
theorem zci_94 : Cond.code yX8_in cX8_in 6 (some .boolean) ∈ zW := zW_of (i := 774) rfl (by decide +kernel)
set_option maxRecDepth 40000 in
theorem zci_95 : Cond.code yX8_lost cX8_lost 0 (some .long) ∈ zW := zW_of (i := 996) rfl (by decide +kernel)
set_option maxRecDepth 40000 in
theorem zci_96 : Cond.code yX8_isIn cX8_isIn 2 (some .boolean) ∈ zW := zW_of (i := 881) rfl (by decide +kernel)
set_option maxRecDepth 40000 in
theorem zci_97 : Cond.code yX8_bits cX8_bits 3 (some .int) ∈ zW := zW_of (i := 888) rfl (by decide +kernel)
set_option maxRecDepth 40000 in
theorem zci_98 : Cond.code yX8_refused cX8_refused 2 (some .int) ∈ zW := zW_of (i := 778) rfl (by decide +kernel)
set_option maxRecDepth 40000 in
theorem zci_99 : Cond.code yX8_failed cX8_failed 2 (some .int) ∈ zW := zW_of (i := 787) rfl (by decide +kernel)
set_option maxRecDepth 40000 in
theorem zci_100 : Cond.code yX8_failedLong cX8_failedLong 2 (some .long) ∈ zW := zW_of (i := 1001) rfl (by decide +kernel)
set_option maxRecDepth 40000 in
theorem zci_101 : Cond.code yX8_noShade cX8_noShade 2 (some .boolean) ∈ zW := zW_of (i := 814) rfl (by decide +kernel)
set_option maxRecDepth 40000 in
theorem zci_102 : Cond.code yX8_noNight cX8_noNight 1 (some .boolean) ∈ zW := zW_of (i := 899) rfl (by decide +kernel)
set_option maxRecDepth 40000 in
theorem zci_103 : Cond.code yX8_all cX8_all 1 (some .int) ∈ zW := zW_of (i := 932) rfl (by decide +kernel)
set_option maxRecDepth 40000 in
theorem zci_104 : Cond.code yX8_codeAt cX8_codeAt 3 (some .int) ∈ zW := zW_of (i := 798) rfl (by decide +kernel)
set_option maxRecDepth 40000 in
theorem zci_105 : Cond.code yX8_figure cX8_figure 7 (some .int) ∈ zW := zW_of (i := 802) rfl (by decide +kernel)
set_option maxRecDepth 40000 in
theorem zci_106 : Cond.code yX8_readsShade cX8_readsShade 8 (some .boolean) ∈ zW := zW_of (i := 806) rfl (by decide +kernel)
set_option maxRecDepth 40000 in
theorem zci_107 : Cond.code yX8_readsBank cX8_readsBank 6 (some .boolean) ∈ zW := zW_of (i := 794) rfl (by decide +kernel)
set_option maxRecDepth 40000 in
theorem zci_108 : Cond.code yX8_cellsBarred cX8_cellsBarred 6 (some .int) ∈ zW := zW_of (i := 783) rfl (by decide +kernel)
set_option maxRecDepth 40000 in
theorem zci_109 : Cond.code yX8_bank cX8_bank 7 (some .int) ∈ zW := zW_of (i := 767) rfl (by decide +kernel)
set_option maxRecDepth 40000 in
theorem zci_110 : Cond.code yX8_paysOf cX8_paysOf 2 (some .int) ∈ zW := zW_of (i := 818) rfl (by decide +kernel)
set_option maxRecDepth 40000 in
theorem zci_111 : Cond.code yX8_heavyOf cX8_heavyOf 3 (some .int) ∈ zW := zW_of (i := 822) rfl (by decide +kernel)
set_option maxRecDepth 40000 in
theorem zci_112 : Cond.code yX8_ofShade cX8_ofShade 3 (some .int) ∈ zW := zW_of (i := 810) rfl (by decide +kernel)
set_option maxRecDepth 40000 in
theorem zci_113 : Cond.code yX8_law cX8_law 3 (some .int) ∈ zW := zW_of (i := 826) rfl (by decide +kernel)
set_option maxRecDepth 40000 in
theorem zci_114 : Cond.code yX8_lend cX8_lend 4 none ∈ zW := zW_of (i := 834) rfl (by decide +kernel)
set_option maxRecDepth 40000 in
theorem zci_115 : Cond.code yX8_loan cX8_loan 4 (some .int) ∈ zW := zW_of (i := 830) rfl (by decide +kernel)
set_option maxRecDepth 40000 in
theorem zci_116 : Cond.code yX8_undo cX8_undo 3 (some .int) ∈ zW := zW_of (i := 838) rfl (by decide +kernel)
set_option maxRecDepth 40000 in
theorem zci_117 : Cond.code yX8_begin cX8_begin 2 none ∈ zW := zW_of (i := 854) rfl (by decide +kernel)
set_option maxRecDepth 40000 in
theorem zci_118 : Cond.code yX8_isAhead cX8_isAhead 4 (some .boolean) ∈ zW := zW_of (i := 885) rfl (by decide +kernel)
set_option maxRecDepth 40000 in
theorem zci_119 : Cond.code yX8_canPay cX8_canPay 2 (some .boolean) ∈ zW := zW_of (i := 874) rfl (by decide +kernel)
set_option maxRecDepth 40000 in
theorem zci_120 : Cond.code yX8_firstOf cX8_firstOf 4 (some .int) ∈ zW := zW_of (i := 878) rfl (by decide +kernel)
set_option maxRecDepth 40000 in
theorem zci_121 : Cond.code yX8_cameBy cX8_cameBy 4 (some .int) ∈ zW := zW_of (i := 862) rfl (by decide +kernel)
set_option maxRecDepth 40000 in
theorem zci_122 : Cond.code yX8_overNow cX8_overNow 3 (some .int) ∈ zW := zW_of (i := 866) rfl (by decide +kernel)
set_option maxRecDepth 40000 in
theorem zci_123 : Cond.code yX8_whoCanPay cX8_whoCanPay 3 (some .int) ∈ zW := zW_of (i := 870) rfl (by decide +kernel)
set_option maxRecDepth 40000 in
theorem zci_124 : Cond.code yX8_goNight cX8_goNight 7 none ∈ zW := zW_of (i := 858) rfl (by decide +kernel)
set_option maxRecDepth 40000 in
theorem zci_125 : Cond.code yX8_goTo cX8_goTo 3 none ∈ zW := zW_of (i := 850) rfl (by decide +kernel)
set_option maxRecDepth 40000 in
theorem zci_126 : Cond.code yX8_goAll cX8_goAll 1 none ∈ zW := zW_of (i := 846) rfl (by decide +kernel)
set_option maxRecDepth 40000 in
theorem zci_127 : Cond.code yX8_over cX8_over 2 (some .int) ∈ zW := zW_of (i := 842) rfl (by decide +kernel)
set_option maxRecDepth 40000 in
theorem zci_128 : Cond.code yX8_refusedFor cX8_refusedFor 2 (some .int) ∈ zW := zW_of (i := 896) rfl (by decide +kernel)
set_option maxRecDepth 40000 in
theorem zci_129 : Cond.code yX8_overBy cX8_overBy 3 (some .int) ∈ zW := zW_of (i := 892) rfl (by decide +kernel)
set_option maxRecDepth 40000 in
theorem zci_130 : Cond.code yX8_rower cX8_rower 3 (some .int) ∈ zW := zW_of (i := 904) rfl (by decide +kernel)
set_option maxRecDepth 40000 in
theorem zci_131 : Cond.code yX8_sits cX8_sits 3 (some .int) ∈ zW := zW_of (i := 908) rfl (by decide +kernel)
set_option maxRecDepth 40000 in
theorem zci_132 : Cond.code yX8_waitOf cX8_waitOf 2 (some .int) ∈ zW := zW_of (i := 916) rfl (by decide +kernel)
set_option maxRecDepth 40000 in
theorem zci_133 : Cond.code yX8_waits cX8_waits 2 (some .int) ∈ zW := zW_of (i := 912) rfl (by decide +kernel)
set_option maxRecDepth 40000 in
theorem zci_134 : Cond.code yX8_waitsOfAll cX8_waitsOfAll 3 (some .int) ∈ zW := zW_of (i := 924) rfl (by decide +kernel)
set_option maxRecDepth 40000 in
theorem zci_135 : Cond.code yX8_allWait cX8_allWait 1 (some .int) ∈ zW := zW_of (i := 920) rfl (by decide +kernel)
set_option maxRecDepth 40000 in
theorem zci_136 : Cond.code yX8_mayCross cX8_mayCross 4 (some .boolean) ∈ zW := zW_of (i := 936) rfl (by decide +kernel)
set_option maxRecDepth 40000 in
theorem zci_137 : Cond.code yX8_crossings cX8_crossings 9 (some .int) ∈ zW := zW_of (i := 928) rfl (by decide +kernel)
set_option maxRecDepth 40000 in
theorem zci_138 : Cond.code yX8_least cX8_least 7 (some .int) ∈ zW := zW_of (i := 940) rfl (by decide +kernel)
set_option maxRecDepth 40000 in
theorem zci_139 : Cond.code yX8_laws cX8_laws 7 (some .int) ∈ zW := zW_of (i := 944) rfl (by decide +kernel)
set_option maxRecDepth 40000 in
theorem zci_140 : Cond.code yX8_gain cX8_gain 8 (some .int) ∈ zW := zW_of (i := 949) rfl (by decide +kernel)
set_option maxRecDepth 40000 in
theorem zci_141 : Cond.code yX8_favours cX8_favours 6 (some .int) ∈ zW := zW_of (i := 953) rfl (by decide +kernel)
set_option maxRecDepth 40000 in
theorem zci_142 : Cond.code yX8_reading cX8_reading 4 (some .int) ∈ zW := zW_of (i := 957) rfl (by decide +kernel)
set_option maxRecDepth 40000 in
theorem zci_143 : Cond.code yX8_back cX8_back 2 (some .int) ∈ zW := zW_of (i := 961) rfl (by decide +kernel)
set_option maxRecDepth 40000 in
theorem zci_144 : Cond.code yX8_areSo cX8_areSo 3 (some .boolean) ∈ zW := zW_of (i := 969) rfl (by decide +kernel)
set_option maxRecDepth 40000 in
theorem zci_145 : Cond.code yX8_payers cX8_payers 4 (some .int) ∈ zW := zW_of (i := 965) rfl (by decide +kernel)
set_option maxRecDepth 40000 in
theorem zci_146 : Cond.code yX8_rules cX8_rules 4 (some .int) ∈ zW := zW_of (i := 973) rfl (by decide +kernel)
set_option maxRecDepth 40000 in
theorem zci_147 : Cond.code yX8_noSheet cX8_noSheet 1 (some .boolean) ∈ zW := zW_of (i := 770) rfl (by decide +kernel)
set_option maxRecDepth 40000 in
theorem zci_148 : Cond.code yX8_sheet cX8_sheet 5 (some .int) ∈ zW := zW_of (i := 977) rfl (by decide +kernel)
set_option maxRecDepth 40000 in
theorem zci_149 : Cond.code yX8_lose cX8_lose 3 (some .int) ∈ zW := zW_of (i := 981) rfl (by decide +kernel)
set_option maxRecDepth 40000 in
theorem zci_150 : Cond.code yX8_noCell cX8_noCell 3 (some .int) ∈ zW := zW_of (i := 989) rfl (by decide +kernel)
set_option maxRecDepth 40000 in
theorem zci_151 : Cond.code yX8_put cX8_put 4 (some .int) ∈ zW := zW_of (i := 985) rfl (by decide +kernel)
set_option maxRecDepth 40000 in
theorem zci_152 : Cond.code yX8_cell cX8_cell 4 (some .long) ∈ zW := zW_of (i := 993) rfl (by decide +kernel)
set_option maxRecDepth 40000 in
theorem zci_153 : Cond.code yX8_isBeyond cX8_isBeyond 4 (some .boolean) ∈ zW := zW_of (i := 790) rfl (by decide +kernel)
set_option maxRecDepth 40000 in
theorem zci_154 : Cond.code yX8_copy cX8_copy 7 (some .int) ∈ zW := zW_of (i := 1005) rfl (by decide +kernel)
set_option maxRecDepth 40000 in
theorem zci_155 : Cond.code yX8_traced cX8_traced 2 none ∈ zW := zW_of (i := 1013) rfl (by decide +kernel)
set_option maxRecDepth 40000 in
theorem zci_156 : Cond.code yX8_tell cX8_tell 4 (some .int) ∈ zW := zW_of (i := 1009) rfl (by decide +kernel)
set_option maxRecDepth 40000 in
theorem zci_157 : Cond.code yX8_hail cX8_hail 2 (some .int) ∈ zW := zW_of (i := 1017) rfl (by decide +kernel)
set_option maxRecDepth 40000 in
theorem zci_158 : Cond.code yX8_as cX8_as 3 (some .int) ∈ zW := zW_of (i := 1021) rfl (by decide +kernel)
set_option maxRecDepth 40000 in
theorem zci_159 : Cond.code yX8_trace cX8_trace 1 (some .int) ∈ zW := zW_of (i := 1025) rfl (by decide +kernel)
set_option maxRecDepth 40000 in
theorem zci_160 : Cond.code yX8_fault cX8_fault 1 (some .int) ∈ zW := zW_of (i := 1029) rfl (by decide +kernel)
set_option maxRecDepth 40000 in
theorem zci_161 : Cond.code yX8_many cX8_many 2 (some .int) ∈ zW := zW_of (i := 1033) rfl (by decide +kernel)
set_option maxRecDepth 40000 in
theorem zci_162 : Cond.code yJ6_bitCount_0f7a4 cJ6_bitCount_0f7a4 1 (some .int) ∈ zW := zW_of (i := 395) rfl (by decide +kernel)
set_option maxRecDepth 40000 in
theorem zci_163 : Cond.code yJ7_fill_53178 cJ7_fill_53178 4 none ∈ zW := zW_of (i := 372) rfl (by decide +kernel)
theorem zcode_in {y : Nat} (h : y < 165) (h2 : y ≠ 164) : Cond.code (znm y) (zby y) (zmx y) (zrt y) ∈ zW := by
  match y, h, h2 with
  | 0, _, _ => exact zci_0
  | 1, _, _ => exact zci_1
  | 2, _, _ => exact zci_2
  | 3, _, _ => exact zci_3
  | 4, _, _ => exact zci_4
  | 5, _, _ => exact zci_5
  | 6, _, _ => exact zci_6
  | 7, _, _ => exact zci_7
  | 8, _, _ => exact zci_8
  | 9, _, _ => exact zci_9
  | 10, _, _ => exact zci_10
  | 11, _, _ => exact zci_11
  | 12, _, _ => exact zci_12
  | 13, _, _ => exact zci_13
  | 14, _, _ => exact zci_14
  | 15, _, _ => exact zci_15
  | 16, _, _ => exact zci_16
  | 17, _, _ => exact zci_17
  | 18, _, _ => exact zci_18
  | 19, _, _ => exact zci_19
  | 20, _, _ => exact zci_20
  | 21, _, _ => exact zci_21
  | 22, _, _ => exact zci_22
  | 23, _, _ => exact zci_23
  | 24, _, _ => exact zci_24
  | 25, _, _ => exact zci_25
  | 26, _, _ => exact zci_26
  | 27, _, _ => exact zci_27
  | 28, _, _ => exact zci_28
  | 29, _, _ => exact zci_29
  | 30, _, _ => exact zci_30
  | 31, _, _ => exact zci_31
  | 32, _, _ => exact zci_32
  | 33, _, _ => exact zci_33
  | 34, _, _ => exact zci_34
  | 35, _, _ => exact zci_35
  | 36, _, _ => exact zci_36
  | 37, _, _ => exact zci_37
  | 38, _, _ => exact zci_38
  | 39, _, _ => exact zci_39
  | 40, _, _ => exact zci_40
  | 41, _, _ => exact zci_41
  | 42, _, _ => exact zci_42
  | 43, _, _ => exact zci_43
  | 44, _, _ => exact zci_44
  | 45, _, _ => exact zci_45
  | 46, _, _ => exact zci_46
  | 47, _, _ => exact zci_47
  | 48, _, _ => exact zci_48
  | 49, _, _ => exact zci_49
  | 50, _, _ => exact zci_50
  | 51, _, _ => exact zci_51
  | 52, _, _ => exact zci_52
  | 53, _, _ => exact zci_53
  | 54, _, _ => exact zci_54
  | 55, _, _ => exact zci_55
  | 56, _, _ => exact zci_56
  | 57, _, _ => exact zci_57
  | 58, _, _ => exact zci_58
  | 59, _, _ => exact zci_59
  | 60, _, _ => exact zci_60
  | 61, _, _ => exact zci_61
  | 62, _, _ => exact zci_62
  | 63, _, _ => exact zci_63
  | 64, _, _ => exact zci_64
  | 65, _, _ => exact zci_65
  | 66, _, _ => exact zci_66
  | 67, _, _ => exact zci_67
  | 68, _, _ => exact zci_68
  | 69, _, _ => exact zci_69
  | 70, _, _ => exact zci_70
  | 71, _, _ => exact zci_71
  | 72, _, _ => exact zci_72
  | 73, _, _ => exact zci_73
  | 74, _, _ => exact zci_74
  | 75, _, _ => exact zci_75
  | 76, _, _ => exact zci_76
  | 77, _, _ => exact zci_77
  | 78, _, _ => exact zci_78
  | 79, _, _ => exact zci_79
  | 80, _, _ => exact zci_80
  | 81, _, _ => exact zci_81
  | 82, _, _ => exact zci_82
  | 83, _, _ => exact zci_83
  | 84, _, _ => exact zci_84
  | 85, _, _ => exact zci_85
  | 86, _, _ => exact zci_86
  | 87, _, _ => exact zci_87
  | 88, _, _ => exact zci_88
  | 89, _, _ => exact zci_89
  | 90, _, _ => exact zci_90
  | 91, _, _ => exact zci_91
  | 92, _, _ => exact zci_92
  | 93, _, _ => exact zci_93
  | 94, _, _ => exact zci_94
  | 95, _, _ => exact zci_95
  | 96, _, _ => exact zci_96
  | 97, _, _ => exact zci_97
  | 98, _, _ => exact zci_98
  | 99, _, _ => exact zci_99
  | 100, _, _ => exact zci_100
  | 101, _, _ => exact zci_101
  | 102, _, _ => exact zci_102
  | 103, _, _ => exact zci_103
  | 104, _, _ => exact zci_104
  | 105, _, _ => exact zci_105
  | 106, _, _ => exact zci_106
  | 107, _, _ => exact zci_107
  | 108, _, _ => exact zci_108
  | 109, _, _ => exact zci_109
  | 110, _, _ => exact zci_110
  | 111, _, _ => exact zci_111
  | 112, _, _ => exact zci_112
  | 113, _, _ => exact zci_113
  | 114, _, _ => exact zci_114
  | 115, _, _ => exact zci_115
  | 116, _, _ => exact zci_116
  | 117, _, _ => exact zci_117
  | 118, _, _ => exact zci_118
  | 119, _, _ => exact zci_119
  | 120, _, _ => exact zci_120
  | 121, _, _ => exact zci_121
  | 122, _, _ => exact zci_122
  | 123, _, _ => exact zci_123
  | 124, _, _ => exact zci_124
  | 125, _, _ => exact zci_125
  | 126, _, _ => exact zci_126
  | 127, _, _ => exact zci_127
  | 128, _, _ => exact zci_128
  | 129, _, _ => exact zci_129
  | 130, _, _ => exact zci_130
  | 131, _, _ => exact zci_131
  | 132, _, _ => exact zci_132
  | 133, _, _ => exact zci_133
  | 134, _, _ => exact zci_134
  | 135, _, _ => exact zci_135
  | 136, _, _ => exact zci_136
  | 137, _, _ => exact zci_137
  | 138, _, _ => exact zci_138
  | 139, _, _ => exact zci_139
  | 140, _, _ => exact zci_140
  | 141, _, _ => exact zci_141
  | 142, _, _ => exact zci_142
  | 143, _, _ => exact zci_143
  | 144, _, _ => exact zci_144
  | 145, _, _ => exact zci_145
  | 146, _, _ => exact zci_146
  | 147, _, _ => exact zci_147
  | 148, _, _ => exact zci_148
  | 149, _, _ => exact zci_149
  | 150, _, _ => exact zci_150
  | 151, _, _ => exact zci_151
  | 152, _, _ => exact zci_152
  | 153, _, _ => exact zci_153
  | 154, _, _ => exact zci_154
  | 155, _, _ => exact zci_155
  | 156, _, _ => exact zci_156
  | 157, _, _ => exact zci_157
  | 158, _, _ => exact zci_158
  | 159, _, _ => exact zci_159
  | 160, _, _ => exact zci_160
  | 161, _, _ => exact zci_161
  | 162, _, _ => exact zci_162
  | 163, _, _ => exact zci_163
  | 164, _, h => exact absurd rfl h
  | n + 165, h, _ => exact absurd h (by omega)
