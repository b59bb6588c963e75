/-! The law: its links, its small methods' decodes -/
theorem kini_L : Cond.initialized RL ∈ KTW := kt_in 35 (by decide +kernel) (by decide +kernel)
theorem kcl_L_9 : Cond.classLink RL 9 RX6 ∈ KTW := kt_in 60 (by decide +kernel) (by decide +kernel)
theorem ck_L_107 : mCk RL 107 yX6_init cX6_init 2 none 0 := ⟨kt_in 64 (by decide +kernel) (by decide +kernel), kt_in 36 (by decide +kernel) (by decide +kernel), by decide +kernel, mCk.ar (by decide +kernel), kt_in 62 (by decide +kernel) (by decide +kernel)⟩
theorem ck_L_108 : mCk RL 108 yL_part cL_part 4 (some FieldType.int) 3 := ⟨kt_in 143 (by decide +kernel) (by decide +kernel), kt_in 35 (by decide +kernel) (by decide +kernel), by decide +kernel, mCk.ar (by decide +kernel), kt_in 141 (by decide +kernel) (by decide +kernel)⟩
theorem kst_L_part : Cond.static yL_part ∈ KTW := kt_in 142 (by decide +kernel) (by decide +kernel)
theorem kst_L_does : Cond.static yL_does ∈ KTW := kt_in 146 (by decide +kernel) (by decide +kernel)
theorem ck_L_8 : mCk RL 8 yX6_player cX6_player 2 (some FieldType.int) 0 := ⟨kt_in 154 (by decide +kernel) (by decide +kernel), kt_in 36 (by decide +kernel) (by decide +kernel), by decide +kernel, mCk.ar (by decide +kernel), kt_in 151 (by decide +kernel) (by decide +kernel)⟩
theorem ck_L_14 : mCk RL 14 yX6_room cX6_room 4 (some FieldType.int) 2 := ⟨kt_in 250 (by decide +kernel) (by decide +kernel), kt_in 36 (by decide +kernel) (by decide +kernel), by decide +kernel, mCk.ar (by decide +kernel), kt_in 247 (by decide +kernel) (by decide +kernel)⟩
theorem ck_L_18 : mCk RL 18 yX6_match cX6_match 9 (some FieldType.int) 3 := ⟨kt_in 290 (by decide +kernel) (by decide +kernel), kt_in 36 (by decide +kernel) (by decide +kernel), by decide +kernel, mCk.ar (by decide +kernel), kt_in 287 (by decide +kernel) (by decide +kernel)⟩
theorem ck_L_22 : mCk RL 22 yX6_end cX6_end 3 (some FieldType.int) 0 := ⟨kt_in 352 (by decide +kernel) (by decide +kernel), kt_in 36 (by decide +kernel) (by decide +kernel), by decide +kernel, mCk.ar (by decide +kernel), kt_in 349 (by decide +kernel) (by decide +kernel)⟩
theorem ck_L_25 : mCk RL 25 yX6_sell cX6_sell 6 (some FieldType.boolean) 3 := ⟨kt_in 426 (by decide +kernel) (by decide +kernel), kt_in 36 (by decide +kernel) (by decide +kernel), by decide +kernel, mCk.ar (by decide +kernel), kt_in 423 (by decide +kernel) (by decide +kernel)⟩
theorem ck_L_29 : mCk RL 29 yX6_lend cX6_lend 6 (some FieldType.int) 3 := ⟨kt_in 476 (by decide +kernel) (by decide +kernel), kt_in 36 (by decide +kernel) (by decide +kernel), by decide +kernel, mCk.ar (by decide +kernel), kt_in 473 (by decide +kernel) (by decide +kernel)⟩
theorem ck_L_32 : mCk RL 32 yX6_proof cX6_proof 4 (some FieldType.int) 2 := ⟨kt_in 482 (by decide +kernel) (by decide +kernel), kt_in 36 (by decide +kernel) (by decide +kernel), by decide +kernel, mCk.ar (by decide +kernel), kt_in 479 (by decide +kernel) (by decide +kernel)⟩
theorem ck_L_35 : mCk RL 35 yX6_clear cX6_clear 4 (some FieldType.int) 1 := ⟨kt_in 516 (by decide +kernel) (by decide +kernel), kt_in 36 (by decide +kernel) (by decide +kernel), by decide +kernel, mCk.ar (by decide +kernel), kt_in 513 (by decide +kernel) (by decide +kernel)⟩
theorem ck_L_39 : mCk RL 39 yX6_ban cX6_ban 4 (some FieldType.int) 2 := ⟨kt_in 522 (by decide +kernel) (by decide +kernel), kt_in 36 (by decide +kernel) (by decide +kernel), by decide +kernel, mCk.ar (by decide +kernel), kt_in 519 (by decide +kernel) (by decide +kernel)⟩
theorem ck_L_42 : mCk RL 42 yX6_pass cX6_pass 4 (some FieldType.int) 1 := ⟨kt_in 527 (by decide +kernel) (by decide +kernel), kt_in 36 (by decide +kernel) (by decide +kernel), by decide +kernel, mCk.ar (by decide +kernel), kt_in 524 (by decide +kernel) (by decide +kernel)⟩
theorem ck_L_45 : mCk RL 45 yX6_stands cX6_stands 2 (some FieldType.boolean) 1 := ⟨kt_in 532 (by decide +kernel) (by decide +kernel), kt_in 36 (by decide +kernel) (by decide +kernel), by decide +kernel, mCk.ar (by decide +kernel), kt_in 529 (by decide +kernel) (by decide +kernel)⟩
theorem ck_L_49 : mCk RL 49 yX6_ranked cX6_ranked 6 (some FieldType.int) 3 := ⟨kt_in 541 (by decide +kernel) (by decide +kernel), kt_in 36 (by decide +kernel) (by decide +kernel), by decide +kernel, mCk.ar (by decide +kernel), kt_in 538 (by decide +kernel) (by decide +kernel)⟩
theorem ck_L_52 : mCk RL 52 yX6_skinOf cX6_skinOf 4 (some FieldType.int) 2 := ⟨kt_in 557 (by decide +kernel) (by decide +kernel), kt_in 36 (by decide +kernel) (by decide +kernel), by decide +kernel, mCk.ar (by decide +kernel), kt_in 554 (by decide +kernel) (by decide +kernel)⟩
theorem ck_L_55 : mCk RL 55 yX6_money cX6_money 2 (some FieldType.int) 1 := ⟨kt_in 573 (by decide +kernel) (by decide +kernel), kt_in 36 (by decide +kernel) (by decide +kernel), by decide +kernel, mCk.ar (by decide +kernel), kt_in 570 (by decide +kernel) (by decide +kernel)⟩
theorem ck_L_58 : mCk RL 58 yX6_label cX6_label 5 (some FieldType.char) 2 := ⟨kt_in 577 (by decide +kernel) (by decide +kernel), kt_in 36 (by decide +kernel) (by decide +kernel), by decide +kernel, mCk.ar (by decide +kernel), kt_in 574 (by decide +kernel) (by decide +kernel)⟩
theorem ck_L_71 : mCk RL 71 yL_isGood cL_isGood 5 (some FieldType.boolean) 4 := ⟨kt_in 766 (by decide +kernel) (by decide +kernel), kt_in 35 (by decide +kernel) (by decide +kernel), by decide +kernel, mCk.ar (by decide +kernel), kt_in 764 (by decide +kernel) (by decide +kernel)⟩
theorem kst_L_isGood : Cond.static yL_isGood ∈ KTW := kt_in 765 (by decide +kernel) (by decide +kernel)
theorem ck_L_88 : mCk RL 88 yL_who cL_who 12 (some FieldType.int) 6 := ⟨kt_in 769 (by decide +kernel) (by decide +kernel), kt_in 35 (by decide +kernel) (by decide +kernel), by decide +kernel, mCk.ar (by decide +kernel), kt_in 767 (by decide +kernel) (by decide +kernel)⟩
theorem kst_L_who : Cond.static yL_who ∈ KTW := kt_in 768 (by decide +kernel) (by decide +kernel)
theorem ck_L_85 : mCk RL 85 yL_weight cL_weight 7 (some FieldType.int) 6 := ⟨kt_in 773 (by decide +kernel) (by decide +kernel), kt_in 35 (by decide +kernel) (by decide +kernel), by decide +kernel, mCk.ar (by decide +kernel), kt_in 771 (by decide +kernel) (by decide +kernel)⟩
theorem kst_L_weight : Cond.static yL_weight ∈ KTW := kt_in 772 (by decide +kernel) (by decide +kernel)
theorem ck_L_77 : mCk RL 77 yL_points cL_points 9 (some FieldType.int) 6 := ⟨kt_in 776 (by decide +kernel) (by decide +kernel), kt_in 35 (by decide +kernel) (by decide +kernel), by decide +kernel, mCk.ar (by decide +kernel), kt_in 774 (by decide +kernel) (by decide +kernel)⟩
theorem kst_L_points : Cond.static yL_points ∈ KTW := kt_in 775 (by decide +kernel) (by decide +kernel)
theorem ck_L_82 : mCk RL 82 yL_many cL_many 9 (some FieldType.int) 6 := ⟨kt_in 779 (by decide +kernel) (by decide +kernel), kt_in 35 (by decide +kernel) (by decide +kernel), by decide +kernel, mCk.ar (by decide +kernel), kt_in 777 (by decide +kernel) (by decide +kernel)⟩
theorem kst_L_many : Cond.static yL_many ∈ KTW := kt_in 778 (by decide +kernel) (by decide +kernel)
theorem ck_L_121 : mCk RL 121 yL_looks cL_looks 14 none 9 := ⟨kt_in 782 (by decide +kernel) (by decide +kernel), kt_in 35 (by decide +kernel) (by decide +kernel), by decide +kernel, mCk.ar (by decide +kernel), kt_in 780 (by decide +kernel) (by decide +kernel)⟩
theorem kst_L_looks : Cond.static yL_looks ∈ KTW := kt_in 781 (by decide +kernel) (by decide +kernel)
theorem ck_L_91 : mCk RL 91 yL_pays cL_pays 4 none 4 := ⟨kt_in 785 (by decide +kernel) (by decide +kernel), kt_in 35 (by decide +kernel) (by decide +kernel), by decide +kernel, mCk.ar (by decide +kernel), kt_in 783 (by decide +kernel) (by decide +kernel)⟩
theorem kst_L_pays : Cond.static yL_pays ∈ KTW := kt_in 784 (by decide +kernel) (by decide +kernel)
theorem ck_L_125 : mCk RL 125 yL_isSo cL_isSo 17 (some FieldType.boolean) 11 := ⟨kt_in 788 (by decide +kernel) (by decide +kernel), kt_in 35 (by decide +kernel) (by decide +kernel), by decide +kernel, mCk.ar (by decide +kernel), kt_in 786 (by decide +kernel) (by decide +kernel)⟩
theorem kst_L_isSo : Cond.static yL_isSo ∈ KTW := kt_in 787 (by decide +kernel) (by decide +kernel)
theorem ck_L_129 : mCk RL 129 yL_isLabel cL_isLabel 8 (some FieldType.boolean) 4 := ⟨kt_in 791 (by decide +kernel) (by decide +kernel), kt_in 35 (by decide +kernel) (by decide +kernel), by decide +kernel, mCk.ar (by decide +kernel), kt_in 789 (by decide +kernel) (by decide +kernel)⟩
theorem kst_L_isLabel : Cond.static yL_isLabel ∈ KTW := kt_in 790 (by decide +kernel) (by decide +kernel)
theorem ck_L_99 : mCk RL 99 yL_isNumber cL_isNumber 4 (some FieldType.boolean) 4 := ⟨kt_in 794 (by decide +kernel) (by decide +kernel), kt_in 35 (by decide +kernel) (by decide +kernel), by decide +kernel, mCk.ar (by decide +kernel), kt_in 792 (by decide +kernel) (by decide +kernel)⟩
theorem kst_L_isNumber : Cond.static yL_isNumber ∈ KTW := kt_in 793 (by decide +kernel) (by decide +kernel)
theorem ck_L_113 : mCk RL 113 yL_isPlay cL_isPlay 13 (some FieldType.boolean) 7 := ⟨kt_in 797 (by decide +kernel) (by decide +kernel), kt_in 35 (by decide +kernel) (by decide +kernel), by decide +kernel, mCk.ar (by decide +kernel), kt_in 795 (by decide +kernel) (by decide +kernel)⟩
theorem kst_L_isPlay : Cond.static yL_isPlay ∈ KTW := kt_in 796 (by decide +kernel) (by decide +kernel)
theorem ck_L_103 : mCk RL 103 yL_isBanned cL_isBanned 3 (some FieldType.boolean) 3 := ⟨kt_in 800 (by decide +kernel) (by decide +kernel), kt_in 35 (by decide +kernel) (by decide +kernel), by decide +kernel, mCk.ar (by decide +kernel), kt_in 798 (by decide +kernel) (by decide +kernel)⟩
theorem kst_L_isBanned : Cond.static yL_isBanned ∈ KTW := kt_in 799 (by decide +kernel) (by decide +kernel)
theorem ck_L_117 : mCk RL 117 yL_isSkin cL_isSkin 19 (some FieldType.boolean) 11 := ⟨kt_in 803 (by decide +kernel) (by decide +kernel), kt_in 35 (by decide +kernel) (by decide +kernel), by decide +kernel, mCk.ar (by decide +kernel), kt_in 801 (by decide +kernel) (by decide +kernel)⟩
theorem kst_L_isSkin : Cond.static yL_isSkin ∈ KTW := kt_in 802 (by decide +kernel) (by decide +kernel)
theorem kml_L_part : Cond.methodLink RL 108 yL_part ∈ KTW := kt_in 141 (by decide +kernel) (by decide +kernel)
theorem kar_L_part : ∀ sig, parseMethodDescriptor yL_part.desc = some sig → 3 = sig.parameters.length := mCk.ar (by decide +kernel)
theorem kco_L_7 : Cond.constant RL 7 (2147483647) ∈ KTW := kt_in 144 (by decide +kernel) (by decide +kernel)
theorem kml_L_does : Cond.methodLink RL 95 yL_does ∈ KTW := kt_in 145 (by decide +kernel) (by decide +kernel)
theorem kar_L_does : ∀ sig, parseMethodDescriptor yL_does.desc = some sig → 5 = sig.parameters.length := mCk.ar (by decide +kernel)
def hh_L_does : List (Nat × Nat × Nat × Nat) := [(0, 225, 226, 62), (0, 225, 231, 65), (0, 225, 236, 68)]
theorem kcw_L_does : Cond.codeWith yL_does cL_does 6 (some FieldType.int) hh_L_does ∈ KTW := kt_in 147 (by decide +kernel) (by decide +kernel)
theorem kclx_L_62 : Cond.classLink RL 62 EIO ∈ KTW := kt_in 148 (by decide +kernel) (by decide +kernel)
theorem kclx_L_65 : Cond.classLink RL 65 EIA ∈ KTW := kt_in 149 (by decide +kernel) (by decide +kernel)
theorem kclx_L_68 : Cond.classLink RL 68 EIS ∈ KTW := kt_in 150 (by decide +kernel) (by decide +kernel)
theorem kca_EIS : Cond.castable EIS EIS ∈ KTW := kt_in 157 (by decide +kernel) (by decide +kernel)
theorem kca_EIO : Cond.castable EIO EIO ∈ KTW := kt_in 257 (by decide +kernel) (by decide +kernel)
theorem kca_EIA : Cond.castable EIA EIA ∈ KTW := kt_in 273 (by decide +kernel) (by decide +kernel)
theorem kco_L_64 : Cond.constant RL 64 (-3000000) ∈ KTW := kt_in 761 (by decide +kernel) (by decide +kernel)
theorem kco_L_67 : Cond.constant RL 67 (-2000000) ∈ KTW := kt_in 762 (by decide +kernel) (by decide +kernel)
theorem kco_L_70 : Cond.constant RL 70 (-1000000) ∈ KTW := kt_in 763 (by decide +kernel) (by decide +kernel)
theorem kml_L_isGood : Cond.methodLink RL 71 yL_isGood ∈ KTW := kt_in 764 (by decide +kernel) (by decide +kernel)
theorem kar_L_isGood : ∀ sig, parseMethodDescriptor yL_isGood.desc = some sig → 4 = sig.parameters.length := mCk.ar (by decide +kernel)
theorem kml_L_who : Cond.methodLink RL 88 yL_who ∈ KTW := kt_in 767 (by decide +kernel) (by decide +kernel)
theorem kar_L_who : ∀ sig, parseMethodDescriptor yL_who.desc = some sig → 6 = sig.parameters.length := mCk.ar (by decide +kernel)
theorem kco_L_81 : Cond.constant RL 81 (1000000) ∈ KTW := kt_in 770 (by decide +kernel) (by decide +kernel)
theorem kml_L_weight : Cond.methodLink RL 85 yL_weight ∈ KTW := kt_in 771 (by decide +kernel) (by decide +kernel)
theorem kar_L_weight : ∀ sig, parseMethodDescriptor yL_weight.desc = some sig → 6 = sig.parameters.length := mCk.ar (by decide +kernel)
theorem kml_L_points : Cond.methodLink RL 77 yL_points ∈ KTW := kt_in 774 (by decide +kernel) (by decide +kernel)
theorem kar_L_points : ∀ sig, parseMethodDescriptor yL_points.desc = some sig → 6 = sig.parameters.length := mCk.ar (by decide +kernel)
theorem kml_L_many : Cond.methodLink RL 82 yL_many ∈ KTW := kt_in 777 (by decide +kernel) (by decide +kernel)
theorem kar_L_many : ∀ sig, parseMethodDescriptor yL_many.desc = some sig → 6 = sig.parameters.length := mCk.ar (by decide +kernel)
theorem kml_L_looks : Cond.methodLink RL 121 yL_looks ∈ KTW := kt_in 780 (by decide +kernel) (by decide +kernel)
theorem kar_L_looks : ∀ sig, parseMethodDescriptor yL_looks.desc = some sig → 9 = sig.parameters.length := mCk.ar (by decide +kernel)
theorem kml_L_pays : Cond.methodLink RL 91 yL_pays ∈ KTW := kt_in 783 (by decide +kernel) (by decide +kernel)
theorem kar_L_pays : ∀ sig, parseMethodDescriptor yL_pays.desc = some sig → 4 = sig.parameters.length := mCk.ar (by decide +kernel)
theorem kml_L_isSo : Cond.methodLink RL 125 yL_isSo ∈ KTW := kt_in 786 (by decide +kernel) (by decide +kernel)
theorem kar_L_isSo : ∀ sig, parseMethodDescriptor yL_isSo.desc = some sig → 11 = sig.parameters.length := mCk.ar (by decide +kernel)
theorem kml_L_isLabel : Cond.methodLink RL 129 yL_isLabel ∈ KTW := kt_in 789 (by decide +kernel) (by decide +kernel)
theorem kar_L_isLabel : ∀ sig, parseMethodDescriptor yL_isLabel.desc = some sig → 4 = sig.parameters.length := mCk.ar (by decide +kernel)
theorem kml_L_isNumber : Cond.methodLink RL 99 yL_isNumber ∈ KTW := kt_in 792 (by decide +kernel) (by decide +kernel)
theorem kar_L_isNumber : ∀ sig, parseMethodDescriptor yL_isNumber.desc = some sig → 4 = sig.parameters.length := mCk.ar (by decide +kernel)
theorem kml_L_isPlay : Cond.methodLink RL 113 yL_isPlay ∈ KTW := kt_in 795 (by decide +kernel) (by decide +kernel)
theorem kar_L_isPlay : ∀ sig, parseMethodDescriptor yL_isPlay.desc = some sig → 7 = sig.parameters.length := mCk.ar (by decide +kernel)
theorem kml_L_isBanned : Cond.methodLink RL 103 yL_isBanned ∈ KTW := kt_in 798 (by decide +kernel) (by decide +kernel)
theorem kar_L_isBanned : ∀ sig, parseMethodDescriptor yL_isBanned.desc = some sig → 3 = sig.parameters.length := mCk.ar (by decide +kernel)
theorem kml_L_isSkin : Cond.methodLink RL 117 yL_isSkin ∈ KTW := kt_in 801 (by decide +kernel) (by decide +kernel)
theorem kar_L_isSkin : ∀ sig, parseMethodDescriptor yL_isSkin.desc = some sig → 11 = sig.parameters.length := mCk.ar (by decide +kernel)
theorem kco_L_112 : Cond.constant RL 112 (60000) ∈ KTW := kt_in 804 (by decide +kernel) (by decide +kernel)
theorem dL_part_0 : decode cL_part 0 = .ok (.iload_n 1, 1) := by decide +kernel
theorem dL_part_1 : decode cL_part 1 = .ok (.aload_n 0, 1) := by decide +kernel
theorem dL_part_2 : decode cL_part 2 = .ok (.arraylength, 1) := by decide +kernel
theorem dL_part_3 : decode cL_part 3 = .ok (.if_icmp .ge 9, 3) := by decide +kernel
theorem dL_part_6 : decode cL_part 6 = .ok (.aload_n 0, 1) := by decide +kernel
theorem dL_part_7 : decode cL_part 7 = .ok (.iload_n 1, 1) := by decide +kernel
theorem dL_part_8 : decode cL_part 8 = .ok (.iaload, 1) := by decide +kernel
theorem dL_part_9 : decode cL_part 9 = .ok (.goto 16, 3) := by decide +kernel
theorem dL_part_12 : decode cL_part 12 = .ok (.sipush 911, 3) := by decide +kernel
theorem dL_part_15 : decode cL_part 15 = .ok (.iload_n 1, 1) := by decide +kernel
theorem dL_part_16 : decode cL_part 16 = .ok (.imul, 1) := by decide +kernel
theorem dL_part_17 : decode cL_part 17 = .ok (.sipush 773, 3) := by decide +kernel
theorem dL_part_20 : decode cL_part 20 = .ok (.iload_n 1, 1) := by decide +kernel
theorem dL_part_21 : decode cL_part 21 = .ok (.imul, 1) := by decide +kernel
theorem dL_part_22 : decode cL_part 22 = .ok (.iload_n 1, 1) := by decide +kernel
theorem dL_part_23 : decode cL_part 23 = .ok (.imul, 1) := by decide +kernel
theorem dL_part_24 : decode cL_part 24 = .ok (.iadd, 1) := by decide +kernel
theorem dL_part_25 : decode cL_part 25 = .ok (.istore_n 3, 1) := by decide +kernel
theorem dL_part_26 : decode cL_part 26 = .ok (.iload_n 3, 1) := by decide +kernel
theorem dL_part_27 : decode cL_part 27 = .ok (.ldc 7, 2) := by decide +kernel
theorem dL_part_29 : decode cL_part 29 = .ok (.iand, 1) := by decide +kernel
theorem dL_part_30 : decode cL_part 30 = .ok (.iload_n 2, 1) := by decide +kernel
theorem dL_part_31 : decode cL_part 31 = .ok (.irem, 1) := by decide +kernel
theorem dL_part_32 : decode cL_part 32 = .ok (.ireturn, 1) := by decide +kernel
theorem dL_does_0 : decode cL_does 0 = .ok (.iload_n 1, 1) := by decide +kernel
theorem dL_does_1 : decode cL_does 1 = .ok (.ifCond .ne 10, 3) := by decide +kernel
theorem dL_does_4 : decode cL_does 4 = .ok (.aload_n 0, 1) := by decide +kernel
theorem dL_does_5 : decode cL_does 5 = .ok (.invokevirtual 8, 3) := by decide +kernel
theorem dL_does_8 : decode cL_does 8 = .ok (.goto 217, 3) := by decide +kernel
theorem dL_does_11 : decode cL_does 11 = .ok (.iload_n 1, 1) := by decide +kernel
theorem dL_does_12 : decode cL_does 12 = .ok (.iconst 1, 1) := by decide +kernel
theorem dL_does_13 : decode cL_does 13 = .ok (.if_icmp .ne 12, 3) := by decide +kernel
theorem dL_does_16 : decode cL_does 16 = .ok (.aload_n 0, 1) := by decide +kernel
theorem dL_does_17 : decode cL_does 17 = .ok (.iload_n 2, 1) := by decide +kernel
theorem dL_does_18 : decode cL_does 18 = .ok (.iload_n 3, 1) := by decide +kernel
theorem dL_does_19 : decode cL_does 19 = .ok (.invokevirtual 14, 3) := by decide +kernel
theorem dL_does_22 : decode cL_does 22 = .ok (.goto 203, 3) := by decide +kernel
theorem dL_does_25 : decode cL_does 25 = .ok (.iload_n 1, 1) := by decide +kernel
theorem dL_does_26 : decode cL_does 26 = .ok (.iconst 2, 1) := by decide +kernel
theorem dL_does_27 : decode cL_does 27 = .ok (.if_icmp .ne 14, 3) := by decide +kernel
theorem dL_does_30 : decode cL_does 30 = .ok (.aload_n 0, 1) := by decide +kernel
theorem dL_does_31 : decode cL_does 31 = .ok (.iload_n 2, 1) := by decide +kernel
theorem dL_does_32 : decode cL_does 32 = .ok (.iload_n 3, 1) := by decide +kernel
theorem dL_does_33 : decode cL_does 33 = .ok (.iload 4, 2) := by decide +kernel
theorem dL_does_35 : decode cL_does 35 = .ok (.invokevirtual 18, 3) := by decide +kernel
theorem dL_does_38 : decode cL_does 38 = .ok (.goto 187, 3) := by decide +kernel
theorem dL_does_41 : decode cL_does 41 = .ok (.iload_n 1, 1) := by decide +kernel
theorem dL_does_42 : decode cL_does 42 = .ok (.iconst 3, 1) := by decide +kernel
theorem dL_does_43 : decode cL_does 43 = .ok (.if_icmp .ne 10, 3) := by decide +kernel
theorem dL_does_46 : decode cL_does 46 = .ok (.aload_n 0, 1) := by decide +kernel
theorem dL_does_47 : decode cL_does 47 = .ok (.invokevirtual 22, 3) := by decide +kernel
theorem dL_does_50 : decode cL_does 50 = .ok (.goto 175, 3) := by decide +kernel
theorem dL_does_53 : decode cL_does 53 = .ok (.iload_n 1, 1) := by decide +kernel
theorem dL_does_54 : decode cL_does 54 = .ok (.iconst 4, 1) := by decide +kernel
theorem dL_does_55 : decode cL_does 55 = .ok (.if_icmp .ne 22, 3) := by decide +kernel
theorem dL_does_58 : decode cL_does 58 = .ok (.aload_n 0, 1) := by decide +kernel
theorem dL_does_59 : decode cL_does 59 = .ok (.iload_n 2, 1) := by decide +kernel
theorem dL_does_60 : decode cL_does 60 = .ok (.iload_n 3, 1) := by decide +kernel
theorem dL_does_61 : decode cL_does 61 = .ok (.iload 4, 2) := by decide +kernel
theorem dL_does_63 : decode cL_does 63 = .ok (.invokevirtual 25, 3) := by decide +kernel
theorem dL_does_66 : decode cL_does 66 = .ok (.ifCond .eq 7, 3) := by decide +kernel
theorem dL_does_69 : decode cL_does 69 = .ok (.iconst 1, 1) := by decide +kernel
theorem dL_does_70 : decode cL_does 70 = .ok (.goto 155, 3) := by decide +kernel
theorem dL_does_73 : decode cL_does 73 = .ok (.iconst 0, 1) := by decide +kernel
theorem dL_does_74 : decode cL_does 74 = .ok (.goto 151, 3) := by decide +kernel
theorem dL_does_77 : decode cL_does 77 = .ok (.iload_n 1, 1) := by decide +kernel
theorem dL_does_78 : decode cL_does 78 = .ok (.iconst 5, 1) := by decide +kernel
theorem dL_does_79 : decode cL_does 79 = .ok (.if_icmp .ne 14, 3) := by decide +kernel
theorem dL_does_82 : decode cL_does 82 = .ok (.aload_n 0, 1) := by decide +kernel
theorem dL_does_83 : decode cL_does 83 = .ok (.iload_n 2, 1) := by decide +kernel
theorem dL_does_84 : decode cL_does 84 = .ok (.iload_n 3, 1) := by decide +kernel
theorem dL_does_85 : decode cL_does 85 = .ok (.iload 4, 2) := by decide +kernel
theorem dL_does_87 : decode cL_does 87 = .ok (.invokevirtual 29, 3) := by decide +kernel
theorem dL_does_90 : decode cL_does 90 = .ok (.goto 135, 3) := by decide +kernel
theorem dL_does_93 : decode cL_does 93 = .ok (.iload_n 1, 1) := by decide +kernel
theorem dL_does_94 : decode cL_does 94 = .ok (.bipush 6, 2) := by decide +kernel
theorem dL_does_96 : decode cL_does 96 = .ok (.if_icmp .ne 12, 3) := by decide +kernel
theorem dL_does_99 : decode cL_does 99 = .ok (.aload_n 0, 1) := by decide +kernel
theorem dL_does_100 : decode cL_does 100 = .ok (.iload_n 2, 1) := by decide +kernel
theorem dL_does_101 : decode cL_does 101 = .ok (.iload_n 3, 1) := by decide +kernel
theorem dL_does_102 : decode cL_does 102 = .ok (.invokevirtual 32, 3) := by decide +kernel
theorem dL_does_105 : decode cL_does 105 = .ok (.goto 120, 3) := by decide +kernel
theorem dL_does_108 : decode cL_does 108 = .ok (.iload_n 1, 1) := by decide +kernel
theorem dL_does_109 : decode cL_does 109 = .ok (.bipush 7, 2) := by decide +kernel
theorem dL_does_111 : decode cL_does 111 = .ok (.if_icmp .ne 11, 3) := by decide +kernel
theorem dL_does_114 : decode cL_does 114 = .ok (.aload_n 0, 1) := by decide +kernel
theorem dL_does_115 : decode cL_does 115 = .ok (.iload_n 2, 1) := by decide +kernel
theorem dL_does_116 : decode cL_does 116 = .ok (.invokevirtual 35, 3) := by decide +kernel
theorem dL_does_119 : decode cL_does 119 = .ok (.goto 106, 3) := by decide +kernel
theorem dL_does_122 : decode cL_does 122 = .ok (.iload_n 1, 1) := by decide +kernel
theorem dL_does_123 : decode cL_does 123 = .ok (.bipush 8, 2) := by decide +kernel
theorem dL_does_125 : decode cL_does 125 = .ok (.if_icmp .ne 12, 3) := by decide +kernel
theorem dL_does_128 : decode cL_does 128 = .ok (.aload_n 0, 1) := by decide +kernel
theorem dL_does_129 : decode cL_does 129 = .ok (.iload_n 2, 1) := by decide +kernel
theorem dL_does_130 : decode cL_does 130 = .ok (.iload_n 3, 1) := by decide +kernel
theorem dL_does_131 : decode cL_does 131 = .ok (.invokevirtual 39, 3) := by decide +kernel
theorem dL_does_134 : decode cL_does 134 = .ok (.goto 91, 3) := by decide +kernel
theorem dL_does_137 : decode cL_does 137 = .ok (.iload_n 1, 1) := by decide +kernel
theorem dL_does_138 : decode cL_does 138 = .ok (.bipush 9, 2) := by decide +kernel
theorem dL_does_140 : decode cL_does 140 = .ok (.if_icmp .ne 11, 3) := by decide +kernel
theorem dL_does_143 : decode cL_does 143 = .ok (.aload_n 0, 1) := by decide +kernel
theorem dL_does_144 : decode cL_does 144 = .ok (.iload_n 2, 1) := by decide +kernel
theorem dL_does_145 : decode cL_does 145 = .ok (.invokevirtual 42, 3) := by decide +kernel
theorem dL_does_148 : decode cL_does 148 = .ok (.goto 77, 3) := by decide +kernel
theorem dL_does_151 : decode cL_does 151 = .ok (.iload_n 1, 1) := by decide +kernel
theorem dL_does_152 : decode cL_does 152 = .ok (.bipush 10, 2) := by decide +kernel
theorem dL_does_154 : decode cL_does 154 = .ok (.if_icmp .ne 19, 3) := by decide +kernel
theorem dL_does_157 : decode cL_does 157 = .ok (.aload_n 0, 1) := by decide +kernel
theorem dL_does_158 : decode cL_does 158 = .ok (.iload_n 2, 1) := by decide +kernel
theorem dL_does_159 : decode cL_does 159 = .ok (.invokevirtual 45, 3) := by decide +kernel
theorem dL_does_162 : decode cL_does 162 = .ok (.ifCond .eq 7, 3) := by decide +kernel
theorem dL_does_165 : decode cL_does 165 = .ok (.iconst 1, 1) := by decide +kernel
theorem dL_does_166 : decode cL_does 166 = .ok (.goto 59, 3) := by decide +kernel
theorem dL_does_169 : decode cL_does 169 = .ok (.iconst 0, 1) := by decide +kernel
theorem dL_does_170 : decode cL_does 170 = .ok (.goto 55, 3) := by decide +kernel
theorem dL_does_173 : decode cL_does 173 = .ok (.iload_n 1, 1) := by decide +kernel
theorem dL_does_174 : decode cL_does 174 = .ok (.bipush 11, 2) := by decide +kernel
theorem dL_does_176 : decode cL_does 176 = .ok (.if_icmp .ne 14, 3) := by decide +kernel
theorem dL_does_179 : decode cL_does 179 = .ok (.aload_n 0, 1) := by decide +kernel
theorem dL_does_180 : decode cL_does 180 = .ok (.iload_n 2, 1) := by decide +kernel
theorem dL_does_181 : decode cL_does 181 = .ok (.iload_n 3, 1) := by decide +kernel
theorem dL_does_182 : decode cL_does 182 = .ok (.iload 4, 2) := by decide +kernel
theorem dL_does_184 : decode cL_does 184 = .ok (.invokevirtual 49, 3) := by decide +kernel
theorem dL_does_187 : decode cL_does 187 = .ok (.goto 38, 3) := by decide +kernel
theorem dL_does_190 : decode cL_does 190 = .ok (.iload_n 1, 1) := by decide +kernel
theorem dL_does_191 : decode cL_does 191 = .ok (.bipush 12, 2) := by decide +kernel
theorem dL_does_193 : decode cL_does 193 = .ok (.if_icmp .ne 12, 3) := by decide +kernel
theorem dL_does_196 : decode cL_does 196 = .ok (.aload_n 0, 1) := by decide +kernel
theorem dL_does_197 : decode cL_does 197 = .ok (.iload_n 2, 1) := by decide +kernel
theorem dL_does_198 : decode cL_does 198 = .ok (.iload_n 3, 1) := by decide +kernel
theorem dL_does_199 : decode cL_does 199 = .ok (.invokevirtual 52, 3) := by decide +kernel
theorem dL_does_202 : decode cL_does 202 = .ok (.goto 23, 3) := by decide +kernel
theorem dL_does_205 : decode cL_does 205 = .ok (.iload_n 1, 1) := by decide +kernel
theorem dL_does_206 : decode cL_does 206 = .ok (.bipush 13, 2) := by decide +kernel
theorem dL_does_208 : decode cL_does 208 = .ok (.if_icmp .ne 11, 3) := by decide +kernel
theorem dL_does_211 : decode cL_does 211 = .ok (.aload_n 0, 1) := by decide +kernel
theorem dL_does_212 : decode cL_does 212 = .ok (.iload_n 2, 1) := by decide +kernel
theorem dL_does_213 : decode cL_does 213 = .ok (.invokevirtual 55, 3) := by decide +kernel
theorem dL_does_216 : decode cL_does 216 = .ok (.goto 9, 3) := by decide +kernel
theorem dL_does_219 : decode cL_does 219 = .ok (.aload_n 0, 1) := by decide +kernel
theorem dL_does_220 : decode cL_does 220 = .ok (.iload_n 2, 1) := by decide +kernel
theorem dL_does_221 : decode cL_does 221 = .ok (.iload_n 3, 1) := by decide +kernel
theorem dL_does_222 : decode cL_does 222 = .ok (.invokevirtual 58, 3) := by decide +kernel
theorem dL_does_225 : decode cL_does 225 = .ok (.ireturn, 1) := by decide +kernel
theorem dL_does_226 : decode cL_does 226 = .ok (.astore 5, 2) := by decide +kernel
theorem dL_does_228 : decode cL_does 228 = .ok (.ldc 64, 2) := by decide +kernel
theorem dL_does_230 : decode cL_does 230 = .ok (.ireturn, 1) := by decide +kernel
theorem dL_does_231 : decode cL_does 231 = .ok (.astore 5, 2) := by decide +kernel
theorem dL_does_233 : decode cL_does 233 = .ok (.ldc 67, 2) := by decide +kernel
theorem dL_does_235 : decode cL_does 235 = .ok (.ireturn, 1) := by decide +kernel
theorem dL_does_236 : decode cL_does 236 = .ok (.astore 5, 2) := by decide +kernel
theorem dL_does_238 : decode cL_does 238 = .ok (.ldc 70, 2) := by decide +kernel
theorem dL_does_240 : decode cL_does 240 = .ok (.ireturn, 1) := by decide +kernel
theorem dL_isGood_0 : decode cL_isGood 0 = .ok (.aload_n 0, 1) := by decide +kernel
theorem dL_isGood_1 : decode cL_isGood 1 = .ok (.aload_n 1, 1) := by decide +kernel
theorem dL_isGood_2 : decode cL_isGood 2 = .ok (.iload_n 3, 1) := by decide +kernel
theorem dL_isGood_3 : decode cL_isGood 3 = .ok (.iaload, 1) := by decide +kernel
theorem dL_isGood_4 : decode cL_isGood 4 = .ok (.bipush 16, 2) := by decide +kernel
theorem dL_isGood_6 : decode cL_isGood 6 = .ok (.irem, 1) := by decide +kernel
theorem dL_isGood_7 : decode cL_isGood 7 = .ok (.iaload, 1) := by decide +kernel
theorem dL_isGood_8 : decode cL_isGood 8 = .ok (.istore 4, 2) := by decide +kernel
theorem dL_isGood_10 : decode cL_isGood 10 = .ok (.iload 4, 2) := by decide +kernel
theorem dL_isGood_12 : decode cL_isGood 12 = .ok (.ifCond .lt 11, 3) := by decide +kernel
theorem dL_isGood_15 : decode cL_isGood 15 = .ok (.aload_n 2, 1) := by decide +kernel
theorem dL_isGood_16 : decode cL_isGood 16 = .ok (.iload_n 3, 1) := by decide +kernel
theorem dL_isGood_17 : decode cL_isGood 17 = .ok (.iaload, 1) := by decide +kernel
theorem dL_isGood_18 : decode cL_isGood 18 = .ok (.iload 4, 2) := by decide +kernel
theorem dL_isGood_20 : decode cL_isGood 20 = .ok (.if_icmp .ge 7, 3) := by decide +kernel
theorem dL_isGood_23 : decode cL_isGood 23 = .ok (.iconst 1, 1) := by decide +kernel
theorem dL_isGood_24 : decode cL_isGood 24 = .ok (.goto 4, 3) := by decide +kernel
theorem dL_isGood_27 : decode cL_isGood 27 = .ok (.iconst 0, 1) := by decide +kernel
theorem dL_isGood_28 : decode cL_isGood 28 = .ok (.ireturn, 1) := by decide +kernel
theorem dL_points_0 : decode cL_points 0 = .ok (.iconst 0, 1) := by decide +kernel
theorem dL_points_1 : decode cL_points 1 = .ok (.istore 6, 2) := by decide +kernel
theorem dL_points_3 : decode cL_points 3 = .ok (.iconst 0, 1) := by decide +kernel
theorem dL_points_4 : decode cL_points 4 = .ok (.istore 7, 2) := by decide +kernel
theorem dL_points_6 : decode cL_points 6 = .ok (.iload 7, 2) := by decide +kernel
theorem dL_points_8 : decode cL_points 8 = .ok (.aload_n 3, 1) := by decide +kernel
theorem dL_points_9 : decode cL_points 9 = .ok (.iconst 2, 1) := by decide +kernel
theorem dL_points_10 : decode cL_points 10 = .ok (.iaload, 1) := by decide +kernel
theorem dL_points_11 : decode cL_points 11 = .ok (.if_icmp .ge 90, 3) := by decide +kernel
theorem dL_points_14 : decode cL_points 14 = .ok (.aload_n 1, 1) := by decide +kernel
theorem dL_points_15 : decode cL_points 15 = .ok (.iload 7, 2) := by decide +kernel
theorem dL_points_17 : decode cL_points 17 = .ok (.iaload, 1) := by decide +kernel
theorem dL_points_18 : decode cL_points 18 = .ok (.sipush 1024, 3) := by decide +kernel
theorem dL_points_21 : decode cL_points 21 = .ok (.idiv, 1) := by decide +kernel
theorem dL_points_22 : decode cL_points 22 = .ok (.iload 4, 2) := by decide +kernel
theorem dL_points_24 : decode cL_points 24 = .ok (.if_icmp .ne 18, 3) := by decide +kernel
theorem dL_points_27 : decode cL_points 27 = .ok (.aload_n 0, 1) := by decide +kernel
theorem dL_points_28 : decode cL_points 28 = .ok (.aload_n 1, 1) := by decide +kernel
theorem dL_points_29 : decode cL_points 29 = .ok (.aload_n 2, 1) := by decide +kernel
theorem dL_points_30 : decode cL_points 30 = .ok (.iload 7, 2) := by decide +kernel
theorem dL_points_32 : decode cL_points 32 = .ok (.invokestatic 71, 3) := by decide +kernel
theorem dL_points_35 : decode cL_points 35 = .ok (.ifCond .eq 7, 3) := by decide +kernel
theorem dL_points_38 : decode cL_points 38 = .ok (.iconst 1, 1) := by decide +kernel
theorem dL_points_39 : decode cL_points 39 = .ok (.goto 4, 3) := by decide +kernel
theorem dL_points_42 : decode cL_points 42 = .ok (.iconst 0, 1) := by decide +kernel
theorem dL_points_43 : decode cL_points 43 = .ok (.istore 8, 2) := by decide +kernel
theorem dL_points_45 : decode cL_points 45 = .ok (.iload 6, 2) := by decide +kernel
theorem dL_points_47 : decode cL_points 47 = .ok (.iload 8, 2) := by decide +kernel
theorem dL_points_49 : decode cL_points 49 = .ok (.ifCond .ne 7, 3) := by decide +kernel
theorem dL_points_52 : decode cL_points 52 = .ok (.iconst 0, 1) := by decide +kernel
theorem dL_points_53 : decode cL_points 53 = .ok (.goto 39, 3) := by decide +kernel
theorem dL_points_56 : decode cL_points 56 = .ok (.aload_n 1, 1) := by decide +kernel
theorem dL_points_57 : decode cL_points 57 = .ok (.iload 7, 2) := by decide +kernel
theorem dL_points_59 : decode cL_points 59 = .ok (.iaload, 1) := by decide +kernel
theorem dL_points_60 : decode cL_points 60 = .ok (.bipush 16, 2) := by decide +kernel
theorem dL_points_62 : decode cL_points 62 = .ok (.irem, 1) := by decide +kernel
theorem dL_points_63 : decode cL_points 63 = .ok (.iload 5, 2) := by decide +kernel
theorem dL_points_65 : decode cL_points 65 = .ok (.if_icmp .ne 7, 3) := by decide +kernel
theorem dL_points_68 : decode cL_points 68 = .ok (.iconst 3, 1) := by decide +kernel
theorem dL_points_69 : decode cL_points 69 = .ok (.goto 23, 3) := by decide +kernel
theorem dL_points_72 : decode cL_points 72 = .ok (.aload_n 1, 1) := by decide +kernel
theorem dL_points_73 : decode cL_points 73 = .ok (.iload 7, 2) := by decide +kernel
theorem dL_points_75 : decode cL_points 75 = .ok (.iaload, 1) := by decide +kernel
theorem dL_points_76 : decode cL_points 76 = .ok (.bipush 16, 2) := by decide +kernel
theorem dL_points_78 : decode cL_points 78 = .ok (.idiv, 1) := by decide +kernel
theorem dL_points_79 : decode cL_points 79 = .ok (.bipush 16, 2) := by decide +kernel
theorem dL_points_81 : decode cL_points 81 = .ok (.irem, 1) := by decide +kernel
theorem dL_points_82 : decode cL_points 82 = .ok (.iload 5, 2) := by decide +kernel
theorem dL_points_84 : decode cL_points 84 = .ok (.if_icmp .ne 7, 3) := by decide +kernel
theorem dL_points_87 : decode cL_points 87 = .ok (.iconst 1, 1) := by decide +kernel
theorem dL_points_88 : decode cL_points 88 = .ok (.goto 4, 3) := by decide +kernel
theorem dL_points_91 : decode cL_points 91 = .ok (.iconst 0, 1) := by decide +kernel
theorem dL_points_92 : decode cL_points 92 = .ok (.iadd, 1) := by decide +kernel
theorem dL_points_93 : decode cL_points 93 = .ok (.istore 6, 2) := by decide +kernel
theorem dL_points_95 : decode cL_points 95 = .ok (.iinc 7 1, 3) := by decide +kernel
theorem dL_points_98 : decode cL_points 98 = .ok (.goto (-92), 3) := by decide +kernel
theorem dL_points_101 : decode cL_points 101 = .ok (.iload 6, 2) := by decide +kernel
theorem dL_points_103 : decode cL_points 103 = .ok (.ireturn, 1) := by decide +kernel
theorem dL_many_0 : decode cL_many 0 = .ok (.iconst 0, 1) := by decide +kernel
theorem dL_many_1 : decode cL_many 1 = .ok (.istore 6, 2) := by decide +kernel
theorem dL_many_3 : decode cL_many 3 = .ok (.iconst 0, 1) := by decide +kernel
theorem dL_many_4 : decode cL_many 4 = .ok (.istore 7, 2) := by decide +kernel
theorem dL_many_6 : decode cL_many 6 = .ok (.iload 7, 2) := by decide +kernel
theorem dL_many_8 : decode cL_many 8 = .ok (.aload_n 3, 1) := by decide +kernel
theorem dL_many_9 : decode cL_many 9 = .ok (.iconst 2, 1) := by decide +kernel
theorem dL_many_10 : decode cL_many 10 = .ok (.iaload, 1) := by decide +kernel
theorem dL_many_11 : decode cL_many 11 = .ok (.if_icmp .ge 82, 3) := by decide +kernel
theorem dL_many_14 : decode cL_many 14 = .ok (.aload_n 1, 1) := by decide +kernel
theorem dL_many_15 : decode cL_many 15 = .ok (.iload 7, 2) := by decide +kernel
theorem dL_many_17 : decode cL_many 17 = .ok (.iaload, 1) := by decide +kernel
theorem dL_many_18 : decode cL_many 18 = .ok (.sipush 1024, 3) := by decide +kernel
theorem dL_many_21 : decode cL_many 21 = .ok (.idiv, 1) := by decide +kernel
theorem dL_many_22 : decode cL_many 22 = .ok (.iload 4, 2) := by decide +kernel
theorem dL_many_24 : decode cL_many 24 = .ok (.if_icmp .ne 18, 3) := by decide +kernel
theorem dL_many_27 : decode cL_many 27 = .ok (.aload_n 0, 1) := by decide +kernel
theorem dL_many_28 : decode cL_many 28 = .ok (.aload_n 1, 1) := by decide +kernel
theorem dL_many_29 : decode cL_many 29 = .ok (.aload_n 2, 1) := by decide +kernel
theorem dL_many_30 : decode cL_many 30 = .ok (.iload 7, 2) := by decide +kernel
theorem dL_many_32 : decode cL_many 32 = .ok (.invokestatic 71, 3) := by decide +kernel
theorem dL_many_35 : decode cL_many 35 = .ok (.ifCond .eq 7, 3) := by decide +kernel
theorem dL_many_38 : decode cL_many 38 = .ok (.iconst 1, 1) := by decide +kernel
theorem dL_many_39 : decode cL_many 39 = .ok (.goto 4, 3) := by decide +kernel
theorem dL_many_42 : decode cL_many 42 = .ok (.iconst 0, 1) := by decide +kernel
theorem dL_many_43 : decode cL_many 43 = .ok (.istore 8, 2) := by decide +kernel
theorem dL_many_45 : decode cL_many 45 = .ok (.iload 6, 2) := by decide +kernel
theorem dL_many_47 : decode cL_many 47 = .ok (.iload 8, 2) := by decide +kernel
theorem dL_many_49 : decode cL_many 49 = .ok (.ifCond .eq 34, 3) := by decide +kernel
theorem dL_many_52 : decode cL_many 52 = .ok (.aload_n 1, 1) := by decide +kernel
theorem dL_many_53 : decode cL_many 53 = .ok (.iload 7, 2) := by decide +kernel
theorem dL_many_55 : decode cL_many 55 = .ok (.iaload, 1) := by decide +kernel
theorem dL_many_56 : decode cL_many 56 = .ok (.bipush 16, 2) := by decide +kernel
theorem dL_many_58 : decode cL_many 58 = .ok (.irem, 1) := by decide +kernel
theorem dL_many_59 : decode cL_many 59 = .ok (.iload 5, 2) := by decide +kernel
theorem dL_many_61 : decode cL_many 61 = .ok (.if_icmp .eq 18, 3) := by decide +kernel
theorem dL_many_64 : decode cL_many 64 = .ok (.aload_n 1, 1) := by decide +kernel
theorem dL_many_65 : decode cL_many 65 = .ok (.iload 7, 2) := by decide +kernel
theorem dL_many_67 : decode cL_many 67 = .ok (.iaload, 1) := by decide +kernel
theorem dL_many_68 : decode cL_many 68 = .ok (.bipush 16, 2) := by decide +kernel
theorem dL_many_70 : decode cL_many 70 = .ok (.idiv, 1) := by decide +kernel
theorem dL_many_71 : decode cL_many 71 = .ok (.bipush 16, 2) := by decide +kernel
theorem dL_many_73 : decode cL_many 73 = .ok (.irem, 1) := by decide +kernel
theorem dL_many_74 : decode cL_many 74 = .ok (.iload 5, 2) := by decide +kernel
theorem dL_many_76 : decode cL_many 76 = .ok (.if_icmp .ne 7, 3) := by decide +kernel
theorem dL_many_79 : decode cL_many 79 = .ok (.iconst 1, 1) := by decide +kernel
theorem dL_many_80 : decode cL_many 80 = .ok (.goto 4, 3) := by decide +kernel
theorem dL_many_83 : decode cL_many 83 = .ok (.iconst 0, 1) := by decide +kernel
theorem dL_many_84 : decode cL_many 84 = .ok (.iadd, 1) := by decide +kernel
theorem dL_many_85 : decode cL_many 85 = .ok (.istore 6, 2) := by decide +kernel
theorem dL_many_87 : decode cL_many 87 = .ok (.iinc 7 1, 3) := by decide +kernel
theorem dL_many_90 : decode cL_many 90 = .ok (.goto (-84), 3) := by decide +kernel
theorem dL_many_93 : decode cL_many 93 = .ok (.iload 6, 2) := by decide +kernel
theorem dL_many_95 : decode cL_many 95 = .ok (.ireturn, 1) := by decide +kernel
theorem dL_weight_0 : decode cL_weight 0 = .ok (.aload_n 0, 1) := by decide +kernel
theorem dL_weight_1 : decode cL_weight 1 = .ok (.aload_n 1, 1) := by decide +kernel
theorem dL_weight_2 : decode cL_weight 2 = .ok (.aload_n 2, 1) := by decide +kernel
theorem dL_weight_3 : decode cL_weight 3 = .ok (.aload_n 3, 1) := by decide +kernel
theorem dL_weight_4 : decode cL_weight 4 = .ok (.iload 4, 2) := by decide +kernel
theorem dL_weight_6 : decode cL_weight 6 = .ok (.iload 5, 2) := by decide +kernel
theorem dL_weight_8 : decode cL_weight 8 = .ok (.invokestatic 77, 3) := by decide +kernel
theorem dL_weight_11 : decode cL_weight 11 = .ok (.istore 6, 2) := by decide +kernel
theorem dL_weight_13 : decode cL_weight 13 = .ok (.iload 6, 2) := by decide +kernel
theorem dL_weight_15 : decode cL_weight 15 = .ok (.ifCond .ne 8, 3) := by decide +kernel
theorem dL_weight_18 : decode cL_weight 18 = .ok (.ldc 81, 2) := by decide +kernel
theorem dL_weight_20 : decode cL_weight 20 = .ok (.goto 31, 3) := by decide +kernel
theorem dL_weight_23 : decode cL_weight 23 = .ok (.sipush 1000, 3) := by decide +kernel
theorem dL_weight_26 : decode cL_weight 26 = .ok (.iload 6, 2) := by decide +kernel
theorem dL_weight_28 : decode cL_weight 28 = .ok (.isub, 1) := by decide +kernel
theorem dL_weight_29 : decode cL_weight 29 = .ok (.sipush 1000, 3) := by decide +kernel
theorem dL_weight_32 : decode cL_weight 32 = .ok (.imul, 1) := by decide +kernel
theorem dL_weight_33 : decode cL_weight 33 = .ok (.aload_n 0, 1) := by decide +kernel
theorem dL_weight_34 : decode cL_weight 34 = .ok (.aload_n 1, 1) := by decide +kernel
theorem dL_weight_35 : decode cL_weight 35 = .ok (.aload_n 2, 1) := by decide +kernel
theorem dL_weight_36 : decode cL_weight 36 = .ok (.aload_n 3, 1) := by decide +kernel
theorem dL_weight_37 : decode cL_weight 37 = .ok (.iload 4, 2) := by decide +kernel
theorem dL_weight_39 : decode cL_weight 39 = .ok (.iload 5, 2) := by decide +kernel
theorem dL_weight_41 : decode cL_weight 41 = .ok (.invokestatic 82, 3) := by decide +kernel
theorem dL_weight_44 : decode cL_weight 44 = .ok (.bipush 16, 2) := by decide +kernel
theorem dL_weight_46 : decode cL_weight 46 = .ok (.imul, 1) := by decide +kernel
theorem dL_weight_47 : decode cL_weight 47 = .ok (.iadd, 1) := by decide +kernel
theorem dL_weight_48 : decode cL_weight 48 = .ok (.iload 5, 2) := by decide +kernel
theorem dL_weight_50 : decode cL_weight 50 = .ok (.iadd, 1) := by decide +kernel
theorem dL_weight_51 : decode cL_weight 51 = .ok (.ireturn, 1) := by decide +kernel
theorem dL_who_0 : decode cL_who 0 = .ok (.iconst (-1), 1) := by decide +kernel
theorem dL_who_1 : decode cL_who 1 = .ok (.istore 6, 2) := by decide +kernel
theorem dL_who_3 : decode cL_who 3 = .ok (.iconst (-1), 1) := by decide +kernel
theorem dL_who_4 : decode cL_who 4 = .ok (.istore 7, 2) := by decide +kernel
theorem dL_who_6 : decode cL_who 6 = .ok (.iconst 0, 1) := by decide +kernel
theorem dL_who_7 : decode cL_who 7 = .ok (.istore 8, 2) := by decide +kernel
theorem dL_who_9 : decode cL_who 9 = .ok (.iload 8, 2) := by decide +kernel
theorem dL_who_11 : decode cL_who 11 = .ok (.iload 5, 2) := by decide +kernel
theorem dL_who_13 : decode cL_who 13 = .ok (.if_icmp .ge 72, 3) := by decide +kernel
theorem dL_who_16 : decode cL_who 16 = .ok (.ldc 81, 2) := by decide +kernel
theorem dL_who_18 : decode cL_who 18 = .ok (.istore 9, 2) := by decide +kernel
theorem dL_who_20 : decode cL_who 20 = .ok (.iconst (-1), 1) := by decide +kernel
theorem dL_who_21 : decode cL_who 21 = .ok (.istore 7, 2) := by decide +kernel
theorem dL_who_23 : decode cL_who 23 = .ok (.iconst 0, 1) := by decide +kernel
theorem dL_who_24 : decode cL_who 24 = .ok (.istore 10, 2) := by decide +kernel
theorem dL_who_26 : decode cL_who 26 = .ok (.iload 10, 2) := by decide +kernel
theorem dL_who_28 : decode cL_who 28 = .ok (.aload_n 3, 1) := by decide +kernel
theorem dL_who_29 : decode cL_who 29 = .ok (.iconst 1, 1) := by decide +kernel
theorem dL_who_30 : decode cL_who 30 = .ok (.iaload, 1) := by decide +kernel
theorem dL_who_31 : decode cL_who 31 = .ok (.if_icmp .ge 44, 3) := by decide +kernel
theorem dL_who_34 : decode cL_who 34 = .ok (.aload_n 0, 1) := by decide +kernel
theorem dL_who_35 : decode cL_who 35 = .ok (.aload_n 1, 1) := by decide +kernel
theorem dL_who_36 : decode cL_who 36 = .ok (.aload_n 2, 1) := by decide +kernel
theorem dL_who_37 : decode cL_who 37 = .ok (.aload_n 3, 1) := by decide +kernel
theorem dL_who_38 : decode cL_who 38 = .ok (.iload 4, 2) := by decide +kernel
theorem dL_who_40 : decode cL_who 40 = .ok (.iload 10, 2) := by decide +kernel
theorem dL_who_42 : decode cL_who 42 = .ok (.invokestatic 85, 3) := by decide +kernel
theorem dL_who_45 : decode cL_who 45 = .ok (.istore 11, 2) := by decide +kernel
theorem dL_who_47 : decode cL_who 47 = .ok (.iload 11, 2) := by decide +kernel
theorem dL_who_49 : decode cL_who 49 = .ok (.iload 6, 2) := by decide +kernel
theorem dL_who_51 : decode cL_who 51 = .ok (.if_icmp .le 18, 3) := by decide +kernel
theorem dL_who_54 : decode cL_who 54 = .ok (.iload 11, 2) := by decide +kernel
theorem dL_who_56 : decode cL_who 56 = .ok (.iload 9, 2) := by decide +kernel
theorem dL_who_58 : decode cL_who 58 = .ok (.if_icmp .ge 11, 3) := by decide +kernel
theorem dL_who_61 : decode cL_who 61 = .ok (.iload 11, 2) := by decide +kernel
theorem dL_who_63 : decode cL_who 63 = .ok (.istore 9, 2) := by decide +kernel
theorem dL_who_65 : decode cL_who 65 = .ok (.iload 10, 2) := by decide +kernel
theorem dL_who_67 : decode cL_who 67 = .ok (.istore 7, 2) := by decide +kernel
theorem dL_who_69 : decode cL_who 69 = .ok (.iinc 10 1, 3) := by decide +kernel
theorem dL_who_72 : decode cL_who 72 = .ok (.goto (-46), 3) := by decide +kernel
theorem dL_who_75 : decode cL_who 75 = .ok (.iload 9, 2) := by decide +kernel
theorem dL_who_77 : decode cL_who 77 = .ok (.istore 6, 2) := by decide +kernel
theorem dL_who_79 : decode cL_who 79 = .ok (.iinc 8 1, 3) := by decide +kernel
theorem dL_who_82 : decode cL_who 82 = .ok (.goto (-73), 3) := by decide +kernel
theorem dL_who_85 : decode cL_who 85 = .ok (.iload 7, 2) := by decide +kernel
theorem dL_who_87 : decode cL_who 87 = .ok (.ireturn, 1) := by decide +kernel
theorem dL_pays_0 : decode cL_pays 0 = .ok (.iload_n 1, 1) := by decide +kernel
theorem dL_pays_1 : decode cL_pays 1 = .ok (.ifCond .lt 27, 3) := by decide +kernel
theorem dL_pays_4 : decode cL_pays 4 = .ok (.iload_n 2, 1) := by decide +kernel
theorem dL_pays_5 : decode cL_pays 5 = .ok (.ifCond .lt 23, 3) := by decide +kernel
theorem dL_pays_8 : decode cL_pays 8 = .ok (.aload_n 0, 1) := by decide +kernel
theorem dL_pays_9 : decode cL_pays 9 = .ok (.bipush 32, 2) := by decide +kernel
theorem dL_pays_11 : decode cL_pays 11 = .ok (.iload_n 1, 1) := by decide +kernel
theorem dL_pays_12 : decode cL_pays 12 = .ok (.iadd, 1) := by decide +kernel
theorem dL_pays_13 : decode cL_pays 13 = .ok (.dup2, 1) := by decide +kernel
theorem dL_pays_14 : decode cL_pays 14 = .ok (.iaload, 1) := by decide +kernel
theorem dL_pays_15 : decode cL_pays 15 = .ok (.iload_n 3, 1) := by decide +kernel
theorem dL_pays_16 : decode cL_pays 16 = .ok (.isub, 1) := by decide +kernel
theorem dL_pays_17 : decode cL_pays 17 = .ok (.iastore, 1) := by decide +kernel
theorem dL_pays_18 : decode cL_pays 18 = .ok (.aload_n 0, 1) := by decide +kernel
theorem dL_pays_19 : decode cL_pays 19 = .ok (.bipush 32, 2) := by decide +kernel
theorem dL_pays_21 : decode cL_pays 21 = .ok (.iload_n 2, 1) := by decide +kernel
theorem dL_pays_22 : decode cL_pays 22 = .ok (.iadd, 1) := by decide +kernel
theorem dL_pays_23 : decode cL_pays 23 = .ok (.dup2, 1) := by decide +kernel
theorem dL_pays_24 : decode cL_pays 24 = .ok (.iaload, 1) := by decide +kernel
theorem dL_pays_25 : decode cL_pays 25 = .ok (.iload_n 3, 1) := by decide +kernel
theorem dL_pays_26 : decode cL_pays 26 = .ok (.iadd, 1) := by decide +kernel
theorem dL_pays_27 : decode cL_pays 27 = .ok (.iastore, 1) := by decide +kernel
theorem dL_pays_28 : decode cL_pays 28 = .ok (.return_, 1) := by decide +kernel
theorem dL_looks_0 : decode cL_looks 0 = .ok (.iconst 0, 1) := by decide +kernel
theorem dL_looks_1 : decode cL_looks 1 = .ok (.istore 9, 2) := by decide +kernel
theorem dL_looks_3 : decode cL_looks 3 = .ok (.iload 9, 2) := by decide +kernel
theorem dL_looks_5 : decode cL_looks 5 = .ok (.aload 8, 2) := by decide +kernel
theorem dL_looks_7 : decode cL_looks 7 = .ok (.iconst 4, 1) := by decide +kernel
theorem dL_looks_8 : decode cL_looks 8 = .ok (.iaload, 1) := by decide +kernel
theorem dL_looks_9 : decode cL_looks 9 = .ok (.if_icmp .ge 191, 3) := by decide +kernel
theorem dL_looks_12 : decode cL_looks 12 = .ok (.aload_n 0, 1) := by decide +kernel
theorem dL_looks_13 : decode cL_looks 13 = .ok (.aload_n 1, 1) := by decide +kernel
theorem dL_looks_14 : decode cL_looks 14 = .ok (.aload_n 2, 1) := by decide +kernel
theorem dL_looks_15 : decode cL_looks 15 = .ok (.aload 8, 2) := by decide +kernel
theorem dL_looks_17 : decode cL_looks 17 = .ok (.aload_n 3, 1) := by decide +kernel
theorem dL_looks_18 : decode cL_looks 18 = .ok (.iload 9, 2) := by decide +kernel
theorem dL_looks_20 : decode cL_looks 20 = .ok (.iaload, 1) := by decide +kernel
theorem dL_looks_21 : decode cL_looks 21 = .ok (.bipush 16, 2) := by decide +kernel
theorem dL_looks_23 : decode cL_looks 23 = .ok (.irem, 1) := by decide +kernel
theorem dL_looks_24 : decode cL_looks 24 = .ok (.aload_n 3, 1) := by decide +kernel
theorem dL_looks_25 : decode cL_looks 25 = .ok (.iload 9, 2) := by decide +kernel
theorem dL_looks_27 : decode cL_looks 27 = .ok (.iaload, 1) := by decide +kernel
theorem dL_looks_28 : decode cL_looks 28 = .ok (.bipush 16, 2) := by decide +kernel
theorem dL_looks_30 : decode cL_looks 30 = .ok (.idiv, 1) := by decide +kernel
theorem dL_looks_31 : decode cL_looks 31 = .ok (.invokestatic 88, 3) := by decide +kernel
theorem dL_looks_34 : decode cL_looks 34 = .ok (.istore 10, 2) := by decide +kernel
theorem dL_looks_36 : decode cL_looks 36 = .ok (.aload 4, 2) := by decide +kernel
theorem dL_looks_38 : decode cL_looks 38 = .ok (.iload 9, 2) := by decide +kernel
theorem dL_looks_40 : decode cL_looks 40 = .ok (.iaload, 1) := by decide +kernel
theorem dL_looks_41 : decode cL_looks 41 = .ok (.bipush 32, 2) := by decide +kernel
theorem dL_looks_43 : decode cL_looks 43 = .ok (.irem, 1) := by decide +kernel
theorem dL_looks_44 : decode cL_looks 44 = .ok (.iconst 1, 1) := by decide +kernel
theorem dL_looks_45 : decode cL_looks 45 = .ok (.isub, 1) := by decide +kernel
theorem dL_looks_46 : decode cL_looks 46 = .ok (.istore 11, 2) := by decide +kernel
theorem dL_looks_48 : decode cL_looks 48 = .ok (.iload 10, 2) := by decide +kernel
theorem dL_looks_50 : decode cL_looks 50 = .ok (.iload 11, 2) := by decide +kernel
theorem dL_looks_52 : decode cL_looks 52 = .ok (.if_icmp .eq 142, 3) := by decide +kernel
theorem dL_looks_55 : decode cL_looks 55 = .ok (.aload 4, 2) := by decide +kernel
theorem dL_looks_57 : decode cL_looks 57 = .ok (.iload 9, 2) := by decide +kernel
theorem dL_looks_59 : decode cL_looks 59 = .ok (.aload 4, 2) := by decide +kernel
theorem dL_looks_61 : decode cL_looks 61 = .ok (.iload 9, 2) := by decide +kernel
theorem dL_looks_63 : decode cL_looks 63 = .ok (.iaload, 1) := by decide +kernel
theorem dL_looks_64 : decode cL_looks 64 = .ok (.bipush 32, 2) := by decide +kernel
theorem dL_looks_66 : decode cL_looks 66 = .ok (.idiv, 1) := by decide +kernel
theorem dL_looks_67 : decode cL_looks 67 = .ok (.bipush 32, 2) := by decide +kernel
theorem dL_looks_69 : decode cL_looks 69 = .ok (.imul, 1) := by decide +kernel
theorem dL_looks_70 : decode cL_looks 70 = .ok (.iload 10, 2) := by decide +kernel
theorem dL_looks_72 : decode cL_looks 72 = .ok (.iadd, 1) := by decide +kernel
theorem dL_looks_73 : decode cL_looks 73 = .ok (.iconst 1, 1) := by decide +kernel
theorem dL_looks_74 : decode cL_looks 74 = .ok (.iadd, 1) := by decide +kernel
theorem dL_looks_75 : decode cL_looks 75 = .ok (.iastore, 1) := by decide +kernel
theorem dL_looks_76 : decode cL_looks 76 = .ok (.aload 5, 2) := by decide +kernel
theorem dL_looks_78 : decode cL_looks 78 = .ok (.iload 9, 2) := by decide +kernel
theorem dL_looks_80 : decode cL_looks 80 = .ok (.iaload, 1) := by decide +kernel
theorem dL_looks_81 : decode cL_looks 81 = .ok (.ifCond .le 34, 3) := by decide +kernel
theorem dL_looks_84 : decode cL_looks 84 = .ok (.aload_n 0, 1) := by decide +kernel
theorem dL_looks_85 : decode cL_looks 85 = .ok (.iload 11, 2) := by decide +kernel
theorem dL_looks_87 : decode cL_looks 87 = .ok (.iload 10, 2) := by decide +kernel
theorem dL_looks_89 : decode cL_looks 89 = .ok (.aload 7, 2) := by decide +kernel
theorem dL_looks_91 : decode cL_looks 91 = .ok (.bipush 10, 2) := by decide +kernel
theorem dL_looks_93 : decode cL_looks 93 = .ok (.iload 9, 2) := by decide +kernel
theorem dL_looks_95 : decode cL_looks 95 = .ok (.imul, 1) := by decide +kernel
theorem dL_looks_96 : decode cL_looks 96 = .ok (.aload 5, 2) := by decide +kernel
theorem dL_looks_98 : decode cL_looks 98 = .ok (.iload 9, 2) := by decide +kernel
theorem dL_looks_100 : decode cL_looks 100 = .ok (.iaload, 1) := by decide +kernel
theorem dL_looks_101 : decode cL_looks 101 = .ok (.iadd, 1) := by decide +kernel
theorem dL_looks_102 : decode cL_looks 102 = .ok (.iconst 1, 1) := by decide +kernel
theorem dL_looks_103 : decode cL_looks 103 = .ok (.isub, 1) := by decide +kernel
theorem dL_looks_104 : decode cL_looks 104 = .ok (.iaload, 1) := by decide +kernel
theorem dL_looks_105 : decode cL_looks 105 = .ok (.sipush 256, 3) := by decide +kernel
theorem dL_looks_108 : decode cL_looks 108 = .ok (.idiv, 1) := by decide +kernel
theorem dL_looks_109 : decode cL_looks 109 = .ok (.invokestatic 91, 3) := by decide +kernel
theorem dL_looks_112 : decode cL_looks 112 = .ok (.goto 82, 3) := by decide +kernel
theorem dL_looks_115 : decode cL_looks 115 = .ok (.aload 6, 2) := by decide +kernel
theorem dL_looks_117 : decode cL_looks 117 = .ok (.iload 9, 2) := by decide +kernel
theorem dL_looks_119 : decode cL_looks 119 = .ok (.iaload, 1) := by decide +kernel
theorem dL_looks_120 : decode cL_looks 120 = .ok (.iconst 1, 1) := by decide +kernel
theorem dL_looks_121 : decode cL_looks 121 = .ok (.isub, 1) := by decide +kernel
theorem dL_looks_122 : decode cL_looks 122 = .ok (.istore 12, 2) := by decide +kernel
theorem dL_looks_124 : decode cL_looks 124 = .ok (.iload 12, 2) := by decide +kernel
theorem dL_looks_126 : decode cL_looks 126 = .ok (.ifCond .lt 45, 3) := by decide +kernel
theorem dL_looks_129 : decode cL_looks 129 = .ok (.aload 7, 2) := by decide +kernel
theorem dL_looks_131 : decode cL_looks 131 = .ok (.bipush 10, 2) := by decide +kernel
theorem dL_looks_133 : decode cL_looks 133 = .ok (.iload 9, 2) := by decide +kernel
theorem dL_looks_135 : decode cL_looks 135 = .ok (.imul, 1) := by decide +kernel
theorem dL_looks_136 : decode cL_looks 136 = .ok (.iload 12, 2) := by decide +kernel
theorem dL_looks_138 : decode cL_looks 138 = .ok (.iadd, 1) := by decide +kernel
theorem dL_looks_139 : decode cL_looks 139 = .ok (.iaload, 1) := by decide +kernel
theorem dL_looks_140 : decode cL_looks 140 = .ok (.istore 13, 2) := by decide +kernel
theorem dL_looks_142 : decode cL_looks 142 = .ok (.aload_n 0, 1) := by decide +kernel
theorem dL_looks_143 : decode cL_looks 143 = .ok (.iload 13, 2) := by decide +kernel
theorem dL_looks_145 : decode cL_looks 145 = .ok (.bipush 16, 2) := by decide +kernel
theorem dL_looks_147 : decode cL_looks 147 = .ok (.irem, 1) := by decide +kernel
theorem dL_looks_148 : decode cL_looks 148 = .ok (.iload 13, 2) := by decide +kernel
theorem dL_looks_150 : decode cL_looks 150 = .ok (.bipush 16, 2) := by decide +kernel
theorem dL_looks_152 : decode cL_looks 152 = .ok (.idiv, 1) := by decide +kernel
theorem dL_looks_153 : decode cL_looks 153 = .ok (.bipush 16, 2) := by decide +kernel
theorem dL_looks_155 : decode cL_looks 155 = .ok (.irem, 1) := by decide +kernel
theorem dL_looks_156 : decode cL_looks 156 = .ok (.iload 13, 2) := by decide +kernel
theorem dL_looks_158 : decode cL_looks 158 = .ok (.sipush 256, 3) := by decide +kernel
theorem dL_looks_161 : decode cL_looks 161 = .ok (.idiv, 1) := by decide +kernel
theorem dL_looks_162 : decode cL_looks 162 = .ok (.invokestatic 91, 3) := by decide +kernel
theorem dL_looks_165 : decode cL_looks 165 = .ok (.iinc 12 (-1), 3) := by decide +kernel
theorem dL_looks_168 : decode cL_looks 168 = .ok (.goto (-44), 3) := by decide +kernel
theorem dL_looks_171 : decode cL_looks 171 = .ok (.aload 6, 2) := by decide +kernel
theorem dL_looks_173 : decode cL_looks 173 = .ok (.iload 9, 2) := by decide +kernel
theorem dL_looks_175 : decode cL_looks 175 = .ok (.iconst 0, 1) := by decide +kernel
theorem dL_looks_176 : decode cL_looks 176 = .ok (.iastore, 1) := by decide +kernel
theorem dL_looks_177 : decode cL_looks 177 = .ok (.aload 4, 2) := by decide +kernel
theorem dL_looks_179 : decode cL_looks 179 = .ok (.iload 9, 2) := by decide +kernel
theorem dL_looks_181 : decode cL_looks 181 = .ok (.iload 10, 2) := by decide +kernel
theorem dL_looks_183 : decode cL_looks 183 = .ok (.iconst 1, 1) := by decide +kernel
theorem dL_looks_184 : decode cL_looks 184 = .ok (.iadd, 1) := by decide +kernel
theorem dL_looks_185 : decode cL_looks 185 = .ok (.bipush 32, 2) := by decide +kernel
theorem dL_looks_187 : decode cL_looks 187 = .ok (.iload 10, 2) := by decide +kernel
theorem dL_looks_189 : decode cL_looks 189 = .ok (.iconst 1, 1) := by decide +kernel
theorem dL_looks_190 : decode cL_looks 190 = .ok (.iadd, 1) := by decide +kernel
theorem dL_looks_191 : decode cL_looks 191 = .ok (.imul, 1) := by decide +kernel
theorem dL_looks_192 : decode cL_looks 192 = .ok (.iadd, 1) := by decide +kernel
theorem dL_looks_193 : decode cL_looks 193 = .ok (.iastore, 1) := by decide +kernel
theorem dL_looks_194 : decode cL_looks 194 = .ok (.iinc 9 1, 3) := by decide +kernel
theorem dL_looks_197 : decode cL_looks 197 = .ok (.goto (-194), 3) := by decide +kernel
theorem dL_looks_200 : decode cL_looks 200 = .ok (.return_, 1) := by decide +kernel
theorem dL_isNumber_0 : decode cL_isNumber 0 = .ok (.iload_n 3, 1) := by decide +kernel
theorem dL_isNumber_1 : decode cL_isNumber 1 = .ok (.bipush 10, 2) := by decide +kernel
theorem dL_isNumber_3 : decode cL_isNumber 3 = .ok (.if_icmp .ge 24, 3) := by decide +kernel
theorem dL_isNumber_6 : decode cL_isNumber 6 = .ok (.aload_n 0, 1) := by decide +kernel
theorem dL_isNumber_7 : decode cL_isNumber 7 = .ok (.iload_n 1, 1) := by decide +kernel
theorem dL_isNumber_8 : decode cL_isNumber 8 = .ok (.iload_n 2, 1) := by decide +kernel
theorem dL_isNumber_9 : decode cL_isNumber 9 = .ok (.invokevirtual 58, 3) := by decide +kernel
theorem dL_isNumber_12 : decode cL_isNumber 12 = .ok (.bipush 48, 2) := by decide +kernel
theorem dL_isNumber_14 : decode cL_isNumber 14 = .ok (.iload_n 3, 1) := by decide +kernel
theorem dL_isNumber_15 : decode cL_isNumber 15 = .ok (.iadd, 1) := by decide +kernel
theorem dL_isNumber_16 : decode cL_isNumber 16 = .ok (.if_icmp .ne 7, 3) := by decide +kernel
theorem dL_isNumber_19 : decode cL_isNumber 19 = .ok (.iconst 1, 1) := by decide +kernel
theorem dL_isNumber_20 : decode cL_isNumber 20 = .ok (.goto 46, 3) := by decide +kernel
theorem dL_isNumber_23 : decode cL_isNumber 23 = .ok (.iconst 0, 1) := by decide +kernel
theorem dL_isNumber_24 : decode cL_isNumber 24 = .ok (.goto 42, 3) := by decide +kernel
theorem dL_isNumber_27 : decode cL_isNumber 27 = .ok (.aload_n 0, 1) := by decide +kernel
theorem dL_isNumber_28 : decode cL_isNumber 28 = .ok (.iload_n 1, 1) := by decide +kernel
theorem dL_isNumber_29 : decode cL_isNumber 29 = .ok (.iload_n 2, 1) := by decide +kernel
theorem dL_isNumber_30 : decode cL_isNumber 30 = .ok (.invokevirtual 58, 3) := by decide +kernel
theorem dL_isNumber_33 : decode cL_isNumber 33 = .ok (.bipush 48, 2) := by decide +kernel
theorem dL_isNumber_35 : decode cL_isNumber 35 = .ok (.iload_n 3, 1) := by decide +kernel
theorem dL_isNumber_36 : decode cL_isNumber 36 = .ok (.bipush 10, 2) := by decide +kernel
theorem dL_isNumber_38 : decode cL_isNumber 38 = .ok (.idiv, 1) := by decide +kernel
theorem dL_isNumber_39 : decode cL_isNumber 39 = .ok (.iadd, 1) := by decide +kernel
theorem dL_isNumber_40 : decode cL_isNumber 40 = .ok (.if_icmp .ne 25, 3) := by decide +kernel
theorem dL_isNumber_43 : decode cL_isNumber 43 = .ok (.aload_n 0, 1) := by decide +kernel
theorem dL_isNumber_44 : decode cL_isNumber 44 = .ok (.iload_n 1, 1) := by decide +kernel
theorem dL_isNumber_45 : decode cL_isNumber 45 = .ok (.iload_n 2, 1) := by decide +kernel
theorem dL_isNumber_46 : decode cL_isNumber 46 = .ok (.iconst 1, 1) := by decide +kernel
theorem dL_isNumber_47 : decode cL_isNumber 47 = .ok (.iadd, 1) := by decide +kernel
theorem dL_isNumber_48 : decode cL_isNumber 48 = .ok (.invokevirtual 58, 3) := by decide +kernel
theorem dL_isNumber_51 : decode cL_isNumber 51 = .ok (.bipush 48, 2) := by decide +kernel
theorem dL_isNumber_53 : decode cL_isNumber 53 = .ok (.iload_n 3, 1) := by decide +kernel
theorem dL_isNumber_54 : decode cL_isNumber 54 = .ok (.bipush 10, 2) := by decide +kernel
theorem dL_isNumber_56 : decode cL_isNumber 56 = .ok (.irem, 1) := by decide +kernel
theorem dL_isNumber_57 : decode cL_isNumber 57 = .ok (.iadd, 1) := by decide +kernel
theorem dL_isNumber_58 : decode cL_isNumber 58 = .ok (.if_icmp .ne 7, 3) := by decide +kernel
theorem dL_isNumber_61 : decode cL_isNumber 61 = .ok (.iconst 1, 1) := by decide +kernel
theorem dL_isNumber_62 : decode cL_isNumber 62 = .ok (.goto 4, 3) := by decide +kernel
theorem dL_isNumber_65 : decode cL_isNumber 65 = .ok (.iconst 0, 1) := by decide +kernel
theorem dL_isNumber_66 : decode cL_isNumber 66 = .ok (.ireturn, 1) := by decide +kernel
theorem dL_isLabel_0 : decode cL_isLabel 0 = .ok (.aload_n 1, 1) := by decide +kernel
theorem dL_isLabel_1 : decode cL_isLabel 1 = .ok (.iload_n 3, 1) := by decide +kernel
theorem dL_isLabel_2 : decode cL_isLabel 2 = .ok (.iaload, 1) := by decide +kernel
theorem dL_isLabel_3 : decode cL_isLabel 3 = .ok (.bipush 16, 2) := by decide +kernel
theorem dL_isLabel_5 : decode cL_isLabel 5 = .ok (.irem, 1) := by decide +kernel
theorem dL_isLabel_6 : decode cL_isLabel 6 = .ok (.istore 4, 2) := by decide +kernel
theorem dL_isLabel_8 : decode cL_isLabel 8 = .ok (.aload_n 2, 1) := by decide +kernel
theorem dL_isLabel_9 : decode cL_isLabel 9 = .ok (.iload_n 3, 1) := by decide +kernel
theorem dL_isLabel_10 : decode cL_isLabel 10 = .ok (.iaload, 1) := by decide +kernel
theorem dL_isLabel_11 : decode cL_isLabel 11 = .ok (.bipush 32, 2) := by decide +kernel
theorem dL_isLabel_13 : decode cL_isLabel 13 = .ok (.idiv, 1) := by decide +kernel
theorem dL_isLabel_14 : decode cL_isLabel 14 = .ok (.bipush 32, 2) := by decide +kernel
theorem dL_isLabel_16 : decode cL_isLabel 16 = .ok (.irem, 1) := by decide +kernel
theorem dL_isLabel_17 : decode cL_isLabel 17 = .ok (.iconst 1, 1) := by decide +kernel
theorem dL_isLabel_18 : decode cL_isLabel 18 = .ok (.isub, 1) := by decide +kernel
theorem dL_isLabel_19 : decode cL_isLabel 19 = .ok (.istore 5, 2) := by decide +kernel
theorem dL_isLabel_21 : decode cL_isLabel 21 = .ok (.iload_n 3, 1) := by decide +kernel
theorem dL_isLabel_22 : decode cL_isLabel 22 = .ok (.bipush 9, 2) := by decide +kernel
theorem dL_isLabel_24 : decode cL_isLabel 24 = .ok (.if_icmp .le 7, 3) := by decide +kernel
theorem dL_isLabel_27 : decode cL_isLabel 27 = .ok (.iconst 2, 1) := by decide +kernel
theorem dL_isLabel_28 : decode cL_isLabel 28 = .ok (.goto 4, 3) := by decide +kernel
theorem dL_isLabel_31 : decode cL_isLabel 31 = .ok (.iconst 1, 1) := by decide +kernel
theorem dL_isLabel_32 : decode cL_isLabel 32 = .ok (.istore 6, 2) := by decide +kernel
theorem dL_isLabel_34 : decode cL_isLabel 34 = .ok (.aload_n 0, 1) := by decide +kernel
theorem dL_isLabel_35 : decode cL_isLabel 35 = .ok (.iload_n 3, 1) := by decide +kernel
theorem dL_isLabel_36 : decode cL_isLabel 36 = .ok (.iconst 0, 1) := by decide +kernel
theorem dL_isLabel_37 : decode cL_isLabel 37 = .ok (.iload_n 3, 1) := by decide +kernel
theorem dL_isLabel_38 : decode cL_isLabel 38 = .ok (.invokestatic 99, 3) := by decide +kernel
theorem dL_isLabel_41 : decode cL_isLabel 41 = .ok (.ifCond .eq 33, 3) := by decide +kernel
theorem dL_isLabel_44 : decode cL_isLabel 44 = .ok (.aload_n 0, 1) := by decide +kernel
theorem dL_isLabel_45 : decode cL_isLabel 45 = .ok (.iload_n 3, 1) := by decide +kernel
theorem dL_isLabel_46 : decode cL_isLabel 46 = .ok (.iload 6, 2) := by decide +kernel
theorem dL_isLabel_48 : decode cL_isLabel 48 = .ok (.invokevirtual 58, 3) := by decide +kernel
theorem dL_isLabel_51 : decode cL_isLabel 51 = .ok (.bipush 58, 2) := by decide +kernel
theorem dL_isLabel_53 : decode cL_isLabel 53 = .ok (.if_icmp .ne 21, 3) := by decide +kernel
theorem dL_isLabel_56 : decode cL_isLabel 56 = .ok (.aload_n 0, 1) := by decide +kernel
theorem dL_isLabel_57 : decode cL_isLabel 57 = .ok (.iload_n 3, 1) := by decide +kernel
theorem dL_isLabel_58 : decode cL_isLabel 58 = .ok (.iload 6, 2) := by decide +kernel
theorem dL_isLabel_60 : decode cL_isLabel 60 = .ok (.iconst 1, 1) := by decide +kernel
theorem dL_isLabel_61 : decode cL_isLabel 61 = .ok (.iadd, 1) := by decide +kernel
theorem dL_isLabel_62 : decode cL_isLabel 62 = .ok (.iload 4, 2) := by decide +kernel
theorem dL_isLabel_64 : decode cL_isLabel 64 = .ok (.invokestatic 99, 3) := by decide +kernel
theorem dL_isLabel_67 : decode cL_isLabel 67 = .ok (.ifCond .eq 7, 3) := by decide +kernel
theorem dL_isLabel_70 : decode cL_isLabel 70 = .ok (.iconst 1, 1) := by decide +kernel
theorem dL_isLabel_71 : decode cL_isLabel 71 = .ok (.goto 4, 3) := by decide +kernel
theorem dL_isLabel_74 : decode cL_isLabel 74 = .ok (.iconst 0, 1) := by decide +kernel
theorem dL_isLabel_75 : decode cL_isLabel 75 = .ok (.istore 7, 2) := by decide +kernel
theorem dL_isLabel_77 : decode cL_isLabel 77 = .ok (.iload 6, 2) := by decide +kernel
theorem dL_isLabel_79 : decode cL_isLabel 79 = .ok (.iload 4, 2) := by decide +kernel
theorem dL_isLabel_81 : decode cL_isLabel 81 = .ok (.bipush 9, 2) := by decide +kernel
theorem dL_isLabel_83 : decode cL_isLabel 83 = .ok (.if_icmp .le 7, 3) := by decide +kernel
theorem dL_isLabel_86 : decode cL_isLabel 86 = .ok (.iconst 3, 1) := by decide +kernel
theorem dL_isLabel_87 : decode cL_isLabel 87 = .ok (.goto 4, 3) := by decide +kernel
theorem dL_isLabel_90 : decode cL_isLabel 90 = .ok (.iconst 2, 1) := by decide +kernel
theorem dL_isLabel_91 : decode cL_isLabel 91 = .ok (.iadd, 1) := by decide +kernel
theorem dL_isLabel_92 : decode cL_isLabel 92 = .ok (.istore 6, 2) := by decide +kernel
theorem dL_isLabel_94 : decode cL_isLabel 94 = .ok (.iload 7, 2) := by decide +kernel
theorem dL_isLabel_96 : decode cL_isLabel 96 = .ok (.ifCond .eq 40, 3) := by decide +kernel
theorem dL_isLabel_99 : decode cL_isLabel 99 = .ok (.aload_n 0, 1) := by decide +kernel
theorem dL_isLabel_100 : decode cL_isLabel 100 = .ok (.iload_n 3, 1) := by decide +kernel
theorem dL_isLabel_101 : decode cL_isLabel 101 = .ok (.iload 6, 2) := by decide +kernel
theorem dL_isLabel_103 : decode cL_isLabel 103 = .ok (.invokevirtual 58, 3) := by decide +kernel
theorem dL_isLabel_106 : decode cL_isLabel 106 = .ok (.bipush 47, 2) := by decide +kernel
theorem dL_isLabel_108 : decode cL_isLabel 108 = .ok (.if_icmp .ne 28, 3) := by decide +kernel
theorem dL_isLabel_111 : decode cL_isLabel 111 = .ok (.aload_n 0, 1) := by decide +kernel
theorem dL_isLabel_112 : decode cL_isLabel 112 = .ok (.iload_n 3, 1) := by decide +kernel
theorem dL_isLabel_113 : decode cL_isLabel 113 = .ok (.iload 6, 2) := by decide +kernel
theorem dL_isLabel_115 : decode cL_isLabel 115 = .ok (.iconst 1, 1) := by decide +kernel
theorem dL_isLabel_116 : decode cL_isLabel 116 = .ok (.iadd, 1) := by decide +kernel
theorem dL_isLabel_117 : decode cL_isLabel 117 = .ok (.invokevirtual 58, 3) := by decide +kernel
theorem dL_isLabel_120 : decode cL_isLabel 120 = .ok (.bipush 48, 2) := by decide +kernel
theorem dL_isLabel_122 : decode cL_isLabel 122 = .ok (.aload_n 1, 1) := by decide +kernel
theorem dL_isLabel_123 : decode cL_isLabel 123 = .ok (.iload_n 3, 1) := by decide +kernel
theorem dL_isLabel_124 : decode cL_isLabel 124 = .ok (.iaload, 1) := by decide +kernel
theorem dL_isLabel_125 : decode cL_isLabel 125 = .ok (.bipush 16, 2) := by decide +kernel
theorem dL_isLabel_127 : decode cL_isLabel 127 = .ok (.idiv, 1) := by decide +kernel
theorem dL_isLabel_128 : decode cL_isLabel 128 = .ok (.iadd, 1) := by decide +kernel
theorem dL_isLabel_129 : decode cL_isLabel 129 = .ok (.if_icmp .ne 7, 3) := by decide +kernel
theorem dL_isLabel_132 : decode cL_isLabel 132 = .ok (.iconst 1, 1) := by decide +kernel
theorem dL_isLabel_133 : decode cL_isLabel 133 = .ok (.goto 4, 3) := by decide +kernel
theorem dL_isLabel_136 : decode cL_isLabel 136 = .ok (.iconst 0, 1) := by decide +kernel
theorem dL_isLabel_137 : decode cL_isLabel 137 = .ok (.istore 7, 2) := by decide +kernel
theorem dL_isLabel_139 : decode cL_isLabel 139 = .ok (.iload 5, 2) := by decide +kernel
theorem dL_isLabel_141 : decode cL_isLabel 141 = .ok (.ifCond .ge 26, 3) := by decide +kernel
theorem dL_isLabel_144 : decode cL_isLabel 144 = .ok (.iload 7, 2) := by decide +kernel
theorem dL_isLabel_146 : decode cL_isLabel 146 = .ok (.ifCond .eq 19, 3) := by decide +kernel
theorem dL_isLabel_149 : decode cL_isLabel 149 = .ok (.aload_n 0, 1) := by decide +kernel
theorem dL_isLabel_150 : decode cL_isLabel 150 = .ok (.iload_n 3, 1) := by decide +kernel
theorem dL_isLabel_151 : decode cL_isLabel 151 = .ok (.iload 6, 2) := by decide +kernel
theorem dL_isLabel_153 : decode cL_isLabel 153 = .ok (.iconst 2, 1) := by decide +kernel
theorem dL_isLabel_154 : decode cL_isLabel 154 = .ok (.iadd, 1) := by decide +kernel
theorem dL_isLabel_155 : decode cL_isLabel 155 = .ok (.invokevirtual 58, 3) := by decide +kernel
theorem dL_isLabel_158 : decode cL_isLabel 158 = .ok (.ifCond .ne 7, 3) := by decide +kernel
theorem dL_isLabel_161 : decode cL_isLabel 161 = .ok (.iconst 1, 1) := by decide +kernel
theorem dL_isLabel_162 : decode cL_isLabel 162 = .ok (.goto 4, 3) := by decide +kernel
theorem dL_isLabel_165 : decode cL_isLabel 165 = .ok (.iconst 0, 1) := by decide +kernel
theorem dL_isLabel_166 : decode cL_isLabel 166 = .ok (.ireturn, 1) := by decide +kernel
theorem dL_isLabel_167 : decode cL_isLabel 167 = .ok (.iload 7, 2) := by decide +kernel
theorem dL_isLabel_169 : decode cL_isLabel 169 = .ok (.ifCond .eq 58, 3) := by decide +kernel
theorem dL_isLabel_172 : decode cL_isLabel 172 = .ok (.aload_n 0, 1) := by decide +kernel
theorem dL_isLabel_173 : decode cL_isLabel 173 = .ok (.iload_n 3, 1) := by decide +kernel
theorem dL_isLabel_174 : decode cL_isLabel 174 = .ok (.iload 6, 2) := by decide +kernel
theorem dL_isLabel_176 : decode cL_isLabel 176 = .ok (.iconst 2, 1) := by decide +kernel
theorem dL_isLabel_177 : decode cL_isLabel 177 = .ok (.iadd, 1) := by decide +kernel
theorem dL_isLabel_178 : decode cL_isLabel 178 = .ok (.invokevirtual 58, 3) := by decide +kernel
theorem dL_isLabel_181 : decode cL_isLabel 181 = .ok (.bipush 64, 2) := by decide +kernel
theorem dL_isLabel_183 : decode cL_isLabel 183 = .ok (.if_icmp .ne 44, 3) := by decide +kernel
theorem dL_isLabel_186 : decode cL_isLabel 186 = .ok (.aload_n 0, 1) := by decide +kernel
theorem dL_isLabel_187 : decode cL_isLabel 187 = .ok (.iload_n 3, 1) := by decide +kernel
theorem dL_isLabel_188 : decode cL_isLabel 188 = .ok (.iload 6, 2) := by decide +kernel
theorem dL_isLabel_190 : decode cL_isLabel 190 = .ok (.iconst 3, 1) := by decide +kernel
theorem dL_isLabel_191 : decode cL_isLabel 191 = .ok (.iadd, 1) := by decide +kernel
theorem dL_isLabel_192 : decode cL_isLabel 192 = .ok (.iload 5, 2) := by decide +kernel
theorem dL_isLabel_194 : decode cL_isLabel 194 = .ok (.invokestatic 99, 3) := by decide +kernel
theorem dL_isLabel_197 : decode cL_isLabel 197 = .ok (.ifCond .eq 30, 3) := by decide +kernel
theorem dL_isLabel_200 : decode cL_isLabel 200 = .ok (.aload_n 0, 1) := by decide +kernel
theorem dL_isLabel_201 : decode cL_isLabel 201 = .ok (.iload_n 3, 1) := by decide +kernel
theorem dL_isLabel_202 : decode cL_isLabel 202 = .ok (.iload 6, 2) := by decide +kernel
theorem dL_isLabel_204 : decode cL_isLabel 204 = .ok (.iload 5, 2) := by decide +kernel
theorem dL_isLabel_206 : decode cL_isLabel 206 = .ok (.bipush 9, 2) := by decide +kernel
theorem dL_isLabel_208 : decode cL_isLabel 208 = .ok (.if_icmp .le 7, 3) := by decide +kernel
theorem dL_isLabel_211 : decode cL_isLabel 211 = .ok (.iconst 5, 1) := by decide +kernel
theorem dL_isLabel_212 : decode cL_isLabel 212 = .ok (.goto 4, 3) := by decide +kernel
theorem dL_isLabel_215 : decode cL_isLabel 215 = .ok (.iconst 4, 1) := by decide +kernel
theorem dL_isLabel_216 : decode cL_isLabel 216 = .ok (.iadd, 1) := by decide +kernel
theorem dL_isLabel_217 : decode cL_isLabel 217 = .ok (.invokevirtual 58, 3) := by decide +kernel
theorem dL_isLabel_220 : decode cL_isLabel 220 = .ok (.ifCond .ne 7, 3) := by decide +kernel
theorem dL_isLabel_223 : decode cL_isLabel 223 = .ok (.iconst 1, 1) := by decide +kernel
theorem dL_isLabel_224 : decode cL_isLabel 224 = .ok (.goto 4, 3) := by decide +kernel
theorem dL_isLabel_227 : decode cL_isLabel 227 = .ok (.iconst 0, 1) := by decide +kernel
theorem dL_isLabel_228 : decode cL_isLabel 228 = .ok (.ireturn, 1) := by decide +kernel
theorem dL_isBanned_0 : decode cL_isBanned 0 = .ok (.aload_n 1, 1) := by decide +kernel
theorem dL_isBanned_1 : decode cL_isBanned 1 = .ok (.iconst 0, 1) := by decide +kernel
theorem dL_isBanned_2 : decode cL_isBanned 2 = .ok (.iaload, 1) := by decide +kernel
theorem dL_isBanned_3 : decode cL_isBanned 3 = .ok (.aload_n 0, 1) := by decide +kernel
theorem dL_isBanned_4 : decode cL_isBanned 4 = .ok (.bipush 16, 2) := by decide +kernel
theorem dL_isBanned_6 : decode cL_isBanned 6 = .ok (.iload_n 2, 1) := by decide +kernel
theorem dL_isBanned_7 : decode cL_isBanned 7 = .ok (.iadd, 1) := by decide +kernel
theorem dL_isBanned_8 : decode cL_isBanned 8 = .ok (.iaload, 1) := by decide +kernel
theorem dL_isBanned_9 : decode cL_isBanned 9 = .ok (.if_icmp .ge 7, 3) := by decide +kernel
theorem dL_isBanned_12 : decode cL_isBanned 12 = .ok (.iconst 1, 1) := by decide +kernel
theorem dL_isBanned_13 : decode cL_isBanned 13 = .ok (.goto 4, 3) := by decide +kernel
theorem dL_isBanned_16 : decode cL_isBanned 16 = .ok (.iconst 0, 1) := by decide +kernel
theorem dL_isBanned_17 : decode cL_isBanned 17 = .ok (.ireturn, 1) := by decide +kernel
