/-! The law: its links, its wrappers' decodes -/
theorem kini_L : Cond.initialized RL ∈ KTW := kt_in 51 (by decide +kernel) (by decide +kernel)
theorem kcl_L_8 : Cond.classLink RL 8 RX6 ∈ KTW := kt_in 77 (by decide +kernel) (by decide +kernel)
theorem ck_L_67 : mCk RL 67 yX6_init cX6_init 2 none 0 := ⟨kt_in 81 (by decide +kernel) (by decide +kernel), kt_in 52 (by decide +kernel) (by decide +kernel), by decide +kernel, mCk.ar (by decide +kernel), kt_in 79 (by decide +kernel) (by decide +kernel)⟩
theorem kst_L_player : Cond.static yL_player ∈ KTW := kt_in 159 (by decide +kernel) (by decide +kernel)
theorem ck_L_7 : mCk RL 7 yX6_player cX6_player 2 (some FieldType.int) 0 := ⟨kt_in 165 (by decide +kernel) (by decide +kernel), kt_in 52 (by decide +kernel) (by decide +kernel), by decide +kernel, mCk.ar (by decide +kernel), kt_in 162 (by decide +kernel) (by decide +kernel)⟩
theorem kst_L_room : Cond.static yL_room ∈ KTW := kt_in 259 (by decide +kernel) (by decide +kernel)
theorem ck_L_15 : mCk RL 15 yX6_room cX6_room 4 (some FieldType.int) 2 := ⟨kt_in 266 (by decide +kernel) (by decide +kernel), kt_in 52 (by decide +kernel) (by decide +kernel), by decide +kernel, mCk.ar (by decide +kernel), kt_in 263 (by decide +kernel) (by decide +kernel)⟩
theorem kst_L_match : Cond.static yL_match ∈ KTW := kt_in 304 (by decide +kernel) (by decide +kernel)
theorem ck_L_23 : mCk RL 23 yX6_match cX6_match 9 (some FieldType.int) 3 := ⟨kt_in 309 (by decide +kernel) (by decide +kernel), kt_in 52 (by decide +kernel) (by decide +kernel), by decide +kernel, mCk.ar (by decide +kernel), kt_in 306 (by decide +kernel) (by decide +kernel)⟩
theorem kst_L_end : Cond.static yL_end ∈ KTW := kt_in 369 (by decide +kernel) (by decide +kernel)
theorem ck_L_27 : mCk RL 27 yX6_end cX6_end 3 (some FieldType.int) 0 := ⟨kt_in 374 (by decide +kernel) (by decide +kernel), kt_in 52 (by decide +kernel) (by decide +kernel), by decide +kernel, mCk.ar (by decide +kernel), kt_in 371 (by decide +kernel) (by decide +kernel)⟩
theorem kst_L_sell : Cond.static yL_sell ∈ KTW := kt_in 446 (by decide +kernel) (by decide +kernel)
theorem ck_L_30 : mCk RL 30 yX6_sell cX6_sell 6 (some FieldType.boolean) 3 := ⟨kt_in 451 (by decide +kernel) (by decide +kernel), kt_in 52 (by decide +kernel) (by decide +kernel), by decide +kernel, mCk.ar (by decide +kernel), kt_in 448 (by decide +kernel) (by decide +kernel)⟩
theorem kst_L_lend : Cond.static yL_lend ∈ KTW := kt_in 499 (by decide +kernel) (by decide +kernel)
theorem ck_L_34 : mCk RL 34 yX6_lend cX6_lend 6 (some FieldType.int) 3 := ⟨kt_in 504 (by decide +kernel) (by decide +kernel), kt_in 52 (by decide +kernel) (by decide +kernel), by decide +kernel, mCk.ar (by decide +kernel), kt_in 501 (by decide +kernel) (by decide +kernel)⟩
theorem kst_L_proof : Cond.static yL_proof ∈ KTW := kt_in 508 (by decide +kernel) (by decide +kernel)
theorem ck_L_37 : mCk RL 37 yX6_proof cX6_proof 4 (some FieldType.int) 2 := ⟨kt_in 513 (by decide +kernel) (by decide +kernel), kt_in 52 (by decide +kernel) (by decide +kernel), by decide +kernel, mCk.ar (by decide +kernel), kt_in 510 (by decide +kernel) (by decide +kernel)⟩
theorem kst_L_clear : Cond.static yL_clear ∈ KTW := kt_in 545 (by decide +kernel) (by decide +kernel)
theorem ck_L_40 : mCk RL 40 yX6_clear cX6_clear 4 (some FieldType.int) 1 := ⟨kt_in 550 (by decide +kernel) (by decide +kernel), kt_in 52 (by decide +kernel) (by decide +kernel), by decide +kernel, mCk.ar (by decide +kernel), kt_in 547 (by decide +kernel) (by decide +kernel)⟩
theorem kst_L_ban : Cond.static yL_ban ∈ KTW := kt_in 554 (by decide +kernel) (by decide +kernel)
theorem ck_L_44 : mCk RL 44 yX6_ban cX6_ban 4 (some FieldType.int) 2 := ⟨kt_in 559 (by decide +kernel) (by decide +kernel), kt_in 52 (by decide +kernel) (by decide +kernel), by decide +kernel, mCk.ar (by decide +kernel), kt_in 556 (by decide +kernel) (by decide +kernel)⟩
theorem kst_L_pass : Cond.static yL_pass ∈ KTW := kt_in 562 (by decide +kernel) (by decide +kernel)
theorem ck_L_47 : mCk RL 47 yX6_pass cX6_pass 4 (some FieldType.int) 1 := ⟨kt_in 567 (by decide +kernel) (by decide +kernel), kt_in 52 (by decide +kernel) (by decide +kernel), by decide +kernel, mCk.ar (by decide +kernel), kt_in 564 (by decide +kernel) (by decide +kernel)⟩
theorem kst_L_stands : Cond.static yL_stands ∈ KTW := kt_in 570 (by decide +kernel) (by decide +kernel)
theorem ck_L_50 : mCk RL 50 yX6_stands cX6_stands 2 (some FieldType.boolean) 1 := ⟨kt_in 575 (by decide +kernel) (by decide +kernel), kt_in 52 (by decide +kernel) (by decide +kernel), by decide +kernel, mCk.ar (by decide +kernel), kt_in 572 (by decide +kernel) (by decide +kernel)⟩
theorem kst_L_ranked : Cond.static yL_ranked ∈ KTW := kt_in 582 (by decide +kernel) (by decide +kernel)
theorem ck_L_54 : mCk RL 54 yX6_ranked cX6_ranked 6 (some FieldType.int) 3 := ⟨kt_in 587 (by decide +kernel) (by decide +kernel), kt_in 52 (by decide +kernel) (by decide +kernel), by decide +kernel, mCk.ar (by decide +kernel), kt_in 584 (by decide +kernel) (by decide +kernel)⟩
theorem kst_L_skinOf : Cond.static yL_skinOf ∈ KTW := kt_in 601 (by decide +kernel) (by decide +kernel)
theorem ck_L_57 : mCk RL 57 yX6_skinOf cX6_skinOf 4 (some FieldType.int) 2 := ⟨kt_in 606 (by decide +kernel) (by decide +kernel), kt_in 52 (by decide +kernel) (by decide +kernel), by decide +kernel, mCk.ar (by decide +kernel), kt_in 603 (by decide +kernel) (by decide +kernel)⟩
theorem kst_L_money : Cond.static yL_money ∈ KTW := kt_in 620 (by decide +kernel) (by decide +kernel)
theorem ck_L_60 : mCk RL 60 yX6_money cX6_money 2 (some FieldType.int) 1 := ⟨kt_in 625 (by decide +kernel) (by decide +kernel), kt_in 52 (by decide +kernel) (by decide +kernel), by decide +kernel, mCk.ar (by decide +kernel), kt_in 622 (by decide +kernel) (by decide +kernel)⟩
theorem kst_L_label : Cond.static yL_label ∈ KTW := kt_in 627 (by decide +kernel) (by decide +kernel)
theorem ck_L_63 : mCk RL 63 yX6_label cX6_label 5 (some FieldType.char) 2 := ⟨kt_in 632 (by decide +kernel) (by decide +kernel), kt_in 52 (by decide +kernel) (by decide +kernel), by decide +kernel, mCk.ar (by decide +kernel), kt_in 629 (by decide +kernel) (by decide +kernel)⟩
theorem kcl_L_68 : Cond.classLink RL 68 RX7 ∈ KTW := kt_in 816 (by decide +kernel) (by decide +kernel)
theorem ck_L_70 : mCk RL 70 yX7_init cX7_init 2 none 0 := ⟨kt_in 820 (by decide +kernel) (by decide +kernel), kt_in 55 (by decide +kernel) (by decide +kernel), by decide +kernel, mCk.ar (by decide +kernel), kt_in 818 (by decide +kernel) (by decide +kernel)⟩
theorem ck_L_77 : mCk RL 77 yX7_thrown cX7_thrown 1 (some FieldType.int) 0 := ⟨kt_in 916 (by decide +kernel) (by decide +kernel), kt_in 55 (by decide +kernel) (by decide +kernel), by decide +kernel, mCk.ar (by decide +kernel), kt_in 913 (by decide +kernel) (by decide +kernel)⟩
theorem ck_L_76 : mCk RL 76 yX7_player cX7_player 1 (some FieldType.int) 0 := ⟨kt_in 920 (by decide +kernel) (by decide +kernel), kt_in 55 (by decide +kernel) (by decide +kernel), by decide +kernel, mCk.ar (by decide +kernel), kt_in 917 (by decide +kernel) (by decide +kernel)⟩
theorem ck_L_83 : mCk RL 83 yX7_room cX7_room 3 (some FieldType.int) 2 := ⟨kt_in 928 (by decide +kernel) (by decide +kernel), kt_in 55 (by decide +kernel) (by decide +kernel), by decide +kernel, mCk.ar (by decide +kernel), kt_in 925 (by decide +kernel) (by decide +kernel)⟩
theorem ck_L_87 : mCk RL 87 yX7_match cX7_match 6 (some FieldType.int) 3 := ⟨kt_in 942 (by decide +kernel) (by decide +kernel), kt_in 55 (by decide +kernel) (by decide +kernel), by decide +kernel, mCk.ar (by decide +kernel), kt_in 939 (by decide +kernel) (by decide +kernel)⟩
theorem ck_L_90 : mCk RL 90 yX7_end cX7_end 4 (some FieldType.int) 0 := ⟨kt_in 954 (by decide +kernel) (by decide +kernel), kt_in 55 (by decide +kernel) (by decide +kernel), by decide +kernel, mCk.ar (by decide +kernel), kt_in 951 (by decide +kernel) (by decide +kernel)⟩
theorem ck_L_93 : mCk RL 93 yX7_sell cX7_sell 8 (some FieldType.boolean) 3 := ⟨kt_in 978 (by decide +kernel) (by decide +kernel), kt_in 55 (by decide +kernel) (by decide +kernel), by decide +kernel, mCk.ar (by decide +kernel), kt_in 975 (by decide +kernel) (by decide +kernel)⟩
theorem ck_L_96 : mCk RL 96 yX7_lend cX7_lend 6 (some FieldType.int) 3 := ⟨kt_in 986 (by decide +kernel) (by decide +kernel), kt_in 55 (by decide +kernel) (by decide +kernel), by decide +kernel, mCk.ar (by decide +kernel), kt_in 983 (by decide +kernel) (by decide +kernel)⟩
theorem ck_L_99 : mCk RL 99 yX7_proof cX7_proof 5 (some FieldType.int) 2 := ⟨kt_in 990 (by decide +kernel) (by decide +kernel), kt_in 55 (by decide +kernel) (by decide +kernel), by decide +kernel, mCk.ar (by decide +kernel), kt_in 987 (by decide +kernel) (by decide +kernel)⟩
theorem ck_L_103 : mCk RL 103 yX7_clear cX7_clear 3 (some FieldType.int) 1 := ⟨kt_in 1006 (by decide +kernel) (by decide +kernel), kt_in 55 (by decide +kernel) (by decide +kernel), by decide +kernel, mCk.ar (by decide +kernel), kt_in 1003 (by decide +kernel) (by decide +kernel)⟩
theorem ck_L_106 : mCk RL 106 yX7_ban cX7_ban 3 (some FieldType.int) 2 := ⟨kt_in 1010 (by decide +kernel) (by decide +kernel), kt_in 55 (by decide +kernel) (by decide +kernel), by decide +kernel, mCk.ar (by decide +kernel), kt_in 1007 (by decide +kernel) (by decide +kernel)⟩
theorem ck_L_109 : mCk RL 109 yX7_pass cX7_pass 2 (some FieldType.int) 1 := ⟨kt_in 1014 (by decide +kernel) (by decide +kernel), kt_in 55 (by decide +kernel) (by decide +kernel), by decide +kernel, mCk.ar (by decide +kernel), kt_in 1011 (by decide +kernel) (by decide +kernel)⟩
theorem ck_L_112 : mCk RL 112 yX7_stands cX7_stands 2 (some FieldType.boolean) 1 := ⟨kt_in 1018 (by decide +kernel) (by decide +kernel), kt_in 55 (by decide +kernel) (by decide +kernel), by decide +kernel, mCk.ar (by decide +kernel), kt_in 1015 (by decide +kernel) (by decide +kernel)⟩
theorem ck_L_115 : mCk RL 115 yX7_ranked cX7_ranked 5 (some FieldType.int) 3 := ⟨kt_in 1022 (by decide +kernel) (by decide +kernel), kt_in 55 (by decide +kernel) (by decide +kernel), by decide +kernel, mCk.ar (by decide +kernel), kt_in 1019 (by decide +kernel) (by decide +kernel)⟩
theorem ck_L_118 : mCk RL 118 yX7_skinOf cX7_skinOf 3 (some FieldType.int) 2 := ⟨kt_in 1026 (by decide +kernel) (by decide +kernel), kt_in 55 (by decide +kernel) (by decide +kernel), by decide +kernel, mCk.ar (by decide +kernel), kt_in 1023 (by decide +kernel) (by decide +kernel)⟩
theorem ck_L_121 : mCk RL 121 yX7_money cX7_money 2 (some FieldType.int) 1 := ⟨kt_in 1034 (by decide +kernel) (by decide +kernel), kt_in 55 (by decide +kernel) (by decide +kernel), by decide +kernel, mCk.ar (by decide +kernel), kt_in 1031 (by decide +kernel) (by decide +kernel)⟩
theorem ck_L_124 : mCk RL 124 yX7_label cX7_label 3 (some FieldType.char) 2 := ⟨kt_in 1038 (by decide +kernel) (by decide +kernel), kt_in 55 (by decide +kernel) (by decide +kernel), by decide +kernel, mCk.ar (by decide +kernel), kt_in 1035 (by decide +kernel) (by decide +kernel)⟩
theorem kml_L_player : Cond.methodLink RL 71 yL_player ∈ KTW := kt_in 158 (by decide +kernel) (by decide +kernel)
theorem kar_L_player : ∀ sig, parseMethodDescriptor yL_player.desc = some sig → 2 = sig.parameters.length := mCk.ar (by decide +kernel)
def hh_L_player : List (Nat × Nat × Nat × Nat) := [(0, 8, 11, 13)]
theorem kcw_L_player : Cond.codeWith yL_player cL_player 3 (some FieldType.int) hh_L_player ∈ KTW := kt_in 160 (by decide +kernel) (by decide +kernel)
theorem kclx_L_13 : Cond.classLink RL 13 EIS ∈ KTW := kt_in 161 (by decide +kernel) (by decide +kernel)
theorem kca_EIS : Cond.castable EIS EIS ∈ KTW := kt_in 168 (by decide +kernel) (by decide +kernel)
theorem kml_L_room : Cond.methodLink RL 80 yL_room ∈ KTW := kt_in 258 (by decide +kernel) (by decide +kernel)
theorem kar_L_room : ∀ sig, parseMethodDescriptor yL_room.desc = some sig → 4 = sig.parameters.length := mCk.ar (by decide +kernel)
def hh_L_room : List (Nat × Nat × Nat × Nat) := [(0, 10, 13, 19), (0, 10, 17, 21)]
theorem kcw_L_room : Cond.codeWith yL_room cL_room 5 (some FieldType.int) hh_L_room ∈ KTW := kt_in 260 (by decide +kernel) (by decide +kernel)
theorem kclx_L_19 : Cond.classLink RL 19 EIO ∈ KTW := kt_in 261 (by decide +kernel) (by decide +kernel)
theorem kclx_L_21 : Cond.classLink RL 21 EIA ∈ KTW := kt_in 262 (by decide +kernel) (by decide +kernel)
theorem kca_EIO : Cond.castable EIO EIO ∈ KTW := kt_in 273 (by decide +kernel) (by decide +kernel)
theorem kca_EIA : Cond.castable EIA EIA ∈ KTW := kt_in 289 (by decide +kernel) (by decide +kernel)
theorem kml_L_match : Cond.methodLink RL 84 yL_match ∈ KTW := kt_in 303 (by decide +kernel) (by decide +kernel)
theorem kar_L_match : ∀ sig, parseMethodDescriptor yL_match.desc = some sig → 5 = sig.parameters.length := mCk.ar (by decide +kernel)
def hh_L_match : List (Nat × Nat × Nat × Nat) := [(0, 12, 15, 19), (0, 12, 19, 21), (0, 12, 23, 13)]
theorem kcw_L_match : Cond.codeWith yL_match cL_match 6 (some FieldType.int) hh_L_match ∈ KTW := kt_in 305 (by decide +kernel) (by decide +kernel)
theorem kml_L_end : Cond.methodLink RL 88 yL_end ∈ KTW := kt_in 368 (by decide +kernel) (by decide +kernel)
theorem kar_L_end : ∀ sig, parseMethodDescriptor yL_end.desc = some sig → 2 = sig.parameters.length := mCk.ar (by decide +kernel)
def hh_L_end : List (Nat × Nat × Nat × Nat) := [(0, 8, 11, 13)]
theorem kcw_L_end : Cond.codeWith yL_end cL_end 3 (some FieldType.int) hh_L_end ∈ KTW := kt_in 370 (by decide +kernel) (by decide +kernel)
theorem kml_L_sell : Cond.methodLink RL 91 yL_sell ∈ KTW := kt_in 445 (by decide +kernel) (by decide +kernel)
theorem kar_L_sell : ∀ sig, parseMethodDescriptor yL_sell.desc = some sig → 5 = sig.parameters.length := mCk.ar (by decide +kernel)
def hh_L_sell : List (Nat × Nat × Nat × Nat) := [(0, 19, 22, 19), (0, 19, 26, 21), (0, 19, 30, 13)]
theorem kcw_L_sell : Cond.codeWith yL_sell cL_sell 6 (some FieldType.int) hh_L_sell ∈ KTW := kt_in 447 (by decide +kernel) (by decide +kernel)
theorem kml_L_lend : Cond.methodLink RL 94 yL_lend ∈ KTW := kt_in 498 (by decide +kernel) (by decide +kernel)
theorem kar_L_lend : ∀ sig, parseMethodDescriptor yL_lend.desc = some sig → 5 = sig.parameters.length := mCk.ar (by decide +kernel)
def hh_L_lend : List (Nat × Nat × Nat × Nat) := [(0, 12, 15, 19), (0, 12, 19, 21), (0, 12, 23, 13)]
theorem kcw_L_lend : Cond.codeWith yL_lend cL_lend 6 (some FieldType.int) hh_L_lend ∈ KTW := kt_in 500 (by decide +kernel) (by decide +kernel)
theorem kml_L_proof : Cond.methodLink RL 97 yL_proof ∈ KTW := kt_in 507 (by decide +kernel) (by decide +kernel)
theorem kar_L_proof : ∀ sig, parseMethodDescriptor yL_proof.desc = some sig → 4 = sig.parameters.length := mCk.ar (by decide +kernel)
def hh_L_proof : List (Nat × Nat × Nat × Nat) := [(0, 10, 13, 19), (0, 10, 17, 21)]
theorem kcw_L_proof : Cond.codeWith yL_proof cL_proof 5 (some FieldType.int) hh_L_proof ∈ KTW := kt_in 509 (by decide +kernel) (by decide +kernel)
theorem kml_L_clear : Cond.methodLink RL 100 yL_clear ∈ KTW := kt_in 544 (by decide +kernel) (by decide +kernel)
theorem kar_L_clear : ∀ sig, parseMethodDescriptor yL_clear.desc = some sig → 3 = sig.parameters.length := mCk.ar (by decide +kernel)
def hh_L_clear : List (Nat × Nat × Nat × Nat) := [(0, 9, 12, 19), (0, 9, 15, 13)]
theorem kcw_L_clear : Cond.codeWith yL_clear cL_clear 4 (some FieldType.int) hh_L_clear ∈ KTW := kt_in 546 (by decide +kernel) (by decide +kernel)
theorem kml_L_ban : Cond.methodLink RL 104 yL_ban ∈ KTW := kt_in 553 (by decide +kernel) (by decide +kernel)
theorem kar_L_ban : ∀ sig, parseMethodDescriptor yL_ban.desc = some sig → 4 = sig.parameters.length := mCk.ar (by decide +kernel)
def hh_L_ban : List (Nat × Nat × Nat × Nat) := [(0, 10, 13, 19), (0, 10, 17, 21)]
theorem kcw_L_ban : Cond.codeWith yL_ban cL_ban 5 (some FieldType.int) hh_L_ban ∈ KTW := kt_in 555 (by decide +kernel) (by decide +kernel)
theorem kml_L_pass : Cond.methodLink RL 107 yL_pass ∈ KTW := kt_in 561 (by decide +kernel) (by decide +kernel)
theorem kar_L_pass : ∀ sig, parseMethodDescriptor yL_pass.desc = some sig → 3 = sig.parameters.length := mCk.ar (by decide +kernel)
def hh_L_pass : List (Nat × Nat × Nat × Nat) := [(0, 9, 12, 21)]
theorem kcw_L_pass : Cond.codeWith yL_pass cL_pass 4 (some FieldType.int) hh_L_pass ∈ KTW := kt_in 563 (by decide +kernel) (by decide +kernel)
theorem kml_L_stands : Cond.methodLink RL 110 yL_stands ∈ KTW := kt_in 569 (by decide +kernel) (by decide +kernel)
theorem kar_L_stands : ∀ sig, parseMethodDescriptor yL_stands.desc = some sig → 3 = sig.parameters.length := mCk.ar (by decide +kernel)
def hh_L_stands : List (Nat × Nat × Nat × Nat) := [(0, 16, 19, 19)]
theorem kcw_L_stands : Cond.codeWith yL_stands cL_stands 4 (some FieldType.int) hh_L_stands ∈ KTW := kt_in 571 (by decide +kernel) (by decide +kernel)
theorem kml_L_ranked : Cond.methodLink RL 113 yL_ranked ∈ KTW := kt_in 581 (by decide +kernel) (by decide +kernel)
theorem kar_L_ranked : ∀ sig, parseMethodDescriptor yL_ranked.desc = some sig → 5 = sig.parameters.length := mCk.ar (by decide +kernel)
def hh_L_ranked : List (Nat × Nat × Nat × Nat) := [(0, 12, 15, 19), (0, 12, 19, 21)]
theorem kcw_L_ranked : Cond.codeWith yL_ranked cL_ranked 6 (some FieldType.int) hh_L_ranked ∈ KTW := kt_in 583 (by decide +kernel) (by decide +kernel)
theorem kml_L_skinOf : Cond.methodLink RL 116 yL_skinOf ∈ KTW := kt_in 600 (by decide +kernel) (by decide +kernel)
theorem kar_L_skinOf : ∀ sig, parseMethodDescriptor yL_skinOf.desc = some sig → 4 = sig.parameters.length := mCk.ar (by decide +kernel)
def hh_L_skinOf : List (Nat × Nat × Nat × Nat) := [(0, 10, 13, 19), (0, 10, 17, 21)]
theorem kcw_L_skinOf : Cond.codeWith yL_skinOf cL_skinOf 5 (some FieldType.int) hh_L_skinOf ∈ KTW := kt_in 602 (by decide +kernel) (by decide +kernel)
theorem kml_L_money : Cond.methodLink RL 119 yL_money ∈ KTW := kt_in 619 (by decide +kernel) (by decide +kernel)
theorem kar_L_money : ∀ sig, parseMethodDescriptor yL_money.desc = some sig → 3 = sig.parameters.length := mCk.ar (by decide +kernel)
def hh_L_money : List (Nat × Nat × Nat × Nat) := [(0, 9, 12, 19)]
theorem kcw_L_money : Cond.codeWith yL_money cL_money 4 (some FieldType.int) hh_L_money ∈ KTW := kt_in 621 (by decide +kernel) (by decide +kernel)
theorem kml_L_label : Cond.methodLink RL 122 yL_label ∈ KTW := kt_in 626 (by decide +kernel) (by decide +kernel)
theorem kar_L_label : ∀ sig, parseMethodDescriptor yL_label.desc = some sig → 4 = sig.parameters.length := mCk.ar (by decide +kernel)
def hh_L_label : List (Nat × Nat × Nat × Nat) := [(0, 10, 13, 19)]
theorem kcw_L_label : Cond.codeWith yL_label cL_label 5 (some FieldType.int) hh_L_label ∈ KTW := kt_in 628 (by decide +kernel) (by decide +kernel)
theorem dL_player_0 : decode cL_player 0 = .ok (.aload_n 1, 1) := by decide +kernel
theorem dL_player_1 : decode cL_player 1 = .ok (.iconst 0, 1) := by decide +kernel
theorem dL_player_2 : decode cL_player 2 = .ok (.aload_n 0, 1) := by decide +kernel
theorem dL_player_3 : decode cL_player 3 = .ok (.invokevirtual 7, 3) := by decide +kernel
theorem dL_player_6 : decode cL_player 6 = .ok (.i2l, 1) := by decide +kernel
theorem dL_player_7 : decode cL_player 7 = .ok (.lastore, 1) := by decide +kernel
theorem dL_player_8 : decode cL_player 8 = .ok (.goto 6, 3) := by decide +kernel
theorem dL_player_11 : decode cL_player 11 = .ok (.astore_n 2, 1) := by decide +kernel
theorem dL_player_12 : decode cL_player 12 = .ok (.iconst 1, 1) := by decide +kernel
theorem dL_player_13 : decode cL_player 13 = .ok (.ireturn, 1) := by decide +kernel
theorem dL_player_14 : decode cL_player 14 = .ok (.iconst 0, 1) := by decide +kernel
theorem dL_player_15 : decode cL_player 15 = .ok (.ireturn, 1) := by decide +kernel
theorem dL_room_0 : decode cL_room 0 = .ok (.aload_n 3, 1) := by decide +kernel
theorem dL_room_1 : decode cL_room 1 = .ok (.iconst 0, 1) := by decide +kernel
theorem dL_room_2 : decode cL_room 2 = .ok (.aload_n 0, 1) := by decide +kernel
theorem dL_room_3 : decode cL_room 3 = .ok (.iload_n 1, 1) := by decide +kernel
theorem dL_room_4 : decode cL_room 4 = .ok (.iload_n 2, 1) := by decide +kernel
theorem dL_room_5 : decode cL_room 5 = .ok (.invokevirtual 15, 3) := by decide +kernel
theorem dL_room_8 : decode cL_room 8 = .ok (.i2l, 1) := by decide +kernel
theorem dL_room_9 : decode cL_room 9 = .ok (.lastore, 1) := by decide +kernel
theorem dL_room_10 : decode cL_room 10 = .ok (.goto 11, 3) := by decide +kernel
theorem dL_room_13 : decode cL_room 13 = .ok (.astore 4, 2) := by decide +kernel
theorem dL_room_15 : decode cL_room 15 = .ok (.iconst 1, 1) := by decide +kernel
theorem dL_room_16 : decode cL_room 16 = .ok (.ireturn, 1) := by decide +kernel
theorem dL_room_17 : decode cL_room 17 = .ok (.astore 4, 2) := by decide +kernel
theorem dL_room_19 : decode cL_room 19 = .ok (.iconst 2, 1) := by decide +kernel
theorem dL_room_20 : decode cL_room 20 = .ok (.ireturn, 1) := by decide +kernel
theorem dL_room_21 : decode cL_room 21 = .ok (.iconst 0, 1) := by decide +kernel
theorem dL_room_22 : decode cL_room 22 = .ok (.ireturn, 1) := by decide +kernel
theorem dL_match_0 : decode cL_match 0 = .ok (.aload 4, 2) := by decide +kernel
theorem dL_match_2 : decode cL_match 2 = .ok (.iconst 0, 1) := by decide +kernel
theorem dL_match_3 : decode cL_match 3 = .ok (.aload_n 0, 1) := by decide +kernel
theorem dL_match_4 : decode cL_match 4 = .ok (.iload_n 1, 1) := by decide +kernel
theorem dL_match_5 : decode cL_match 5 = .ok (.iload_n 2, 1) := by decide +kernel
theorem dL_match_6 : decode cL_match 6 = .ok (.iload_n 3, 1) := by decide +kernel
theorem dL_match_7 : decode cL_match 7 = .ok (.invokevirtual 23, 3) := by decide +kernel
theorem dL_match_10 : decode cL_match 10 = .ok (.i2l, 1) := by decide +kernel
theorem dL_match_11 : decode cL_match 11 = .ok (.lastore, 1) := by decide +kernel
theorem dL_match_12 : decode cL_match 12 = .ok (.goto 15, 3) := by decide +kernel
theorem dL_match_15 : decode cL_match 15 = .ok (.astore 5, 2) := by decide +kernel
theorem dL_match_17 : decode cL_match 17 = .ok (.iconst 1, 1) := by decide +kernel
theorem dL_match_18 : decode cL_match 18 = .ok (.ireturn, 1) := by decide +kernel
theorem dL_match_19 : decode cL_match 19 = .ok (.astore 5, 2) := by decide +kernel
theorem dL_match_21 : decode cL_match 21 = .ok (.iconst 2, 1) := by decide +kernel
theorem dL_match_22 : decode cL_match 22 = .ok (.ireturn, 1) := by decide +kernel
theorem dL_match_23 : decode cL_match 23 = .ok (.astore 5, 2) := by decide +kernel
theorem dL_match_25 : decode cL_match 25 = .ok (.iconst 3, 1) := by decide +kernel
theorem dL_match_26 : decode cL_match 26 = .ok (.ireturn, 1) := by decide +kernel
theorem dL_match_27 : decode cL_match 27 = .ok (.iconst 0, 1) := by decide +kernel
theorem dL_match_28 : decode cL_match 28 = .ok (.ireturn, 1) := by decide +kernel
theorem dL_end_0 : decode cL_end 0 = .ok (.aload_n 1, 1) := by decide +kernel
theorem dL_end_1 : decode cL_end 1 = .ok (.iconst 0, 1) := by decide +kernel
theorem dL_end_2 : decode cL_end 2 = .ok (.aload_n 0, 1) := by decide +kernel
theorem dL_end_3 : decode cL_end 3 = .ok (.invokevirtual 27, 3) := by decide +kernel
theorem dL_end_6 : decode cL_end 6 = .ok (.i2l, 1) := by decide +kernel
theorem dL_end_7 : decode cL_end 7 = .ok (.lastore, 1) := by decide +kernel
theorem dL_end_8 : decode cL_end 8 = .ok (.goto 6, 3) := by decide +kernel
theorem dL_end_11 : decode cL_end 11 = .ok (.astore_n 2, 1) := by decide +kernel
theorem dL_end_12 : decode cL_end 12 = .ok (.iconst 1, 1) := by decide +kernel
theorem dL_end_13 : decode cL_end 13 = .ok (.ireturn, 1) := by decide +kernel
theorem dL_end_14 : decode cL_end 14 = .ok (.iconst 0, 1) := by decide +kernel
theorem dL_end_15 : decode cL_end 15 = .ok (.ireturn, 1) := by decide +kernel
theorem dL_sell_0 : decode cL_sell 0 = .ok (.aload 4, 2) := by decide +kernel
theorem dL_sell_2 : decode cL_sell 2 = .ok (.iconst 0, 1) := by decide +kernel
theorem dL_sell_3 : decode cL_sell 3 = .ok (.aload_n 0, 1) := by decide +kernel
theorem dL_sell_4 : decode cL_sell 4 = .ok (.iload_n 1, 1) := by decide +kernel
theorem dL_sell_5 : decode cL_sell 5 = .ok (.iload_n 2, 1) := by decide +kernel
theorem dL_sell_6 : decode cL_sell 6 = .ok (.iload_n 3, 1) := by decide +kernel
theorem dL_sell_7 : decode cL_sell 7 = .ok (.invokevirtual 30, 3) := by decide +kernel
theorem dL_sell_10 : decode cL_sell 10 = .ok (.ifCond .eq 7, 3) := by decide +kernel
theorem dL_sell_13 : decode cL_sell 13 = .ok (.lconst 1, 1) := by decide +kernel
theorem dL_sell_14 : decode cL_sell 14 = .ok (.goto 4, 3) := by decide +kernel
theorem dL_sell_17 : decode cL_sell 17 = .ok (.lconst 0, 1) := by decide +kernel
theorem dL_sell_18 : decode cL_sell 18 = .ok (.lastore, 1) := by decide +kernel
theorem dL_sell_19 : decode cL_sell 19 = .ok (.goto 15, 3) := by decide +kernel
theorem dL_sell_22 : decode cL_sell 22 = .ok (.astore 5, 2) := by decide +kernel
theorem dL_sell_24 : decode cL_sell 24 = .ok (.iconst 1, 1) := by decide +kernel
theorem dL_sell_25 : decode cL_sell 25 = .ok (.ireturn, 1) := by decide +kernel
theorem dL_sell_26 : decode cL_sell 26 = .ok (.astore 5, 2) := by decide +kernel
theorem dL_sell_28 : decode cL_sell 28 = .ok (.iconst 2, 1) := by decide +kernel
theorem dL_sell_29 : decode cL_sell 29 = .ok (.ireturn, 1) := by decide +kernel
theorem dL_sell_30 : decode cL_sell 30 = .ok (.astore 5, 2) := by decide +kernel
theorem dL_sell_32 : decode cL_sell 32 = .ok (.iconst 3, 1) := by decide +kernel
theorem dL_sell_33 : decode cL_sell 33 = .ok (.ireturn, 1) := by decide +kernel
theorem dL_sell_34 : decode cL_sell 34 = .ok (.iconst 0, 1) := by decide +kernel
theorem dL_sell_35 : decode cL_sell 35 = .ok (.ireturn, 1) := by decide +kernel
theorem dL_lend_0 : decode cL_lend 0 = .ok (.aload 4, 2) := by decide +kernel
theorem dL_lend_2 : decode cL_lend 2 = .ok (.iconst 0, 1) := by decide +kernel
theorem dL_lend_3 : decode cL_lend 3 = .ok (.aload_n 0, 1) := by decide +kernel
theorem dL_lend_4 : decode cL_lend 4 = .ok (.iload_n 1, 1) := by decide +kernel
theorem dL_lend_5 : decode cL_lend 5 = .ok (.iload_n 2, 1) := by decide +kernel
theorem dL_lend_6 : decode cL_lend 6 = .ok (.iload_n 3, 1) := by decide +kernel
theorem dL_lend_7 : decode cL_lend 7 = .ok (.invokevirtual 34, 3) := by decide +kernel
theorem dL_lend_10 : decode cL_lend 10 = .ok (.i2l, 1) := by decide +kernel
theorem dL_lend_11 : decode cL_lend 11 = .ok (.lastore, 1) := by decide +kernel
theorem dL_lend_12 : decode cL_lend 12 = .ok (.goto 15, 3) := by decide +kernel
theorem dL_lend_15 : decode cL_lend 15 = .ok (.astore 5, 2) := by decide +kernel
theorem dL_lend_17 : decode cL_lend 17 = .ok (.iconst 1, 1) := by decide +kernel
theorem dL_lend_18 : decode cL_lend 18 = .ok (.ireturn, 1) := by decide +kernel
theorem dL_lend_19 : decode cL_lend 19 = .ok (.astore 5, 2) := by decide +kernel
theorem dL_lend_21 : decode cL_lend 21 = .ok (.iconst 2, 1) := by decide +kernel
theorem dL_lend_22 : decode cL_lend 22 = .ok (.ireturn, 1) := by decide +kernel
theorem dL_lend_23 : decode cL_lend 23 = .ok (.astore 5, 2) := by decide +kernel
theorem dL_lend_25 : decode cL_lend 25 = .ok (.iconst 3, 1) := by decide +kernel
theorem dL_lend_26 : decode cL_lend 26 = .ok (.ireturn, 1) := by decide +kernel
theorem dL_lend_27 : decode cL_lend 27 = .ok (.iconst 0, 1) := by decide +kernel
theorem dL_lend_28 : decode cL_lend 28 = .ok (.ireturn, 1) := by decide +kernel
theorem dL_proof_0 : decode cL_proof 0 = .ok (.aload_n 3, 1) := by decide +kernel
theorem dL_proof_1 : decode cL_proof 1 = .ok (.iconst 0, 1) := by decide +kernel
theorem dL_proof_2 : decode cL_proof 2 = .ok (.aload_n 0, 1) := by decide +kernel
theorem dL_proof_3 : decode cL_proof 3 = .ok (.iload_n 1, 1) := by decide +kernel
theorem dL_proof_4 : decode cL_proof 4 = .ok (.iload_n 2, 1) := by decide +kernel
theorem dL_proof_5 : decode cL_proof 5 = .ok (.invokevirtual 37, 3) := by decide +kernel
theorem dL_proof_8 : decode cL_proof 8 = .ok (.i2l, 1) := by decide +kernel
theorem dL_proof_9 : decode cL_proof 9 = .ok (.lastore, 1) := by decide +kernel
theorem dL_proof_10 : decode cL_proof 10 = .ok (.goto 11, 3) := by decide +kernel
theorem dL_proof_13 : decode cL_proof 13 = .ok (.astore 4, 2) := by decide +kernel
theorem dL_proof_15 : decode cL_proof 15 = .ok (.iconst 1, 1) := by decide +kernel
theorem dL_proof_16 : decode cL_proof 16 = .ok (.ireturn, 1) := by decide +kernel
theorem dL_proof_17 : decode cL_proof 17 = .ok (.astore 4, 2) := by decide +kernel
theorem dL_proof_19 : decode cL_proof 19 = .ok (.iconst 2, 1) := by decide +kernel
theorem dL_proof_20 : decode cL_proof 20 = .ok (.ireturn, 1) := by decide +kernel
theorem dL_proof_21 : decode cL_proof 21 = .ok (.iconst 0, 1) := by decide +kernel
theorem dL_proof_22 : decode cL_proof 22 = .ok (.ireturn, 1) := by decide +kernel
theorem dL_clear_0 : decode cL_clear 0 = .ok (.aload_n 2, 1) := by decide +kernel
theorem dL_clear_1 : decode cL_clear 1 = .ok (.iconst 0, 1) := by decide +kernel
theorem dL_clear_2 : decode cL_clear 2 = .ok (.aload_n 0, 1) := by decide +kernel
theorem dL_clear_3 : decode cL_clear 3 = .ok (.iload_n 1, 1) := by decide +kernel
theorem dL_clear_4 : decode cL_clear 4 = .ok (.invokevirtual 40, 3) := by decide +kernel
theorem dL_clear_7 : decode cL_clear 7 = .ok (.i2l, 1) := by decide +kernel
theorem dL_clear_8 : decode cL_clear 8 = .ok (.lastore, 1) := by decide +kernel
theorem dL_clear_9 : decode cL_clear 9 = .ok (.goto 9, 3) := by decide +kernel
theorem dL_clear_12 : decode cL_clear 12 = .ok (.astore_n 3, 1) := by decide +kernel
theorem dL_clear_13 : decode cL_clear 13 = .ok (.iconst 1, 1) := by decide +kernel
theorem dL_clear_14 : decode cL_clear 14 = .ok (.ireturn, 1) := by decide +kernel
theorem dL_clear_15 : decode cL_clear 15 = .ok (.astore_n 3, 1) := by decide +kernel
theorem dL_clear_16 : decode cL_clear 16 = .ok (.iconst 2, 1) := by decide +kernel
theorem dL_clear_17 : decode cL_clear 17 = .ok (.ireturn, 1) := by decide +kernel
theorem dL_clear_18 : decode cL_clear 18 = .ok (.iconst 0, 1) := by decide +kernel
theorem dL_clear_19 : decode cL_clear 19 = .ok (.ireturn, 1) := by decide +kernel
theorem dL_ban_0 : decode cL_ban 0 = .ok (.aload_n 3, 1) := by decide +kernel
theorem dL_ban_1 : decode cL_ban 1 = .ok (.iconst 0, 1) := by decide +kernel
theorem dL_ban_2 : decode cL_ban 2 = .ok (.aload_n 0, 1) := by decide +kernel
theorem dL_ban_3 : decode cL_ban 3 = .ok (.iload_n 1, 1) := by decide +kernel
theorem dL_ban_4 : decode cL_ban 4 = .ok (.iload_n 2, 1) := by decide +kernel
theorem dL_ban_5 : decode cL_ban 5 = .ok (.invokevirtual 44, 3) := by decide +kernel
theorem dL_ban_8 : decode cL_ban 8 = .ok (.i2l, 1) := by decide +kernel
theorem dL_ban_9 : decode cL_ban 9 = .ok (.lastore, 1) := by decide +kernel
theorem dL_ban_10 : decode cL_ban 10 = .ok (.goto 11, 3) := by decide +kernel
theorem dL_ban_13 : decode cL_ban 13 = .ok (.astore 4, 2) := by decide +kernel
theorem dL_ban_15 : decode cL_ban 15 = .ok (.iconst 1, 1) := by decide +kernel
theorem dL_ban_16 : decode cL_ban 16 = .ok (.ireturn, 1) := by decide +kernel
theorem dL_ban_17 : decode cL_ban 17 = .ok (.astore 4, 2) := by decide +kernel
theorem dL_ban_19 : decode cL_ban 19 = .ok (.iconst 2, 1) := by decide +kernel
theorem dL_ban_20 : decode cL_ban 20 = .ok (.ireturn, 1) := by decide +kernel
theorem dL_ban_21 : decode cL_ban 21 = .ok (.iconst 0, 1) := by decide +kernel
theorem dL_ban_22 : decode cL_ban 22 = .ok (.ireturn, 1) := by decide +kernel
theorem dL_pass_0 : decode cL_pass 0 = .ok (.aload_n 2, 1) := by decide +kernel
theorem dL_pass_1 : decode cL_pass 1 = .ok (.iconst 0, 1) := by decide +kernel
theorem dL_pass_2 : decode cL_pass 2 = .ok (.aload_n 0, 1) := by decide +kernel
theorem dL_pass_3 : decode cL_pass 3 = .ok (.iload_n 1, 1) := by decide +kernel
theorem dL_pass_4 : decode cL_pass 4 = .ok (.invokevirtual 47, 3) := by decide +kernel
theorem dL_pass_7 : decode cL_pass 7 = .ok (.i2l, 1) := by decide +kernel
theorem dL_pass_8 : decode cL_pass 8 = .ok (.lastore, 1) := by decide +kernel
theorem dL_pass_9 : decode cL_pass 9 = .ok (.goto 6, 3) := by decide +kernel
theorem dL_pass_12 : decode cL_pass 12 = .ok (.astore_n 3, 1) := by decide +kernel
theorem dL_pass_13 : decode cL_pass 13 = .ok (.iconst 1, 1) := by decide +kernel
theorem dL_pass_14 : decode cL_pass 14 = .ok (.ireturn, 1) := by decide +kernel
theorem dL_pass_15 : decode cL_pass 15 = .ok (.iconst 0, 1) := by decide +kernel
theorem dL_pass_16 : decode cL_pass 16 = .ok (.ireturn, 1) := by decide +kernel
theorem dL_stands_0 : decode cL_stands 0 = .ok (.aload_n 2, 1) := by decide +kernel
theorem dL_stands_1 : decode cL_stands 1 = .ok (.iconst 0, 1) := by decide +kernel
theorem dL_stands_2 : decode cL_stands 2 = .ok (.aload_n 0, 1) := by decide +kernel
theorem dL_stands_3 : decode cL_stands 3 = .ok (.iload_n 1, 1) := by decide +kernel
theorem dL_stands_4 : decode cL_stands 4 = .ok (.invokevirtual 50, 3) := by decide +kernel
theorem dL_stands_7 : decode cL_stands 7 = .ok (.ifCond .eq 7, 3) := by decide +kernel
theorem dL_stands_10 : decode cL_stands 10 = .ok (.lconst 1, 1) := by decide +kernel
theorem dL_stands_11 : decode cL_stands 11 = .ok (.goto 4, 3) := by decide +kernel
theorem dL_stands_14 : decode cL_stands 14 = .ok (.lconst 0, 1) := by decide +kernel
theorem dL_stands_15 : decode cL_stands 15 = .ok (.lastore, 1) := by decide +kernel
theorem dL_stands_16 : decode cL_stands 16 = .ok (.goto 6, 3) := by decide +kernel
theorem dL_stands_19 : decode cL_stands 19 = .ok (.astore_n 3, 1) := by decide +kernel
theorem dL_stands_20 : decode cL_stands 20 = .ok (.iconst 1, 1) := by decide +kernel
theorem dL_stands_21 : decode cL_stands 21 = .ok (.ireturn, 1) := by decide +kernel
theorem dL_stands_22 : decode cL_stands 22 = .ok (.iconst 0, 1) := by decide +kernel
theorem dL_stands_23 : decode cL_stands 23 = .ok (.ireturn, 1) := by decide +kernel
theorem dL_ranked_0 : decode cL_ranked 0 = .ok (.aload 4, 2) := by decide +kernel
theorem dL_ranked_2 : decode cL_ranked 2 = .ok (.iconst 0, 1) := by decide +kernel
theorem dL_ranked_3 : decode cL_ranked 3 = .ok (.aload_n 0, 1) := by decide +kernel
theorem dL_ranked_4 : decode cL_ranked 4 = .ok (.iload_n 1, 1) := by decide +kernel
theorem dL_ranked_5 : decode cL_ranked 5 = .ok (.iload_n 2, 1) := by decide +kernel
theorem dL_ranked_6 : decode cL_ranked 6 = .ok (.iload_n 3, 1) := by decide +kernel
theorem dL_ranked_7 : decode cL_ranked 7 = .ok (.invokevirtual 54, 3) := by decide +kernel
theorem dL_ranked_10 : decode cL_ranked 10 = .ok (.i2l, 1) := by decide +kernel
theorem dL_ranked_11 : decode cL_ranked 11 = .ok (.lastore, 1) := by decide +kernel
theorem dL_ranked_12 : decode cL_ranked 12 = .ok (.goto 11, 3) := by decide +kernel
theorem dL_ranked_15 : decode cL_ranked 15 = .ok (.astore 5, 2) := by decide +kernel
theorem dL_ranked_17 : decode cL_ranked 17 = .ok (.iconst 1, 1) := by decide +kernel
theorem dL_ranked_18 : decode cL_ranked 18 = .ok (.ireturn, 1) := by decide +kernel
theorem dL_ranked_19 : decode cL_ranked 19 = .ok (.astore 5, 2) := by decide +kernel
theorem dL_ranked_21 : decode cL_ranked 21 = .ok (.iconst 2, 1) := by decide +kernel
theorem dL_ranked_22 : decode cL_ranked 22 = .ok (.ireturn, 1) := by decide +kernel
theorem dL_ranked_23 : decode cL_ranked 23 = .ok (.iconst 0, 1) := by decide +kernel
theorem dL_ranked_24 : decode cL_ranked 24 = .ok (.ireturn, 1) := by decide +kernel
theorem dL_skinOf_0 : decode cL_skinOf 0 = .ok (.aload_n 3, 1) := by decide +kernel
theorem dL_skinOf_1 : decode cL_skinOf 1 = .ok (.iconst 0, 1) := by decide +kernel
theorem dL_skinOf_2 : decode cL_skinOf 2 = .ok (.aload_n 0, 1) := by decide +kernel
theorem dL_skinOf_3 : decode cL_skinOf 3 = .ok (.iload_n 1, 1) := by decide +kernel
theorem dL_skinOf_4 : decode cL_skinOf 4 = .ok (.iload_n 2, 1) := by decide +kernel
theorem dL_skinOf_5 : decode cL_skinOf 5 = .ok (.invokevirtual 57, 3) := by decide +kernel
theorem dL_skinOf_8 : decode cL_skinOf 8 = .ok (.i2l, 1) := by decide +kernel
theorem dL_skinOf_9 : decode cL_skinOf 9 = .ok (.lastore, 1) := by decide +kernel
theorem dL_skinOf_10 : decode cL_skinOf 10 = .ok (.goto 11, 3) := by decide +kernel
theorem dL_skinOf_13 : decode cL_skinOf 13 = .ok (.astore 4, 2) := by decide +kernel
theorem dL_skinOf_15 : decode cL_skinOf 15 = .ok (.iconst 1, 1) := by decide +kernel
theorem dL_skinOf_16 : decode cL_skinOf 16 = .ok (.ireturn, 1) := by decide +kernel
theorem dL_skinOf_17 : decode cL_skinOf 17 = .ok (.astore 4, 2) := by decide +kernel
theorem dL_skinOf_19 : decode cL_skinOf 19 = .ok (.iconst 2, 1) := by decide +kernel
theorem dL_skinOf_20 : decode cL_skinOf 20 = .ok (.ireturn, 1) := by decide +kernel
theorem dL_skinOf_21 : decode cL_skinOf 21 = .ok (.iconst 0, 1) := by decide +kernel
theorem dL_skinOf_22 : decode cL_skinOf 22 = .ok (.ireturn, 1) := by decide +kernel
theorem dL_money_0 : decode cL_money 0 = .ok (.aload_n 2, 1) := by decide +kernel
theorem dL_money_1 : decode cL_money 1 = .ok (.iconst 0, 1) := by decide +kernel
theorem dL_money_2 : decode cL_money 2 = .ok (.aload_n 0, 1) := by decide +kernel
theorem dL_money_3 : decode cL_money 3 = .ok (.iload_n 1, 1) := by decide +kernel
theorem dL_money_4 : decode cL_money 4 = .ok (.invokevirtual 60, 3) := by decide +kernel
theorem dL_money_7 : decode cL_money 7 = .ok (.i2l, 1) := by decide +kernel
theorem dL_money_8 : decode cL_money 8 = .ok (.lastore, 1) := by decide +kernel
theorem dL_money_9 : decode cL_money 9 = .ok (.goto 6, 3) := by decide +kernel
theorem dL_money_12 : decode cL_money 12 = .ok (.astore_n 3, 1) := by decide +kernel
theorem dL_money_13 : decode cL_money 13 = .ok (.iconst 1, 1) := by decide +kernel
theorem dL_money_14 : decode cL_money 14 = .ok (.ireturn, 1) := by decide +kernel
theorem dL_money_15 : decode cL_money 15 = .ok (.iconst 0, 1) := by decide +kernel
theorem dL_money_16 : decode cL_money 16 = .ok (.ireturn, 1) := by decide +kernel
theorem dL_label_0 : decode cL_label 0 = .ok (.aload_n 3, 1) := by decide +kernel
theorem dL_label_1 : decode cL_label 1 = .ok (.iconst 0, 1) := by decide +kernel
theorem dL_label_2 : decode cL_label 2 = .ok (.aload_n 0, 1) := by decide +kernel
theorem dL_label_3 : decode cL_label 3 = .ok (.iload_n 1, 1) := by decide +kernel
theorem dL_label_4 : decode cL_label 4 = .ok (.iload_n 2, 1) := by decide +kernel
theorem dL_label_5 : decode cL_label 5 = .ok (.invokevirtual 63, 3) := by decide +kernel
theorem dL_label_8 : decode cL_label 8 = .ok (.i2l, 1) := by decide +kernel
theorem dL_label_9 : decode cL_label 9 = .ok (.lastore, 1) := by decide +kernel
theorem dL_label_10 : decode cL_label 10 = .ok (.goto 7, 3) := by decide +kernel
theorem dL_label_13 : decode cL_label 13 = .ok (.astore 4, 2) := by decide +kernel
theorem dL_label_15 : decode cL_label 15 = .ok (.iconst 1, 1) := by decide +kernel
theorem dL_label_16 : decode cL_label 16 = .ok (.ireturn, 1) := by decide +kernel
theorem dL_label_17 : decode cL_label 17 = .ok (.iconst 0, 1) := by decide +kernel
theorem dL_label_18 : decode cL_label 18 = .ok (.ireturn, 1) := by decide +kernel
