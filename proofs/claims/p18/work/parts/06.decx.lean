theorem dX0_init_0 : decode cX0_init 0 = .ok (.aload_n 0, 1) := by decide +kernel
theorem dX0_init_1 : decode cX0_init 1 = .ok (.invokespecial 3, 3) := by decide +kernel
theorem dX0_init_4 : decode cX0_init 4 = .ok (.aload_n 0, 1) := by decide +kernel
theorem dX0_init_5 : decode cX0_init 5 = .ok (.aload_n 1, 1) := by decide +kernel
theorem dX0_init_6 : decode cX0_init 6 = .ok (.putfield 9, 3) := by decide +kernel
theorem dX0_init_9 : decode cX0_init 9 = .ok (.aload_n 0, 1) := by decide +kernel
theorem dX0_init_10 : decode cX0_init 10 = .ok (.aload_n 2, 1) := by decide +kernel
theorem dX0_init_11 : decode cX0_init 11 = .ok (.putfield 15, 3) := by decide +kernel
theorem dX0_init_14 : decode cX0_init 14 = .ok (.aload_n 0, 1) := by decide +kernel
theorem dX0_init_15 : decode cX0_init 15 = .ok (.aload_n 3, 1) := by decide +kernel
theorem dX0_init_16 : decode cX0_init 16 = .ok (.putfield 18, 3) := by decide +kernel
theorem dX0_init_19 : decode cX0_init 19 = .ok (.aload_n 0, 1) := by decide +kernel
theorem dX0_init_20 : decode cX0_init 20 = .ok (.iload 4, 2) := by decide +kernel
theorem dX0_init_22 : decode cX0_init 22 = .ok (.putfield 22, 3) := by decide +kernel
theorem dX0_init_25 : decode cX0_init 25 = .ok (.return_, 1) := by decide +kernel
theorem dX0_isStanding_0 : decode cX0_isStanding 0 = .ok (.aload_n 0, 1) := by decide +kernel
theorem dX0_isStanding_1 : decode cX0_isStanding 1 = .ok (.getfield 9, 3) := by decide +kernel
theorem dX0_isStanding_4 : decode cX0_isStanding 4 = .ok (.aload_n 0, 1) := by decide +kernel
theorem dX0_isStanding_5 : decode cX0_isStanding 5 = .ok (.getfield 22, 3) := by decide +kernel
theorem dX0_isStanding_8 : decode cX0_isStanding 8 = .ok (.invokevirtual 26, 3) := by decide +kernel
theorem dX0_isStanding_11 : decode cX0_isStanding 11 = .ok (.ifCond .ne 7, 3) := by decide +kernel
theorem dX0_isStanding_14 : decode cX0_isStanding 14 = .ok (.iconst 1, 1) := by decide +kernel
theorem dX0_isStanding_15 : decode cX0_isStanding 15 = .ok (.goto 4, 3) := by decide +kernel
theorem dX0_isStanding_18 : decode cX0_isStanding 18 = .ok (.iconst 0, 1) := by decide +kernel
theorem dX0_isStanding_19 : decode cX0_isStanding 19 = .ok (.ireturn, 1) := by decide +kernel
theorem dX0_addPoints_0 : decode cX0_addPoints 0 = .ok (.aload_n 0, 1) := by decide +kernel
theorem dX0_addPoints_1 : decode cX0_addPoints 1 = .ok (.invokevirtual 32, 3) := by decide +kernel
theorem dX0_addPoints_4 : decode cX0_addPoints 4 = .ok (.ifCond .eq 33, 3) := by decide +kernel
theorem dX0_addPoints_7 : decode cX0_addPoints 7 = .ok (.aload_n 0, 1) := by decide +kernel
theorem dX0_addPoints_8 : decode cX0_addPoints 8 = .ok (.getfield 18, 3) := by decide +kernel
theorem dX0_addPoints_11 : decode cX0_addPoints 11 = .ok (.aload_n 0, 1) := by decide +kernel
theorem dX0_addPoints_12 : decode cX0_addPoints 12 = .ok (.getfield 9, 3) := by decide +kernel
theorem dX0_addPoints_15 : decode cX0_addPoints 15 = .ok (.getfield 36, 3) := by decide +kernel
theorem dX0_addPoints_18 : decode cX0_addPoints 18 = .ok (.iconst 3, 1) := by decide +kernel
theorem dX0_addPoints_19 : decode cX0_addPoints 19 = .ok (.invokevirtual 39, 3) := by decide +kernel
theorem dX0_addPoints_22 : decode cX0_addPoints 22 = .ok (.aload_n 0, 1) := by decide +kernel
theorem dX0_addPoints_23 : decode cX0_addPoints 23 = .ok (.getfield 18, 3) := by decide +kernel
theorem dX0_addPoints_26 : decode cX0_addPoints 26 = .ok (.aload_n 0, 1) := by decide +kernel
theorem dX0_addPoints_27 : decode cX0_addPoints 27 = .ok (.getfield 15, 3) := by decide +kernel
theorem dX0_addPoints_30 : decode cX0_addPoints 30 = .ok (.getfield 36, 3) := by decide +kernel
theorem dX0_addPoints_33 : decode cX0_addPoints 33 = .ok (.iconst 1, 1) := by decide +kernel
theorem dX0_addPoints_34 : decode cX0_addPoints 34 = .ok (.invokevirtual 39, 3) := by decide +kernel
theorem dX0_addPoints_37 : decode cX0_addPoints 37 = .ok (.return_, 1) := by decide +kernel
theorem dX1_init_0 : decode cX1_init 0 = .ok (.aload_n 0, 1) := by decide +kernel
theorem dX1_init_1 : decode cX1_init 1 = .ok (.invokespecial 3, 3) := by decide +kernel
theorem dX1_init_4 : decode cX1_init 4 = .ok (.aload_n 0, 1) := by decide +kernel
theorem dX1_init_5 : decode cX1_init 5 = .ok (.iconst (-1), 1) := by decide +kernel
theorem dX1_init_6 : decode cX1_init 6 = .ok (.putfield 9, 3) := by decide +kernel
theorem dX1_init_9 : decode cX1_init 9 = .ok (.aload_n 0, 1) := by decide +kernel
theorem dX1_init_10 : decode cX1_init 10 = .ok (.iload_n 1, 1) := by decide +kernel
theorem dX1_init_11 : decode cX1_init 11 = .ok (.putfield 15, 3) := by decide +kernel
theorem dX1_init_14 : decode cX1_init 14 = .ok (.return_, 1) := by decide +kernel
theorem dX1_isBanned_0 : decode cX1_isBanned 0 = .ok (.iload_n 1, 1) := by decide +kernel
theorem dX1_isBanned_1 : decode cX1_isBanned 1 = .ok (.aload_n 0, 1) := by decide +kernel
theorem dX1_isBanned_2 : decode cX1_isBanned 2 = .ok (.getfield 18, 3) := by decide +kernel
theorem dX1_isBanned_5 : decode cX1_isBanned 5 = .ok (.if_icmp .ge 7, 3) := by decide +kernel
theorem dX1_isBanned_8 : decode cX1_isBanned 8 = .ok (.iconst 1, 1) := by decide +kernel
theorem dX1_isBanned_9 : decode cX1_isBanned 9 = .ok (.goto 4, 3) := by decide +kernel
theorem dX1_isBanned_12 : decode cX1_isBanned 12 = .ok (.iconst 0, 1) := by decide +kernel
theorem dX1_isBanned_13 : decode cX1_isBanned 13 = .ok (.ireturn, 1) := by decide +kernel
theorem dX1_isProven_0 : decode cX1_isProven 0 = .ok (.aload_n 0, 1) := by decide +kernel
theorem dX1_isProven_1 : decode cX1_isProven 1 = .ok (.getfield 9, 3) := by decide +kernel
theorem dX1_isProven_4 : decode cX1_isProven 4 = .ok (.iconst (-1), 1) := by decide +kernel
theorem dX1_isProven_5 : decode cX1_isProven 5 = .ok (.if_icmp .eq 7, 3) := by decide +kernel
theorem dX1_isProven_8 : decode cX1_isProven 8 = .ok (.iconst 1, 1) := by decide +kernel
theorem dX1_isProven_9 : decode cX1_isProven 9 = .ok (.goto 4, 3) := by decide +kernel
theorem dX1_isProven_12 : decode cX1_isProven 12 = .ok (.iconst 0, 1) := by decide +kernel
theorem dX1_isProven_13 : decode cX1_isProven 13 = .ok (.ireturn, 1) := by decide +kernel
theorem dX1_isProvenOn_0 : decode cX1_isProvenOn 0 = .ok (.aload_n 0, 1) := by decide +kernel
theorem dX1_isProvenOn_1 : decode cX1_isProvenOn 1 = .ok (.invokevirtual 21, 3) := by decide +kernel
theorem dX1_isProvenOn_4 : decode cX1_isProvenOn 4 = .ok (.ifCond .eq 15, 3) := by decide +kernel
theorem dX1_isProvenOn_7 : decode cX1_isProvenOn 7 = .ok (.aload_n 0, 1) := by decide +kernel
theorem dX1_isProvenOn_8 : decode cX1_isProvenOn 8 = .ok (.getfield 9, 3) := by decide +kernel
theorem dX1_isProvenOn_11 : decode cX1_isProvenOn 11 = .ok (.iload_n 1, 1) := by decide +kernel
theorem dX1_isProvenOn_12 : decode cX1_isProvenOn 12 = .ok (.if_icmp .gt 7, 3) := by decide +kernel
theorem dX1_isProvenOn_15 : decode cX1_isProvenOn 15 = .ok (.iconst 1, 1) := by decide +kernel
theorem dX1_isProvenOn_16 : decode cX1_isProvenOn 16 = .ok (.goto 4, 3) := by decide +kernel
theorem dX1_isProvenOn_19 : decode cX1_isProvenOn 19 = .ok (.iconst 0, 1) := by decide +kernel
theorem dX1_isProvenOn_20 : decode cX1_isProvenOn 20 = .ok (.ireturn, 1) := by decide +kernel
theorem dX1_prove_0 : decode cX1_prove 0 = .ok (.aload_n 0, 1) := by decide +kernel
theorem dX1_prove_1 : decode cX1_prove 1 = .ok (.invokevirtual 21, 3) := by decide +kernel
theorem dX1_prove_4 : decode cX1_prove 4 = .ok (.ifCond .eq 11, 3) := by decide +kernel
theorem dX1_prove_7 : decode cX1_prove 7 = .ok (.iload_n 1, 1) := by decide +kernel
theorem dX1_prove_8 : decode cX1_prove 8 = .ok (.aload_n 0, 1) := by decide +kernel
theorem dX1_prove_9 : decode cX1_prove 9 = .ok (.getfield 9, 3) := by decide +kernel
theorem dX1_prove_12 : decode cX1_prove 12 = .ok (.if_icmp .ge 8, 3) := by decide +kernel
theorem dX1_prove_15 : decode cX1_prove 15 = .ok (.aload_n 0, 1) := by decide +kernel
theorem dX1_prove_16 : decode cX1_prove 16 = .ok (.iload_n 1, 1) := by decide +kernel
theorem dX1_prove_17 : decode cX1_prove 17 = .ok (.putfield 9, 3) := by decide +kernel
theorem dX1_prove_20 : decode cX1_prove 20 = .ok (.return_, 1) := by decide +kernel
theorem dX2_init_0 : decode cX2_init 0 = .ok (.aload_n 0, 1) := by decide +kernel
theorem dX2_init_1 : decode cX2_init 1 = .ok (.invokespecial 3, 3) := by decide +kernel
theorem dX2_init_4 : decode cX2_init 4 = .ok (.aload_n 0, 1) := by decide +kernel
theorem dX2_init_5 : decode cX2_init 5 = .ok (.bipush 10, 2) := by decide +kernel
theorem dX2_init_7 : decode cX2_init 7 = .ok (.putfield 9, 3) := by decide +kernel
theorem dX2_init_10 : decode cX2_init 10 = .ok (.return_, 1) := by decide +kernel
theorem dX2_isFull_0 : decode cX2_isFull 0 = .ok (.aload_n 0, 1) := by decide +kernel
theorem dX2_isFull_1 : decode cX2_isFull 1 = .ok (.getfield 15, 3) := by decide +kernel
theorem dX2_isFull_4 : decode cX2_isFull 4 = .ok (.aload_n 0, 1) := by decide +kernel
theorem dX2_isFull_5 : decode cX2_isFull 5 = .ok (.getfield 9, 3) := by decide +kernel
theorem dX2_isFull_8 : decode cX2_isFull 8 = .ok (.if_icmp .lt 7, 3) := by decide +kernel
theorem dX2_isFull_11 : decode cX2_isFull 11 = .ok (.iconst 1, 1) := by decide +kernel
theorem dX2_isFull_12 : decode cX2_isFull 12 = .ok (.goto 4, 3) := by decide +kernel
theorem dX2_isFull_15 : decode cX2_isFull 15 = .ok (.iconst 0, 1) := by decide +kernel
theorem dX2_isFull_16 : decode cX2_isFull 16 = .ok (.ireturn, 1) := by decide +kernel
theorem dX3_init_0 : decode cX3_init 0 = .ok (.aload_n 0, 1) := by decide +kernel
theorem dX3_init_1 : decode cX3_init 1 = .ok (.invokespecial 1, 3) := by decide +kernel
theorem dX3_init_4 : decode cX3_init 4 = .ok (.aload_n 0, 1) := by decide +kernel
theorem dX3_init_5 : decode cX3_init 5 = .ok (.aload_n 1, 1) := by decide +kernel
theorem dX3_init_6 : decode cX3_init 6 = .ok (.putfield 7, 3) := by decide +kernel
theorem dX3_init_9 : decode cX3_init 9 = .ok (.aload_n 0, 1) := by decide +kernel
theorem dX3_init_10 : decode cX3_init 10 = .ok (.aload_n 2, 1) := by decide +kernel
theorem dX3_init_11 : decode cX3_init 11 = .ok (.putfield 13, 3) := by decide +kernel
theorem dX3_init_14 : decode cX3_init 14 = .ok (.aload_n 0, 1) := by decide +kernel
theorem dX3_init_15 : decode cX3_init 15 = .ok (.iload_n 3, 1) := by decide +kernel
theorem dX3_init_16 : decode cX3_init 16 = .ok (.putfield 16, 3) := by decide +kernel
theorem dX3_init_19 : decode cX3_init 19 = .ok (.return_, 1) := by decide +kernel
theorem dX3_isInFaithNow_0 : decode cX3_isInFaithNow 0 = .ok (.aload_n 0, 1) := by decide +kernel
theorem dX3_isInFaithNow_1 : decode cX3_isInFaithNow 1 = .ok (.getfield 7, 3) := by decide +kernel
theorem dX3_isInFaithNow_4 : decode cX3_isInFaithNow 4 = .ok (.ifnull 34, 3) := by decide +kernel
theorem dX3_isInFaithNow_7 : decode cX3_isInFaithNow 7 = .ok (.aload_n 0, 1) := by decide +kernel
theorem dX3_isInFaithNow_8 : decode cX3_isInFaithNow 8 = .ok (.getfield 13, 3) := by decide +kernel
theorem dX3_isInFaithNow_11 : decode cX3_isInFaithNow 11 = .ok (.ifnull 27, 3) := by decide +kernel
theorem dX3_isInFaithNow_14 : decode cX3_isInFaithNow 14 = .ok (.aload_n 0, 1) := by decide +kernel
theorem dX3_isInFaithNow_15 : decode cX3_isInFaithNow 15 = .ok (.getfield 7, 3) := by decide +kernel
theorem dX3_isInFaithNow_18 : decode cX3_isInFaithNow 18 = .ok (.invokevirtual 20, 3) := by decide +kernel
theorem dX3_isInFaithNow_21 : decode cX3_isInFaithNow 21 = .ok (.ifCond .ne 17, 3) := by decide +kernel
theorem dX3_isInFaithNow_24 : decode cX3_isInFaithNow 24 = .ok (.aload_n 0, 1) := by decide +kernel
theorem dX3_isInFaithNow_25 : decode cX3_isInFaithNow 25 = .ok (.getfield 13, 3) := by decide +kernel
theorem dX3_isInFaithNow_28 : decode cX3_isInFaithNow 28 = .ok (.invokevirtual 20, 3) := by decide +kernel
theorem dX3_isInFaithNow_31 : decode cX3_isInFaithNow 31 = .ok (.ifCond .ne 7, 3) := by decide +kernel
theorem dX3_isInFaithNow_34 : decode cX3_isInFaithNow 34 = .ok (.iconst 1, 1) := by decide +kernel
theorem dX3_isInFaithNow_35 : decode cX3_isInFaithNow 35 = .ok (.goto 4, 3) := by decide +kernel
theorem dX3_isInFaithNow_38 : decode cX3_isInFaithNow 38 = .ok (.iconst 0, 1) := by decide +kernel
theorem dX3_isInFaithNow_39 : decode cX3_isInFaithNow 39 = .ok (.ireturn, 1) := by decide +kernel
theorem dX4_init_0 : decode cX4_init 0 = .ok (.aload_n 0, 1) := by decide +kernel
theorem dX4_init_1 : decode cX4_init 1 = .ok (.invokespecial 3, 3) := by decide +kernel
theorem dX4_init_4 : decode cX4_init 4 = .ok (.aload_n 0, 1) := by decide +kernel
theorem dX4_init_5 : decode cX4_init 5 = .ok (.bipush 16, 2) := by decide +kernel
theorem dX4_init_7 : decode cX4_init 7 = .ok (.newarray .int, 2) := by decide +kernel
theorem dX4_init_9 : decode cX4_init 9 = .ok (.putfield 9, 3) := by decide +kernel
theorem dX4_init_12 : decode cX4_init 12 = .ok (.aload_n 0, 1) := by decide +kernel
theorem dX4_init_13 : decode cX4_init 13 = .ok (.bipush 16, 2) := by decide +kernel
theorem dX4_init_15 : decode cX4_init 15 = .ok (.newarray .int, 2) := by decide +kernel
theorem dX4_init_17 : decode cX4_init 17 = .ok (.putfield 15, 3) := by decide +kernel
theorem dX4_init_20 : decode cX4_init 20 = .ok (.aload_n 0, 1) := by decide +kernel
theorem dX4_init_21 : decode cX4_init 21 = .ok (.iload_n 1, 1) := by decide +kernel
theorem dX4_init_22 : decode cX4_init 22 = .ok (.putfield 18, 3) := by decide +kernel
theorem dX4_init_25 : decode cX4_init 25 = .ok (.return_, 1) := by decide +kernel
theorem dX4_forgetPoints_0 : decode cX4_forgetPoints 0 = .ok (.iconst 0, 1) := by decide +kernel
theorem dX4_forgetPoints_1 : decode cX4_forgetPoints 1 = .ok (.istore_n 1, 1) := by decide +kernel
theorem dX4_forgetPoints_2 : decode cX4_forgetPoints 2 = .ok (.iload_n 1, 1) := by decide +kernel
theorem dX4_forgetPoints_3 : decode cX4_forgetPoints 3 = .ok (.aload_n 0, 1) := by decide +kernel
theorem dX4_forgetPoints_4 : decode cX4_forgetPoints 4 = .ok (.getfield 9, 3) := by decide +kernel
theorem dX4_forgetPoints_7 : decode cX4_forgetPoints 7 = .ok (.arraylength, 1) := by decide +kernel
theorem dX4_forgetPoints_8 : decode cX4_forgetPoints 8 = .ok (.if_icmp .ge 16, 3) := by decide +kernel
theorem dX4_forgetPoints_11 : decode cX4_forgetPoints 11 = .ok (.aload_n 0, 1) := by decide +kernel
theorem dX4_forgetPoints_12 : decode cX4_forgetPoints 12 = .ok (.getfield 9, 3) := by decide +kernel
theorem dX4_forgetPoints_15 : decode cX4_forgetPoints 15 = .ok (.iload_n 1, 1) := by decide +kernel
theorem dX4_forgetPoints_16 : decode cX4_forgetPoints 16 = .ok (.iconst 0, 1) := by decide +kernel
theorem dX4_forgetPoints_17 : decode cX4_forgetPoints 17 = .ok (.iastore, 1) := by decide +kernel
theorem dX4_forgetPoints_18 : decode cX4_forgetPoints 18 = .ok (.iinc 1 1, 3) := by decide +kernel
theorem dX4_forgetPoints_21 : decode cX4_forgetPoints 21 = .ok (.goto (-19), 3) := by decide +kernel
theorem dX4_forgetPoints_24 : decode cX4_forgetPoints 24 = .ok (.iconst 0, 1) := by decide +kernel
theorem dX4_forgetPoints_25 : decode cX4_forgetPoints 25 = .ok (.istore_n 1, 1) := by decide +kernel
theorem dX4_forgetPoints_26 : decode cX4_forgetPoints 26 = .ok (.iload_n 1, 1) := by decide +kernel
theorem dX4_forgetPoints_27 : decode cX4_forgetPoints 27 = .ok (.aload_n 0, 1) := by decide +kernel
theorem dX4_forgetPoints_28 : decode cX4_forgetPoints 28 = .ok (.getfield 15, 3) := by decide +kernel
theorem dX4_forgetPoints_31 : decode cX4_forgetPoints 31 = .ok (.arraylength, 1) := by decide +kernel
theorem dX4_forgetPoints_32 : decode cX4_forgetPoints 32 = .ok (.if_icmp .ge 16, 3) := by decide +kernel
theorem dX4_forgetPoints_35 : decode cX4_forgetPoints 35 = .ok (.aload_n 0, 1) := by decide +kernel
theorem dX4_forgetPoints_36 : decode cX4_forgetPoints 36 = .ok (.getfield 15, 3) := by decide +kernel
theorem dX4_forgetPoints_39 : decode cX4_forgetPoints 39 = .ok (.iload_n 1, 1) := by decide +kernel
theorem dX4_forgetPoints_40 : decode cX4_forgetPoints 40 = .ok (.iconst 0, 1) := by decide +kernel
theorem dX4_forgetPoints_41 : decode cX4_forgetPoints 41 = .ok (.iastore, 1) := by decide +kernel
theorem dX4_forgetPoints_42 : decode cX4_forgetPoints 42 = .ok (.iinc 1 1, 3) := by decide +kernel
theorem dX4_forgetPoints_45 : decode cX4_forgetPoints 45 = .ok (.goto (-19), 3) := by decide +kernel
theorem dX4_forgetPoints_48 : decode cX4_forgetPoints 48 = .ok (.return_, 1) := by decide +kernel
theorem dX4_add_0 : decode cX4_add 0 = .ok (.iload_n 1, 1) := by decide +kernel
theorem dX4_add_1 : decode cX4_add 1 = .ok (.ifCond .lt 41, 3) := by decide +kernel
theorem dX4_add_4 : decode cX4_add 4 = .ok (.iload_n 1, 1) := by decide +kernel
theorem dX4_add_5 : decode cX4_add 5 = .ok (.aload_n 0, 1) := by decide +kernel
theorem dX4_add_6 : decode cX4_add 6 = .ok (.getfield 9, 3) := by decide +kernel
theorem dX4_add_9 : decode cX4_add 9 = .ok (.arraylength, 1) := by decide +kernel
theorem dX4_add_10 : decode cX4_add 10 = .ok (.if_icmp .ge 32, 3) := by decide +kernel
theorem dX4_add_13 : decode cX4_add 13 = .ok (.iload_n 1, 1) := by decide +kernel
theorem dX4_add_14 : decode cX4_add 14 = .ok (.aload_n 0, 1) := by decide +kernel
theorem dX4_add_15 : decode cX4_add 15 = .ok (.getfield 15, 3) := by decide +kernel
theorem dX4_add_18 : decode cX4_add 18 = .ok (.arraylength, 1) := by decide +kernel
theorem dX4_add_19 : decode cX4_add 19 = .ok (.if_icmp .ge 23, 3) := by decide +kernel
theorem dX4_add_22 : decode cX4_add 22 = .ok (.aload_n 0, 1) := by decide +kernel
theorem dX4_add_23 : decode cX4_add 23 = .ok (.getfield 9, 3) := by decide +kernel
theorem dX4_add_26 : decode cX4_add 26 = .ok (.iload_n 1, 1) := by decide +kernel
theorem dX4_add_27 : decode cX4_add 27 = .ok (.dup2, 1) := by decide +kernel
theorem dX4_add_28 : decode cX4_add 28 = .ok (.iaload, 1) := by decide +kernel
theorem dX4_add_29 : decode cX4_add 29 = .ok (.iload_n 2, 1) := by decide +kernel
theorem dX4_add_30 : decode cX4_add 30 = .ok (.iadd, 1) := by decide +kernel
theorem dX4_add_31 : decode cX4_add 31 = .ok (.iastore, 1) := by decide +kernel
theorem dX4_add_32 : decode cX4_add 32 = .ok (.aload_n 0, 1) := by decide +kernel
theorem dX4_add_33 : decode cX4_add 33 = .ok (.getfield 15, 3) := by decide +kernel
theorem dX4_add_36 : decode cX4_add 36 = .ok (.iload_n 1, 1) := by decide +kernel
theorem dX4_add_37 : decode cX4_add 37 = .ok (.dup2, 1) := by decide +kernel
theorem dX4_add_38 : decode cX4_add 38 = .ok (.iaload, 1) := by decide +kernel
theorem dX4_add_39 : decode cX4_add 39 = .ok (.iconst 1, 1) := by decide +kernel
theorem dX4_add_40 : decode cX4_add 40 = .ok (.iadd, 1) := by decide +kernel
theorem dX4_add_41 : decode cX4_add 41 = .ok (.iastore, 1) := by decide +kernel
theorem dX4_add_42 : decode cX4_add 42 = .ok (.return_, 1) := by decide +kernel
theorem dX4_pointsOf_0 : decode cX4_pointsOf 0 = .ok (.iload_n 1, 1) := by decide +kernel
theorem dX4_pointsOf_1 : decode cX4_pointsOf 1 = .ok (.ifCond .lt 21, 3) := by decide +kernel
theorem dX4_pointsOf_4 : decode cX4_pointsOf 4 = .ok (.iload_n 1, 1) := by decide +kernel
theorem dX4_pointsOf_5 : decode cX4_pointsOf 5 = .ok (.aload_n 0, 1) := by decide +kernel
theorem dX4_pointsOf_6 : decode cX4_pointsOf 6 = .ok (.getfield 9, 3) := by decide +kernel
theorem dX4_pointsOf_9 : decode cX4_pointsOf 9 = .ok (.arraylength, 1) := by decide +kernel
theorem dX4_pointsOf_10 : decode cX4_pointsOf 10 = .ok (.if_icmp .ge 12, 3) := by decide +kernel
theorem dX4_pointsOf_13 : decode cX4_pointsOf 13 = .ok (.aload_n 0, 1) := by decide +kernel
theorem dX4_pointsOf_14 : decode cX4_pointsOf 14 = .ok (.getfield 9, 3) := by decide +kernel
theorem dX4_pointsOf_17 : decode cX4_pointsOf 17 = .ok (.iload_n 1, 1) := by decide +kernel
theorem dX4_pointsOf_18 : decode cX4_pointsOf 18 = .ok (.iaload, 1) := by decide +kernel
theorem dX4_pointsOf_19 : decode cX4_pointsOf 19 = .ok (.goto 4, 3) := by decide +kernel
theorem dX4_pointsOf_22 : decode cX4_pointsOf 22 = .ok (.iconst 0, 1) := by decide +kernel
theorem dX4_pointsOf_23 : decode cX4_pointsOf 23 = .ok (.ireturn, 1) := by decide +kernel
theorem dX4_gamesOf_0 : decode cX4_gamesOf 0 = .ok (.iload_n 1, 1) := by decide +kernel
theorem dX4_gamesOf_1 : decode cX4_gamesOf 1 = .ok (.ifCond .lt 21, 3) := by decide +kernel
theorem dX4_gamesOf_4 : decode cX4_gamesOf 4 = .ok (.iload_n 1, 1) := by decide +kernel
theorem dX4_gamesOf_5 : decode cX4_gamesOf 5 = .ok (.aload_n 0, 1) := by decide +kernel
theorem dX4_gamesOf_6 : decode cX4_gamesOf 6 = .ok (.getfield 15, 3) := by decide +kernel
theorem dX4_gamesOf_9 : decode cX4_gamesOf 9 = .ok (.arraylength, 1) := by decide +kernel
theorem dX4_gamesOf_10 : decode cX4_gamesOf 10 = .ok (.if_icmp .ge 12, 3) := by decide +kernel
theorem dX4_gamesOf_13 : decode cX4_gamesOf 13 = .ok (.aload_n 0, 1) := by decide +kernel
theorem dX4_gamesOf_14 : decode cX4_gamesOf 14 = .ok (.getfield 15, 3) := by decide +kernel
theorem dX4_gamesOf_17 : decode cX4_gamesOf 17 = .ok (.iload_n 1, 1) := by decide +kernel
theorem dX4_gamesOf_18 : decode cX4_gamesOf 18 = .ok (.iaload, 1) := by decide +kernel
theorem dX4_gamesOf_19 : decode cX4_gamesOf 19 = .ok (.goto 4, 3) := by decide +kernel
theorem dX4_gamesOf_22 : decode cX4_gamesOf 22 = .ok (.iconst 0, 1) := by decide +kernel
theorem dX4_gamesOf_23 : decode cX4_gamesOf 23 = .ok (.ireturn, 1) := by decide +kernel
theorem dX4_placeOf_0 : decode cX4_placeOf 0 = .ok (.aload_n 0, 1) := by decide +kernel
theorem dX4_placeOf_1 : decode cX4_placeOf 1 = .ok (.iload_n 1, 1) := by decide +kernel
theorem dX4_placeOf_2 : decode cX4_placeOf 2 = .ok (.invokevirtual 22, 3) := by decide +kernel
theorem dX4_placeOf_5 : decode cX4_placeOf 5 = .ok (.ifCond .ne 5, 3) := by decide +kernel
theorem dX4_placeOf_8 : decode cX4_placeOf 8 = .ok (.iconst 0, 1) := by decide +kernel
theorem dX4_placeOf_9 : decode cX4_placeOf 9 = .ok (.ireturn, 1) := by decide +kernel
theorem dX4_placeOf_10 : decode cX4_placeOf 10 = .ok (.iconst 1, 1) := by decide +kernel
theorem dX4_placeOf_11 : decode cX4_placeOf 11 = .ok (.istore_n 2, 1) := by decide +kernel
theorem dX4_placeOf_12 : decode cX4_placeOf 12 = .ok (.iconst 0, 1) := by decide +kernel
theorem dX4_placeOf_13 : decode cX4_placeOf 13 = .ok (.istore_n 3, 1) := by decide +kernel
theorem dX4_placeOf_14 : decode cX4_placeOf 14 = .ok (.iload_n 3, 1) := by decide +kernel
theorem dX4_placeOf_15 : decode cX4_placeOf 15 = .ok (.aload_n 0, 1) := by decide +kernel
theorem dX4_placeOf_16 : decode cX4_placeOf 16 = .ok (.getfield 9, 3) := by decide +kernel
theorem dX4_placeOf_19 : decode cX4_placeOf 19 = .ok (.arraylength, 1) := by decide +kernel
theorem dX4_placeOf_20 : decode cX4_placeOf 20 = .ok (.if_icmp .ge 21, 3) := by decide +kernel
theorem dX4_placeOf_23 : decode cX4_placeOf 23 = .ok (.aload_n 0, 1) := by decide +kernel
theorem dX4_placeOf_24 : decode cX4_placeOf 24 = .ok (.iload_n 3, 1) := by decide +kernel
theorem dX4_placeOf_25 : decode cX4_placeOf 25 = .ok (.iload_n 1, 1) := by decide +kernel
theorem dX4_placeOf_26 : decode cX4_placeOf 26 = .ok (.invokevirtual 26, 3) := by decide +kernel
theorem dX4_placeOf_29 : decode cX4_placeOf 29 = .ok (.ifCond .eq 6, 3) := by decide +kernel
theorem dX4_placeOf_32 : decode cX4_placeOf 32 = .ok (.iinc 2 1, 3) := by decide +kernel
theorem dX4_placeOf_35 : decode cX4_placeOf 35 = .ok (.iinc 3 1, 3) := by decide +kernel
theorem dX4_placeOf_38 : decode cX4_placeOf 38 = .ok (.goto (-24), 3) := by decide +kernel
theorem dX4_placeOf_41 : decode cX4_placeOf 41 = .ok (.iload_n 2, 1) := by decide +kernel
theorem dX4_placeOf_42 : decode cX4_placeOf 42 = .ok (.ireturn, 1) := by decide +kernel
theorem dX4_playerOn_0 : decode cX4_playerOn 0 = .ok (.aload_n 0, 1) := by decide +kernel
theorem dX4_playerOn_1 : decode cX4_playerOn 1 = .ok (.iconst (-1), 1) := by decide +kernel
theorem dX4_playerOn_2 : decode cX4_playerOn 2 = .ok (.invokevirtual 30, 3) := by decide +kernel
theorem dX4_playerOn_5 : decode cX4_playerOn 5 = .ok (.istore_n 2, 1) := by decide +kernel
theorem dX4_playerOn_6 : decode cX4_playerOn 6 = .ok (.iconst 1, 1) := by decide +kernel
theorem dX4_playerOn_7 : decode cX4_playerOn 7 = .ok (.istore_n 3, 1) := by decide +kernel
theorem dX4_playerOn_8 : decode cX4_playerOn 8 = .ok (.iload_n 3, 1) := by decide +kernel
theorem dX4_playerOn_9 : decode cX4_playerOn 9 = .ok (.iload_n 1, 1) := by decide +kernel
theorem dX4_playerOn_10 : decode cX4_playerOn 10 = .ok (.if_icmp .ge 20, 3) := by decide +kernel
theorem dX4_playerOn_13 : decode cX4_playerOn 13 = .ok (.iload_n 2, 1) := by decide +kernel
theorem dX4_playerOn_14 : decode cX4_playerOn 14 = .ok (.iconst (-1), 1) := by decide +kernel
theorem dX4_playerOn_15 : decode cX4_playerOn 15 = .ok (.if_icmp .eq 15, 3) := by decide +kernel
theorem dX4_playerOn_18 : decode cX4_playerOn 18 = .ok (.aload_n 0, 1) := by decide +kernel
theorem dX4_playerOn_19 : decode cX4_playerOn 19 = .ok (.iload_n 2, 1) := by decide +kernel
theorem dX4_playerOn_20 : decode cX4_playerOn 20 = .ok (.invokevirtual 30, 3) := by decide +kernel
theorem dX4_playerOn_23 : decode cX4_playerOn 23 = .ok (.istore_n 2, 1) := by decide +kernel
theorem dX4_playerOn_24 : decode cX4_playerOn 24 = .ok (.iinc 3 1, 3) := by decide +kernel
theorem dX4_playerOn_27 : decode cX4_playerOn 27 = .ok (.goto (-19), 3) := by decide +kernel
theorem dX4_playerOn_30 : decode cX4_playerOn 30 = .ok (.iload_n 2, 1) := by decide +kernel
theorem dX4_playerOn_31 : decode cX4_playerOn 31 = .ok (.ireturn, 1) := by decide +kernel
theorem dX4_firstBehind_0 : decode cX4_firstBehind 0 = .ok (.iconst (-1), 1) := by decide +kernel
theorem dX4_firstBehind_1 : decode cX4_firstBehind 1 = .ok (.istore_n 2, 1) := by decide +kernel
theorem dX4_firstBehind_2 : decode cX4_firstBehind 2 = .ok (.iconst 0, 1) := by decide +kernel
theorem dX4_firstBehind_3 : decode cX4_firstBehind 3 = .ok (.istore_n 3, 1) := by decide +kernel
theorem dX4_firstBehind_4 : decode cX4_firstBehind 4 = .ok (.iload_n 3, 1) := by decide +kernel
theorem dX4_firstBehind_5 : decode cX4_firstBehind 5 = .ok (.aload_n 0, 1) := by decide +kernel
theorem dX4_firstBehind_6 : decode cX4_firstBehind 6 = .ok (.getfield 9, 3) := by decide +kernel
theorem dX4_firstBehind_9 : decode cX4_firstBehind 9 = .ok (.arraylength, 1) := by decide +kernel
theorem dX4_firstBehind_10 : decode cX4_firstBehind 10 = .ok (.if_icmp .ge 48, 3) := by decide +kernel
theorem dX4_firstBehind_13 : decode cX4_firstBehind 13 = .ok (.aload_n 0, 1) := by decide +kernel
theorem dX4_firstBehind_14 : decode cX4_firstBehind 14 = .ok (.getfield 9, 3) := by decide +kernel
theorem dX4_firstBehind_17 : decode cX4_firstBehind 17 = .ok (.iload_n 3, 1) := by decide +kernel
theorem dX4_firstBehind_18 : decode cX4_firstBehind 18 = .ok (.iaload, 1) := by decide +kernel
theorem dX4_firstBehind_19 : decode cX4_firstBehind 19 = .ok (.ifCond .le 33, 3) := by decide +kernel
theorem dX4_firstBehind_22 : decode cX4_firstBehind 22 = .ok (.iload_n 1, 1) := by decide +kernel
theorem dX4_firstBehind_23 : decode cX4_firstBehind 23 = .ok (.iconst (-1), 1) := by decide +kernel
theorem dX4_firstBehind_24 : decode cX4_firstBehind 24 = .ok (.if_icmp .eq 12, 3) := by decide +kernel
theorem dX4_firstBehind_27 : decode cX4_firstBehind 27 = .ok (.aload_n 0, 1) := by decide +kernel
theorem dX4_firstBehind_28 : decode cX4_firstBehind 28 = .ok (.iload_n 1, 1) := by decide +kernel
theorem dX4_firstBehind_29 : decode cX4_firstBehind 29 = .ok (.iload_n 3, 1) := by decide +kernel
theorem dX4_firstBehind_30 : decode cX4_firstBehind 30 = .ok (.invokevirtual 26, 3) := by decide +kernel
theorem dX4_firstBehind_33 : decode cX4_firstBehind 33 = .ok (.ifCond .eq 19, 3) := by decide +kernel
theorem dX4_firstBehind_36 : decode cX4_firstBehind 36 = .ok (.iload_n 2, 1) := by decide +kernel
theorem dX4_firstBehind_37 : decode cX4_firstBehind 37 = .ok (.iconst (-1), 1) := by decide +kernel
theorem dX4_firstBehind_38 : decode cX4_firstBehind 38 = .ok (.if_icmp .eq 12, 3) := by decide +kernel
theorem dX4_firstBehind_41 : decode cX4_firstBehind 41 = .ok (.aload_n 0, 1) := by decide +kernel
theorem dX4_firstBehind_42 : decode cX4_firstBehind 42 = .ok (.iload_n 3, 1) := by decide +kernel
theorem dX4_firstBehind_43 : decode cX4_firstBehind 43 = .ok (.iload_n 2, 1) := by decide +kernel
theorem dX4_firstBehind_44 : decode cX4_firstBehind 44 = .ok (.invokevirtual 26, 3) := by decide +kernel
theorem dX4_firstBehind_47 : decode cX4_firstBehind 47 = .ok (.ifCond .eq 5, 3) := by decide +kernel
theorem dX4_firstBehind_50 : decode cX4_firstBehind 50 = .ok (.iload_n 3, 1) := by decide +kernel
theorem dX4_firstBehind_51 : decode cX4_firstBehind 51 = .ok (.istore_n 2, 1) := by decide +kernel
theorem dX4_firstBehind_52 : decode cX4_firstBehind 52 = .ok (.iinc 3 1, 3) := by decide +kernel
theorem dX4_firstBehind_55 : decode cX4_firstBehind 55 = .ok (.goto (-51), 3) := by decide +kernel
theorem dX4_firstBehind_58 : decode cX4_firstBehind 58 = .ok (.iload_n 2, 1) := by decide +kernel
theorem dX4_firstBehind_59 : decode cX4_firstBehind 59 = .ok (.ireturn, 1) := by decide +kernel
theorem dX4_isAhead_0 : decode cX4_isAhead 0 = .ok (.aload_n 0, 1) := by decide +kernel
theorem dX4_isAhead_1 : decode cX4_isAhead 1 = .ok (.iload_n 1, 1) := by decide +kernel
theorem dX4_isAhead_2 : decode cX4_isAhead 2 = .ok (.invokevirtual 22, 3) := by decide +kernel
theorem dX4_isAhead_5 : decode cX4_isAhead 5 = .ok (.aload_n 0, 1) := by decide +kernel
theorem dX4_isAhead_6 : decode cX4_isAhead 6 = .ok (.iload_n 2, 1) := by decide +kernel
theorem dX4_isAhead_7 : decode cX4_isAhead 7 = .ok (.invokevirtual 22, 3) := by decide +kernel
theorem dX4_isAhead_10 : decode cX4_isAhead 10 = .ok (.isub, 1) := by decide +kernel
theorem dX4_isAhead_11 : decode cX4_isAhead 11 = .ok (.istore_n 3, 1) := by decide +kernel
theorem dX4_isAhead_12 : decode cX4_isAhead 12 = .ok (.iload_n 3, 1) := by decide +kernel
theorem dX4_isAhead_13 : decode cX4_isAhead 13 = .ok (.ifCond .eq 13, 3) := by decide +kernel
theorem dX4_isAhead_16 : decode cX4_isAhead 16 = .ok (.iload_n 3, 1) := by decide +kernel
theorem dX4_isAhead_17 : decode cX4_isAhead 17 = .ok (.ifCond .le 7, 3) := by decide +kernel
theorem dX4_isAhead_20 : decode cX4_isAhead 20 = .ok (.iconst 1, 1) := by decide +kernel
theorem dX4_isAhead_21 : decode cX4_isAhead 21 = .ok (.goto 4, 3) := by decide +kernel
theorem dX4_isAhead_24 : decode cX4_isAhead 24 = .ok (.iconst 0, 1) := by decide +kernel
theorem dX4_isAhead_25 : decode cX4_isAhead 25 = .ok (.ireturn, 1) := by decide +kernel
theorem dX4_isAhead_26 : decode cX4_isAhead 26 = .ok (.aload_n 0, 1) := by decide +kernel
theorem dX4_isAhead_27 : decode cX4_isAhead 27 = .ok (.iload_n 1, 1) := by decide +kernel
theorem dX4_isAhead_28 : decode cX4_isAhead 28 = .ok (.invokevirtual 33, 3) := by decide +kernel
theorem dX4_isAhead_31 : decode cX4_isAhead 31 = .ok (.aload_n 0, 1) := by decide +kernel
theorem dX4_isAhead_32 : decode cX4_isAhead 32 = .ok (.iload_n 2, 1) := by decide +kernel
theorem dX4_isAhead_33 : decode cX4_isAhead 33 = .ok (.invokevirtual 33, 3) := by decide +kernel
theorem dX4_isAhead_36 : decode cX4_isAhead 36 = .ok (.isub, 1) := by decide +kernel
theorem dX4_isAhead_37 : decode cX4_isAhead 37 = .ok (.istore 4, 2) := by decide +kernel
theorem dX4_isAhead_39 : decode cX4_isAhead 39 = .ok (.iload 4, 2) := by decide +kernel
theorem dX4_isAhead_41 : decode cX4_isAhead 41 = .ok (.ifCond .eq 14, 3) := by decide +kernel
theorem dX4_isAhead_44 : decode cX4_isAhead 44 = .ok (.iload 4, 2) := by decide +kernel
theorem dX4_isAhead_46 : decode cX4_isAhead 46 = .ok (.ifCond .ge 7, 3) := by decide +kernel
theorem dX4_isAhead_49 : decode cX4_isAhead 49 = .ok (.iconst 1, 1) := by decide +kernel
theorem dX4_isAhead_50 : decode cX4_isAhead 50 = .ok (.goto 4, 3) := by decide +kernel
theorem dX4_isAhead_53 : decode cX4_isAhead 53 = .ok (.iconst 0, 1) := by decide +kernel
theorem dX4_isAhead_54 : decode cX4_isAhead 54 = .ok (.ireturn, 1) := by decide +kernel
theorem dX4_isAhead_55 : decode cX4_isAhead 55 = .ok (.iload_n 1, 1) := by decide +kernel
theorem dX4_isAhead_56 : decode cX4_isAhead 56 = .ok (.iload_n 2, 1) := by decide +kernel
theorem dX4_isAhead_57 : decode cX4_isAhead 57 = .ok (.if_icmp .ge 7, 3) := by decide +kernel
theorem dX4_isAhead_60 : decode cX4_isAhead 60 = .ok (.iconst 1, 1) := by decide +kernel
theorem dX4_isAhead_61 : decode cX4_isAhead 61 = .ok (.goto 4, 3) := by decide +kernel
theorem dX4_isAhead_64 : decode cX4_isAhead 64 = .ok (.iconst 0, 1) := by decide +kernel
theorem dX4_isAhead_65 : decode cX4_isAhead 65 = .ok (.ireturn, 1) := by decide +kernel
theorem dX5_init_0 : decode cX5_init 0 = .ok (.aload_n 0, 1) := by decide +kernel
theorem dX5_init_1 : decode cX5_init 1 = .ok (.invokespecial 3, 3) := by decide +kernel
theorem dX5_init_4 : decode cX5_init 4 = .ok (.aload_n 0, 1) := by decide +kernel
theorem dX5_init_5 : decode cX5_init 5 = .ok (.bipush 20, 2) := by decide +kernel
theorem dX5_init_7 : decode cX5_init 7 = .ok (.anewarray 9, 3) := by decide +kernel
theorem dX5_init_10 : decode cX5_init 10 = .ok (.putfield 11, 3) := by decide +kernel
theorem dX5_init_13 : decode cX5_init 13 = .ok (.aload_n 0, 1) := by decide +kernel
theorem dX5_init_14 : decode cX5_init 14 = .ok (.iload_n 1, 1) := by decide +kernel
theorem dX5_init_15 : decode cX5_init 15 = .ok (.putfield 17, 3) := by decide +kernel
theorem dX5_init_18 : decode cX5_init 18 = .ok (.aload_n 0, 1) := by decide +kernel
theorem dX5_init_19 : decode cX5_init 19 = .ok (.aload_n 2, 1) := by decide +kernel
theorem dX5_init_20 : decode cX5_init 20 = .ok (.putfield 21, 3) := by decide +kernel
theorem dX5_init_23 : decode cX5_init 23 = .ok (.aload_n 0, 1) := by decide +kernel
theorem dX5_init_24 : decode cX5_init 24 = .ok (.iload_n 3, 1) := by decide +kernel
theorem dX5_init_25 : decode cX5_init 25 = .ok (.putfield 25, 3) := by decide +kernel
theorem dX5_init_28 : decode cX5_init 28 = .ok (.aload_n 0, 1) := by decide +kernel
theorem dX5_init_29 : decode cX5_init 29 = .ok (.aload 4, 2) := by decide +kernel
theorem dX5_init_31 : decode cX5_init 31 = .ok (.putfield 28, 3) := by decide +kernel
theorem dX5_init_34 : decode cX5_init 34 = .ok (.aload_n 0, 1) := by decide +kernel
theorem dX5_init_35 : decode cX5_init 35 = .ok (.aload 4, 2) := by decide +kernel
theorem dX5_init_37 : decode cX5_init 37 = .ok (.putfield 32, 3) := by decide +kernel
theorem dX5_init_40 : decode cX5_init 40 = .ok (.return_, 1) := by decide +kernel
theorem dX5_isGood_0 : decode cX5_isGood 0 = .ok (.aload_n 0, 1) := by decide +kernel
theorem dX5_isGood_1 : decode cX5_isGood 1 = .ok (.getfield 35, 3) := by decide +kernel
theorem dX5_isGood_4 : decode cX5_isGood 4 = .ok (.ifnull 7, 3) := by decide +kernel
theorem dX5_isGood_7 : decode cX5_isGood 7 = .ok (.iconst 1, 1) := by decide +kernel
theorem dX5_isGood_8 : decode cX5_isGood 8 = .ok (.goto 4, 3) := by decide +kernel
theorem dX5_isGood_11 : decode cX5_isGood 11 = .ok (.iconst 0, 1) := by decide +kernel
theorem dX5_isGood_12 : decode cX5_isGood 12 = .ok (.ireturn, 1) := by decide +kernel
theorem dX5_isSoldOften_0 : decode cX5_isSoldOften 0 = .ok (.aload_n 0, 1) := by decide +kernel
theorem dX5_isSoldOften_1 : decode cX5_isSoldOften 1 = .ok (.getfield 39, 3) := by decide +kernel
theorem dX5_isSoldOften_4 : decode cX5_isSoldOften 4 = .ok (.aload_n 0, 1) := by decide +kernel
theorem dX5_isSoldOften_5 : decode cX5_isSoldOften 5 = .ok (.getfield 11, 3) := by decide +kernel
theorem dX5_isSoldOften_8 : decode cX5_isSoldOften 8 = .ok (.arraylength, 1) := by decide +kernel
theorem dX5_isSoldOften_9 : decode cX5_isSoldOften 9 = .ok (.if_icmp .lt 7, 3) := by decide +kernel
theorem dX5_isSoldOften_12 : decode cX5_isSoldOften 12 = .ok (.iconst 1, 1) := by decide +kernel
theorem dX5_isSoldOften_13 : decode cX5_isSoldOften 13 = .ok (.goto 4, 3) := by decide +kernel
theorem dX5_isSoldOften_16 : decode cX5_isSoldOften 16 = .ok (.iconst 0, 1) := by decide +kernel
theorem dX5_isSoldOften_17 : decode cX5_isSoldOften 17 = .ok (.ireturn, 1) := by decide +kernel
theorem dX5_userOn_0 : decode cX5_userOn 0 = .ok (.aload_n 0, 1) := by decide +kernel
theorem dX5_userOn_1 : decode cX5_userOn 1 = .ok (.getfield 42, 3) := by decide +kernel
theorem dX5_userOn_4 : decode cX5_userOn 4 = .ok (.ifnull 18, 3) := by decide +kernel
theorem dX5_userOn_7 : decode cX5_userOn 7 = .ok (.iload_n 1, 1) := by decide +kernel
theorem dX5_userOn_8 : decode cX5_userOn 8 = .ok (.aload_n 0, 1) := by decide +kernel
theorem dX5_userOn_9 : decode cX5_userOn 9 = .ok (.getfield 45, 3) := by decide +kernel
theorem dX5_userOn_12 : decode cX5_userOn 12 = .ok (.if_icmp .gt 10, 3) := by decide +kernel
theorem dX5_userOn_15 : decode cX5_userOn 15 = .ok (.aload_n 0, 1) := by decide +kernel
theorem dX5_userOn_16 : decode cX5_userOn 16 = .ok (.getfield 42, 3) := by decide +kernel
theorem dX5_userOn_19 : decode cX5_userOn 19 = .ok (.goto 7, 3) := by decide +kernel
theorem dX5_userOn_22 : decode cX5_userOn 22 = .ok (.aload_n 0, 1) := by decide +kernel
theorem dX5_userOn_23 : decode cX5_userOn 23 = .ok (.getfield 32, 3) := by decide +kernel
theorem dX5_userOn_26 : decode cX5_userOn 26 = .ok (.areturn, 1) := by decide +kernel
theorem dX5_sellTo_0 : decode cX5_sellTo 0 = .ok (.aload_n 0, 1) := by decide +kernel
theorem dX5_sellTo_1 : decode cX5_sellTo 1 = .ok (.invokevirtual 48, 3) := by decide +kernel
theorem dX5_sellTo_4 : decode cX5_sellTo 4 = .ok (.ifCond .eq 5, 3) := by decide +kernel
theorem dX5_sellTo_7 : decode cX5_sellTo 7 = .ok (.iconst 0, 1) := by decide +kernel
theorem dX5_sellTo_8 : decode cX5_sellTo 8 = .ok (.ireturn, 1) := by decide +kernel
theorem dX5_sellTo_9 : decode cX5_sellTo 9 = .ok (.new 9, 3) := by decide +kernel
theorem dX5_sellTo_12 : decode cX5_sellTo 12 = .ok (.dup, 1) := by decide +kernel
theorem dX5_sellTo_13 : decode cX5_sellTo 13 = .ok (.aload_n 0, 1) := by decide +kernel
theorem dX5_sellTo_14 : decode cX5_sellTo 14 = .ok (.getfield 32, 3) := by decide +kernel
theorem dX5_sellTo_17 : decode cX5_sellTo 17 = .ok (.aload_n 1, 1) := by decide +kernel
theorem dX5_sellTo_18 : decode cX5_sellTo 18 = .ok (.iload_n 2, 1) := by decide +kernel
theorem dX5_sellTo_19 : decode cX5_sellTo 19 = .ok (.invokespecial 52, 3) := by decide +kernel
theorem dX5_sellTo_22 : decode cX5_sellTo 22 = .ok (.astore_n 3, 1) := by decide +kernel
theorem dX5_sellTo_23 : decode cX5_sellTo 23 = .ok (.aload_n 3, 1) := by decide +kernel
theorem dX5_sellTo_24 : decode cX5_sellTo 24 = .ok (.invokevirtual 55, 3) := by decide +kernel
theorem dX5_sellTo_27 : decode cX5_sellTo 27 = .ok (.istore 4, 2) := by decide +kernel
theorem dX5_sellTo_29 : decode cX5_sellTo 29 = .ok (.iload 4, 2) := by decide +kernel
theorem dX5_sellTo_31 : decode cX5_sellTo 31 = .ok (.ifCond .eq 15, 3) := by decide +kernel
theorem dX5_sellTo_34 : decode cX5_sellTo 34 = .ok (.aload_n 0, 1) := by decide +kernel
theorem dX5_sellTo_35 : decode cX5_sellTo 35 = .ok (.getfield 35, 3) := by decide +kernel
theorem dX5_sellTo_38 : decode cX5_sellTo 38 = .ok (.ifnonnull 8, 3) := by decide +kernel
theorem dX5_sellTo_41 : decode cX5_sellTo 41 = .ok (.aload_n 0, 1) := by decide +kernel
theorem dX5_sellTo_42 : decode cX5_sellTo 42 = .ok (.aload_n 3, 1) := by decide +kernel
theorem dX5_sellTo_43 : decode cX5_sellTo 43 = .ok (.putfield 35, 3) := by decide +kernel
theorem dX5_sellTo_46 : decode cX5_sellTo 46 = .ok (.aload_n 0, 1) := by decide +kernel
theorem dX5_sellTo_47 : decode cX5_sellTo 47 = .ok (.getfield 11, 3) := by decide +kernel
theorem dX5_sellTo_50 : decode cX5_sellTo 50 = .ok (.aload_n 0, 1) := by decide +kernel
theorem dX5_sellTo_51 : decode cX5_sellTo 51 = .ok (.getfield 39, 3) := by decide +kernel
theorem dX5_sellTo_54 : decode cX5_sellTo 54 = .ok (.aload_n 3, 1) := by decide +kernel
theorem dX5_sellTo_55 : decode cX5_sellTo 55 = .ok (.aastore, 1) := by decide +kernel
theorem dX5_sellTo_56 : decode cX5_sellTo 56 = .ok (.aload_n 0, 1) := by decide +kernel
theorem dX5_sellTo_57 : decode cX5_sellTo 57 = .ok (.dup, 1) := by decide +kernel
theorem dX5_sellTo_58 : decode cX5_sellTo 58 = .ok (.getfield 39, 3) := by decide +kernel
theorem dX5_sellTo_61 : decode cX5_sellTo 61 = .ok (.iconst 1, 1) := by decide +kernel
theorem dX5_sellTo_62 : decode cX5_sellTo 62 = .ok (.iadd, 1) := by decide +kernel
theorem dX5_sellTo_63 : decode cX5_sellTo 63 = .ok (.putfield 39, 3) := by decide +kernel
theorem dX5_sellTo_66 : decode cX5_sellTo 66 = .ok (.aload_n 1, 1) := by decide +kernel
theorem dX5_sellTo_67 : decode cX5_sellTo 67 = .ok (.aload_n 0, 1) := by decide +kernel
theorem dX5_sellTo_68 : decode cX5_sellTo 68 = .ok (.getfield 32, 3) := by decide +kernel
theorem dX5_sellTo_71 : decode cX5_sellTo 71 = .ok (.iload_n 2, 1) := by decide +kernel
theorem dX5_sellTo_72 : decode cX5_sellTo 72 = .ok (.invokestatic 58, 3) := by decide +kernel
theorem dX5_sellTo_75 : decode cX5_sellTo 75 = .ok (.aload_n 0, 1) := by decide +kernel
theorem dX5_sellTo_76 : decode cX5_sellTo 76 = .ok (.aload_n 1, 1) := by decide +kernel
theorem dX5_sellTo_77 : decode cX5_sellTo 77 = .ok (.putfield 32, 3) := by decide +kernel
theorem dX5_sellTo_80 : decode cX5_sellTo 80 = .ok (.aload_n 0, 1) := by decide +kernel
theorem dX5_sellTo_81 : decode cX5_sellTo 81 = .ok (.aconst_null, 1) := by decide +kernel
theorem dX5_sellTo_82 : decode cX5_sellTo 82 = .ok (.putfield 42, 3) := by decide +kernel
theorem dX5_sellTo_85 : decode cX5_sellTo 85 = .ok (.iload 4, 2) := by decide +kernel
theorem dX5_sellTo_87 : decode cX5_sellTo 87 = .ok (.ireturn, 1) := by decide +kernel
theorem dX5_passTo_0 : decode cX5_passTo 0 = .ok (.aload_n 1, 1) := by decide +kernel
theorem dX5_passTo_1 : decode cX5_passTo 1 = .ok (.aload_n 0, 1) := by decide +kernel
theorem dX5_passTo_2 : decode cX5_passTo 2 = .ok (.getfield 28, 3) := by decide +kernel
theorem dX5_passTo_5 : decode cX5_passTo 5 = .ok (.if_acmp .ne 4, 3) := by decide +kernel
theorem dX5_passTo_8 : decode cX5_passTo 8 = .ok (.return_, 1) := by decide +kernel
theorem dX5_passTo_9 : decode cX5_passTo 9 = .ok (.aload_n 0, 1) := by decide +kernel
theorem dX5_passTo_10 : decode cX5_passTo 10 = .ok (.getfield 35, 3) := by decide +kernel
theorem dX5_passTo_13 : decode cX5_passTo 13 = .ok (.ifnull 21, 3) := by decide +kernel
theorem dX5_passTo_16 : decode cX5_passTo 16 = .ok (.aload_n 0, 1) := by decide +kernel
theorem dX5_passTo_17 : decode cX5_passTo 17 = .ok (.getfield 28, 3) := by decide +kernel
theorem dX5_passTo_20 : decode cX5_passTo 20 = .ok (.aload_n 1, 1) := by decide +kernel
theorem dX5_passTo_21 : decode cX5_passTo 21 = .ok (.aload_n 0, 1) := by decide +kernel
theorem dX5_passTo_22 : decode cX5_passTo 22 = .ok (.getfield 35, 3) := by decide +kernel
theorem dX5_passTo_25 : decode cX5_passTo 25 = .ok (.getfield 61, 3) := by decide +kernel
theorem dX5_passTo_28 : decode cX5_passTo 28 = .ok (.invokestatic 58, 3) := by decide +kernel
theorem dX5_passTo_31 : decode cX5_passTo 31 = .ok (.goto 17, 3) := by decide +kernel
theorem dX5_passTo_34 : decode cX5_passTo 34 = .ok (.aload_n 0, 1) := by decide +kernel
theorem dX5_passTo_35 : decode cX5_passTo 35 = .ok (.invokevirtual 64, 3) := by decide +kernel
theorem dX5_passTo_38 : decode cX5_passTo 38 = .ok (.aload_n 0, 1) := by decide +kernel
theorem dX5_passTo_39 : decode cX5_passTo 39 = .ok (.aload_n 1, 1) := by decide +kernel
theorem dX5_passTo_40 : decode cX5_passTo 40 = .ok (.putfield 32, 3) := by decide +kernel
theorem dX5_passTo_43 : decode cX5_passTo 43 = .ok (.aload_n 0, 1) := by decide +kernel
theorem dX5_passTo_44 : decode cX5_passTo 44 = .ok (.aconst_null, 1) := by decide +kernel
theorem dX5_passTo_45 : decode cX5_passTo 45 = .ok (.putfield 42, 3) := by decide +kernel
theorem dX5_passTo_48 : decode cX5_passTo 48 = .ok (.aload_n 0, 1) := by decide +kernel
theorem dX5_passTo_49 : decode cX5_passTo 49 = .ok (.aload_n 1, 1) := by decide +kernel
theorem dX5_passTo_50 : decode cX5_passTo 50 = .ok (.putfield 28, 3) := by decide +kernel
theorem dX5_passTo_53 : decode cX5_passTo 53 = .ok (.return_, 1) := by decide +kernel
theorem dX5_undoSales_0 : decode cX5_undoSales 0 = .ok (.aload_n 0, 1) := by decide +kernel
theorem dX5_undoSales_1 : decode cX5_undoSales 1 = .ok (.getfield 11, 3) := by decide +kernel
theorem dX5_undoSales_4 : decode cX5_undoSales 4 = .ok (.arraylength, 1) := by decide +kernel
theorem dX5_undoSales_5 : decode cX5_undoSales 5 = .ok (.iconst 1, 1) := by decide +kernel
theorem dX5_undoSales_6 : decode cX5_undoSales 6 = .ok (.isub, 1) := by decide +kernel
theorem dX5_undoSales_7 : decode cX5_undoSales 7 = .ok (.istore_n 1, 1) := by decide +kernel
theorem dX5_undoSales_8 : decode cX5_undoSales 8 = .ok (.iload_n 1, 1) := by decide +kernel
theorem dX5_undoSales_9 : decode cX5_undoSales 9 = .ok (.ifCond .lt 42, 3) := by decide +kernel
theorem dX5_undoSales_12 : decode cX5_undoSales 12 = .ok (.aload_n 0, 1) := by decide +kernel
theorem dX5_undoSales_13 : decode cX5_undoSales 13 = .ok (.getfield 11, 3) := by decide +kernel
theorem dX5_undoSales_16 : decode cX5_undoSales 16 = .ok (.iload_n 1, 1) := by decide +kernel
theorem dX5_undoSales_17 : decode cX5_undoSales 17 = .ok (.aaload, 1) := by decide +kernel
theorem dX5_undoSales_18 : decode cX5_undoSales 18 = .ok (.astore_n 2, 1) := by decide +kernel
theorem dX5_undoSales_19 : decode cX5_undoSales 19 = .ok (.aload_n 2, 1) := by decide +kernel
theorem dX5_undoSales_20 : decode cX5_undoSales 20 = .ok (.ifnull 25, 3) := by decide +kernel
theorem dX5_undoSales_23 : decode cX5_undoSales 23 = .ok (.aload_n 2, 1) := by decide +kernel
theorem dX5_undoSales_24 : decode cX5_undoSales 24 = .ok (.getfield 67, 3) := by decide +kernel
theorem dX5_undoSales_27 : decode cX5_undoSales 27 = .ok (.aload_n 2, 1) := by decide +kernel
theorem dX5_undoSales_28 : decode cX5_undoSales 28 = .ok (.getfield 70, 3) := by decide +kernel
theorem dX5_undoSales_31 : decode cX5_undoSales 31 = .ok (.aload_n 2, 1) := by decide +kernel
theorem dX5_undoSales_32 : decode cX5_undoSales 32 = .ok (.getfield 61, 3) := by decide +kernel
theorem dX5_undoSales_35 : decode cX5_undoSales 35 = .ok (.invokestatic 58, 3) := by decide +kernel
theorem dX5_undoSales_38 : decode cX5_undoSales 38 = .ok (.aload_n 0, 1) := by decide +kernel
theorem dX5_undoSales_39 : decode cX5_undoSales 39 = .ok (.getfield 11, 3) := by decide +kernel
theorem dX5_undoSales_42 : decode cX5_undoSales 42 = .ok (.iload_n 1, 1) := by decide +kernel
theorem dX5_undoSales_43 : decode cX5_undoSales 43 = .ok (.aconst_null, 1) := by decide +kernel
theorem dX5_undoSales_44 : decode cX5_undoSales 44 = .ok (.aastore, 1) := by decide +kernel
theorem dX5_undoSales_45 : decode cX5_undoSales 45 = .ok (.iinc 1 (-1), 3) := by decide +kernel
theorem dX5_undoSales_48 : decode cX5_undoSales 48 = .ok (.goto (-40), 3) := by decide +kernel
theorem dX5_undoSales_51 : decode cX5_undoSales 51 = .ok (.aload_n 0, 1) := by decide +kernel
theorem dX5_undoSales_52 : decode cX5_undoSales 52 = .ok (.iconst 0, 1) := by decide +kernel
theorem dX5_undoSales_53 : decode cX5_undoSales 53 = .ok (.putfield 39, 3) := by decide +kernel
theorem dX5_undoSales_56 : decode cX5_undoSales 56 = .ok (.return_, 1) := by decide +kernel
theorem dX5_pay_0 : decode cX5_pay 0 = .ok (.aload_n 0, 1) := by decide +kernel
theorem dX5_pay_1 : decode cX5_pay 1 = .ok (.ifnull 27, 3) := by decide +kernel
theorem dX5_pay_4 : decode cX5_pay 4 = .ok (.aload_n 1, 1) := by decide +kernel
theorem dX5_pay_5 : decode cX5_pay 5 = .ok (.ifnull 23, 3) := by decide +kernel
theorem dX5_pay_8 : decode cX5_pay 8 = .ok (.aload_n 0, 1) := by decide +kernel
theorem dX5_pay_9 : decode cX5_pay 9 = .ok (.dup, 1) := by decide +kernel
theorem dX5_pay_10 : decode cX5_pay 10 = .ok (.getfield 73, 3) := by decide +kernel
theorem dX5_pay_13 : decode cX5_pay 13 = .ok (.iload_n 2, 1) := by decide +kernel
theorem dX5_pay_14 : decode cX5_pay 14 = .ok (.isub, 1) := by decide +kernel
theorem dX5_pay_15 : decode cX5_pay 15 = .ok (.putfield 73, 3) := by decide +kernel
theorem dX5_pay_18 : decode cX5_pay 18 = .ok (.aload_n 1, 1) := by decide +kernel
theorem dX5_pay_19 : decode cX5_pay 19 = .ok (.dup, 1) := by decide +kernel
theorem dX5_pay_20 : decode cX5_pay 20 = .ok (.getfield 73, 3) := by decide +kernel
theorem dX5_pay_23 : decode cX5_pay 23 = .ok (.iload_n 2, 1) := by decide +kernel
theorem dX5_pay_24 : decode cX5_pay 24 = .ok (.iadd, 1) := by decide +kernel
theorem dX5_pay_25 : decode cX5_pay 25 = .ok (.putfield 73, 3) := by decide +kernel
theorem dX5_pay_28 : decode cX5_pay 28 = .ok (.return_, 1) := by decide +kernel
theorem dX5_writeLabel_0 : decode cX5_writeLabel 0 = .ok (.aload_n 1, 1) := by decide +kernel
theorem dX5_writeLabel_1 : decode cX5_writeLabel 1 = .ok (.aload_n 0, 1) := by decide +kernel
theorem dX5_writeLabel_2 : decode cX5_writeLabel 2 = .ok (.getfield 17, 3) := by decide +kernel
theorem dX5_writeLabel_5 : decode cX5_writeLabel 5 = .ok (.invokevirtual 78, 3) := by decide +kernel
theorem dX5_writeLabel_8 : decode cX5_writeLabel 8 = .ok (.pop, 1) := by decide +kernel
theorem dX5_writeLabel_9 : decode cX5_writeLabel 9 = .ok (.aload_n 1, 1) := by decide +kernel
theorem dX5_writeLabel_10 : decode cX5_writeLabel 10 = .ok (.bipush 58, 2) := by decide +kernel
theorem dX5_writeLabel_12 : decode cX5_writeLabel 12 = .ok (.invokevirtual 84, 3) := by decide +kernel
theorem dX5_writeLabel_15 : decode cX5_writeLabel 15 = .ok (.pop, 1) := by decide +kernel
theorem dX5_writeLabel_16 : decode cX5_writeLabel 16 = .ok (.aload_n 1, 1) := by decide +kernel
theorem dX5_writeLabel_17 : decode cX5_writeLabel 17 = .ok (.aload_n 0, 1) := by decide +kernel
theorem dX5_writeLabel_18 : decode cX5_writeLabel 18 = .ok (.getfield 21, 3) := by decide +kernel
theorem dX5_writeLabel_21 : decode cX5_writeLabel 21 = .ok (.getfield 87, 3) := by decide +kernel
theorem dX5_writeLabel_24 : decode cX5_writeLabel 24 = .ok (.invokevirtual 78, 3) := by decide +kernel
theorem dX5_writeLabel_27 : decode cX5_writeLabel 27 = .ok (.pop, 1) := by decide +kernel
theorem dX5_writeLabel_28 : decode cX5_writeLabel 28 = .ok (.aload_n 1, 1) := by decide +kernel
theorem dX5_writeLabel_29 : decode cX5_writeLabel 29 = .ok (.bipush 47, 2) := by decide +kernel
theorem dX5_writeLabel_31 : decode cX5_writeLabel 31 = .ok (.invokevirtual 84, 3) := by decide +kernel
theorem dX5_writeLabel_34 : decode cX5_writeLabel 34 = .ok (.pop, 1) := by decide +kernel
theorem dX5_writeLabel_35 : decode cX5_writeLabel 35 = .ok (.aload_n 1, 1) := by decide +kernel
theorem dX5_writeLabel_36 : decode cX5_writeLabel 36 = .ok (.aload_n 0, 1) := by decide +kernel
theorem dX5_writeLabel_37 : decode cX5_writeLabel 37 = .ok (.getfield 25, 3) := by decide +kernel
theorem dX5_writeLabel_40 : decode cX5_writeLabel 40 = .ok (.invokevirtual 78, 3) := by decide +kernel
theorem dX5_writeLabel_43 : decode cX5_writeLabel 43 = .ok (.pop, 1) := by decide +kernel
theorem dX5_writeLabel_44 : decode cX5_writeLabel 44 = .ok (.aload_n 0, 1) := by decide +kernel
theorem dX5_writeLabel_45 : decode cX5_writeLabel 45 = .ok (.getfield 32, 3) := by decide +kernel
theorem dX5_writeLabel_48 : decode cX5_writeLabel 48 = .ok (.ifnull 22, 3) := by decide +kernel
theorem dX5_writeLabel_51 : decode cX5_writeLabel 51 = .ok (.aload_n 1, 1) := by decide +kernel
theorem dX5_writeLabel_52 : decode cX5_writeLabel 52 = .ok (.bipush 64, 2) := by decide +kernel
theorem dX5_writeLabel_54 : decode cX5_writeLabel 54 = .ok (.invokevirtual 84, 3) := by decide +kernel
theorem dX5_writeLabel_57 : decode cX5_writeLabel 57 = .ok (.pop, 1) := by decide +kernel
theorem dX5_writeLabel_58 : decode cX5_writeLabel 58 = .ok (.aload_n 1, 1) := by decide +kernel
theorem dX5_writeLabel_59 : decode cX5_writeLabel 59 = .ok (.aload_n 0, 1) := by decide +kernel
theorem dX5_writeLabel_60 : decode cX5_writeLabel 60 = .ok (.getfield 32, 3) := by decide +kernel
theorem dX5_writeLabel_63 : decode cX5_writeLabel 63 = .ok (.getfield 90, 3) := by decide +kernel
theorem dX5_writeLabel_66 : decode cX5_writeLabel 66 = .ok (.invokevirtual 78, 3) := by decide +kernel
theorem dX5_writeLabel_69 : decode cX5_writeLabel 69 = .ok (.pop, 1) := by decide +kernel
theorem dX5_writeLabel_70 : decode cX5_writeLabel 70 = .ok (.return_, 1) := by decide +kernel
theorem dX6_init_0 : decode cX6_init 0 = .ok (.aload_n 0, 1) := by decide +kernel
theorem dX6_init_1 : decode cX6_init 1 = .ok (.invokespecial 1, 3) := by decide +kernel
theorem dX6_init_4 : decode cX6_init 4 = .ok (.aload_n 0, 1) := by decide +kernel
theorem dX6_init_5 : decode cX6_init 5 = .ok (.bipush 16, 2) := by decide +kernel
theorem dX6_init_7 : decode cX6_init 7 = .ok (.anewarray 9, 3) := by decide +kernel
theorem dX6_init_10 : decode cX6_init 10 = .ok (.putfield 11, 3) := by decide +kernel
theorem dX6_init_13 : decode cX6_init 13 = .ok (.aload_n 0, 1) := by decide +kernel
theorem dX6_init_14 : decode cX6_init 14 = .ok (.bipush 100, 2) := by decide +kernel
theorem dX6_init_16 : decode cX6_init 16 = .ok (.anewarray 15, 3) := by decide +kernel
theorem dX6_init_19 : decode cX6_init 19 = .ok (.putfield 17, 3) := by decide +kernel
theorem dX6_init_22 : decode cX6_init 22 = .ok (.aload_n 0, 1) := by decide +kernel
theorem dX6_init_23 : decode cX6_init 23 = .ok (.bipush 12, 2) := by decide +kernel
theorem dX6_init_25 : decode cX6_init 25 = .ok (.anewarray 21, 3) := by decide +kernel
theorem dX6_init_28 : decode cX6_init 28 = .ok (.putfield 23, 3) := by decide +kernel
theorem dX6_init_31 : decode cX6_init 31 = .ok (.aload_n 0, 1) := by decide +kernel
theorem dX6_init_32 : decode cX6_init 32 = .ok (.bipush 36, 2) := by decide +kernel
theorem dX6_init_34 : decode cX6_init 34 = .ok (.anewarray 27, 3) := by decide +kernel
theorem dX6_init_37 : decode cX6_init 37 = .ok (.putfield 29, 3) := by decide +kernel
theorem dX6_init_40 : decode cX6_init 40 = .ok (.aload_n 0, 1) := by decide +kernel
theorem dX6_init_41 : decode cX6_init 41 = .ok (.iconst 4, 1) := by decide +kernel
theorem dX6_init_42 : decode cX6_init 42 = .ok (.anewarray 33, 3) := by decide +kernel
theorem dX6_init_45 : decode cX6_init 45 = .ok (.putfield 35, 3) := by decide +kernel
theorem dX6_init_48 : decode cX6_init 48 = .ok (.iconst 0, 1) := by decide +kernel
theorem dX6_init_49 : decode cX6_init 49 = .ok (.istore_n 1, 1) := by decide +kernel
theorem dX6_init_50 : decode cX6_init 50 = .ok (.iload_n 1, 1) := by decide +kernel
theorem dX6_init_51 : decode cX6_init 51 = .ok (.aload_n 0, 1) := by decide +kernel
theorem dX6_init_52 : decode cX6_init 52 = .ok (.getfield 35, 3) := by decide +kernel
theorem dX6_init_55 : decode cX6_init 55 = .ok (.arraylength, 1) := by decide +kernel
theorem dX6_init_56 : decode cX6_init 56 = .ok (.if_icmp .ge 22, 3) := by decide +kernel
theorem dX6_init_59 : decode cX6_init 59 = .ok (.aload_n 0, 1) := by decide +kernel
theorem dX6_init_60 : decode cX6_init 60 = .ok (.getfield 35, 3) := by decide +kernel
theorem dX6_init_63 : decode cX6_init 63 = .ok (.iload_n 1, 1) := by decide +kernel
theorem dX6_init_64 : decode cX6_init 64 = .ok (.new 33, 3) := by decide +kernel
theorem dX6_init_67 : decode cX6_init 67 = .ok (.dup, 1) := by decide +kernel
theorem dX6_init_68 : decode cX6_init 68 = .ok (.invokespecial 39, 3) := by decide +kernel
theorem dX6_init_71 : decode cX6_init 71 = .ok (.aastore, 1) := by decide +kernel
theorem dX6_init_72 : decode cX6_init 72 = .ok (.iinc 1 1, 3) := by decide +kernel
theorem dX6_init_75 : decode cX6_init 75 = .ok (.goto (-25), 3) := by decide +kernel
theorem dX6_init_78 : decode cX6_init 78 = .ok (.aload_n 0, 1) := by decide +kernel
theorem dX6_init_79 : decode cX6_init 79 = .ok (.new 21, 3) := by decide +kernel
theorem dX6_init_82 : decode cX6_init 82 = .ok (.dup, 1) := by decide +kernel
theorem dX6_init_83 : decode cX6_init 83 = .ok (.iconst 0, 1) := by decide +kernel
theorem dX6_init_84 : decode cX6_init 84 = .ok (.invokespecial 40, 3) := by decide +kernel
theorem dX6_init_87 : decode cX6_init 87 = .ok (.putfield 43, 3) := by decide +kernel
theorem dX6_init_90 : decode cX6_init 90 = .ok (.aload_n 0, 1) := by decide +kernel
theorem dX6_init_91 : decode cX6_init 91 = .ok (.getfield 23, 3) := by decide +kernel
theorem dX6_init_94 : decode cX6_init 94 = .ok (.iconst 0, 1) := by decide +kernel
theorem dX6_init_95 : decode cX6_init 95 = .ok (.aload_n 0, 1) := by decide +kernel
theorem dX6_init_96 : decode cX6_init 96 = .ok (.getfield 43, 3) := by decide +kernel
theorem dX6_init_99 : decode cX6_init 99 = .ok (.aastore, 1) := by decide +kernel
theorem dX6_init_100 : decode cX6_init 100 = .ok (.return_, 1) := by decide +kernel
theorem dX6_player_0 : decode cX6_player 0 = .ok (.aload_n 0, 1) := by decide +kernel
theorem dX6_player_1 : decode cX6_player 1 = .ok (.getfield 47, 3) := by decide +kernel
theorem dX6_player_4 : decode cX6_player 4 = .ok (.aload_n 0, 1) := by decide +kernel
theorem dX6_player_5 : decode cX6_player 5 = .ok (.getfield 11, 3) := by decide +kernel
theorem dX6_player_8 : decode cX6_player 8 = .ok (.arraylength, 1) := by decide +kernel
theorem dX6_player_9 : decode cX6_player 9 = .ok (.if_icmp .lt 13, 3) := by decide +kernel
theorem dX6_player_12 : decode cX6_player 12 = .ok (.new 51, 3) := by decide +kernel
theorem dX6_player_15 : decode cX6_player 15 = .ok (.dup, 1) := by decide +kernel
theorem dX6_player_16 : decode cX6_player 16 = .ok (.ldc 53, 2) := by decide +kernel
theorem dX6_player_18 : decode cX6_player 18 = .ok (.invokespecial 55, 3) := by decide +kernel
theorem dX6_player_21 : decode cX6_player 21 = .ok (.athrow, 1) := by decide +kernel
theorem dX6_player_22 : decode cX6_player 22 = .ok (.aload_n 0, 1) := by decide +kernel
theorem dX6_player_23 : decode cX6_player 23 = .ok (.getfield 47, 3) := by decide +kernel
theorem dX6_player_26 : decode cX6_player 26 = .ok (.istore_n 1, 1) := by decide +kernel
theorem dX6_player_27 : decode cX6_player 27 = .ok (.aload_n 0, 1) := by decide +kernel
theorem dX6_player_28 : decode cX6_player 28 = .ok (.getfield 11, 3) := by decide +kernel
theorem dX6_player_31 : decode cX6_player 31 = .ok (.iload_n 1, 1) := by decide +kernel
theorem dX6_player_32 : decode cX6_player 32 = .ok (.new 9, 3) := by decide +kernel
theorem dX6_player_35 : decode cX6_player 35 = .ok (.dup, 1) := by decide +kernel
theorem dX6_player_36 : decode cX6_player 36 = .ok (.iload_n 1, 1) := by decide +kernel
theorem dX6_player_37 : decode cX6_player 37 = .ok (.invokespecial 58, 3) := by decide +kernel
theorem dX6_player_40 : decode cX6_player 40 = .ok (.aastore, 1) := by decide +kernel
theorem dX6_player_41 : decode cX6_player 41 = .ok (.aload_n 0, 1) := by decide +kernel
theorem dX6_player_42 : decode cX6_player 42 = .ok (.dup, 1) := by decide +kernel
theorem dX6_player_43 : decode cX6_player 43 = .ok (.getfield 47, 3) := by decide +kernel
theorem dX6_player_46 : decode cX6_player 46 = .ok (.iconst 1, 1) := by decide +kernel
theorem dX6_player_47 : decode cX6_player 47 = .ok (.iadd, 1) := by decide +kernel
theorem dX6_player_48 : decode cX6_player 48 = .ok (.putfield 47, 3) := by decide +kernel
theorem dX6_player_51 : decode cX6_player 51 = .ok (.iload_n 1, 1) := by decide +kernel
theorem dX6_player_52 : decode cX6_player 52 = .ok (.ireturn, 1) := by decide +kernel
theorem dX6_room_0 : decode cX6_room 0 = .ok (.aload_n 0, 1) := by decide +kernel
theorem dX6_room_1 : decode cX6_room 1 = .ok (.iload_n 1, 1) := by decide +kernel
theorem dX6_room_2 : decode cX6_room 2 = .ok (.invokevirtual 59, 3) := by decide +kernel
theorem dX6_room_5 : decode cX6_room 5 = .ok (.astore_n 3, 1) := by decide +kernel
theorem dX6_room_6 : decode cX6_room 6 = .ok (.iload_n 2, 1) := by decide +kernel
theorem dX6_room_7 : decode cX6_room 7 = .ok (.ifCond .lt 9, 3) := by decide +kernel
theorem dX6_room_10 : decode cX6_room 10 = .ok (.iload_n 2, 1) := by decide +kernel
theorem dX6_room_11 : decode cX6_room 11 = .ok (.bipush 50, 2) := by decide +kernel
theorem dX6_room_13 : decode cX6_room 13 = .ok (.if_icmp .le 13, 3) := by decide +kernel
theorem dX6_room_16 : decode cX6_room 16 = .ok (.new 63, 3) := by decide +kernel
theorem dX6_room_19 : decode cX6_room 19 = .ok (.dup, 1) := by decide +kernel
theorem dX6_room_20 : decode cX6_room 20 = .ok (.ldc 65, 2) := by decide +kernel
theorem dX6_room_22 : decode cX6_room 22 = .ok (.invokespecial 67, 3) := by decide +kernel
theorem dX6_room_25 : decode cX6_room 25 = .ok (.athrow, 1) := by decide +kernel
theorem dX6_room_26 : decode cX6_room 26 = .ok (.aload_n 3, 1) := by decide +kernel
theorem dX6_room_27 : decode cX6_room 27 = .ok (.iload_n 2, 1) := by decide +kernel
theorem dX6_room_28 : decode cX6_room 28 = .ok (.putfield 68, 3) := by decide +kernel
theorem dX6_room_31 : decode cX6_room 31 = .ok (.aload_n 3, 1) := by decide +kernel
theorem dX6_room_32 : decode cX6_room 32 = .ok (.getfield 71, 3) := by decide +kernel
theorem dX6_room_35 : decode cX6_room 35 = .ok (.ireturn, 1) := by decide +kernel
theorem dX6_match_0 : decode cX6_match 0 = .ok (.aload_n 0, 1) := by decide +kernel
theorem dX6_match_1 : decode cX6_match 1 = .ok (.iload_n 1, 1) := by decide +kernel
theorem dX6_match_2 : decode cX6_match 2 = .ok (.invokevirtual 74, 3) := by decide +kernel
theorem dX6_match_5 : decode cX6_match 5 = .ok (.astore 4, 2) := by decide +kernel
theorem dX6_match_7 : decode cX6_match 7 = .ok (.aload_n 0, 1) := by decide +kernel
theorem dX6_match_8 : decode cX6_match 8 = .ok (.iload_n 2, 1) := by decide +kernel
theorem dX6_match_9 : decode cX6_match 9 = .ok (.invokevirtual 74, 3) := by decide +kernel
theorem dX6_match_12 : decode cX6_match 12 = .ok (.astore 5, 2) := by decide +kernel
theorem dX6_match_14 : decode cX6_match 14 = .ok (.aload_n 0, 1) := by decide +kernel
theorem dX6_match_15 : decode cX6_match 15 = .ok (.iload_n 3, 1) := by decide +kernel
theorem dX6_match_16 : decode cX6_match 16 = .ok (.invokevirtual 59, 3) := by decide +kernel
theorem dX6_match_19 : decode cX6_match 19 = .ok (.astore 6, 2) := by decide +kernel
theorem dX6_match_21 : decode cX6_match 21 = .ok (.iload_n 1, 1) := by decide +kernel
theorem dX6_match_22 : decode cX6_match 22 = .ok (.iload_n 2, 1) := by decide +kernel
theorem dX6_match_23 : decode cX6_match 23 = .ok (.if_icmp .ne 13, 3) := by decide +kernel
theorem dX6_match_26 : decode cX6_match 26 = .ok (.new 63, 3) := by decide +kernel
theorem dX6_match_29 : decode cX6_match 29 = .ok (.dup, 1) := by decide +kernel
theorem dX6_match_30 : decode cX6_match 30 = .ok (.ldc 78, 2) := by decide +kernel
theorem dX6_match_32 : decode cX6_match 32 = .ok (.invokespecial 67, 3) := by decide +kernel
theorem dX6_match_35 : decode cX6_match 35 = .ok (.athrow, 1) := by decide +kernel
theorem dX6_match_36 : decode cX6_match 36 = .ok (.aload_n 0, 1) := by decide +kernel
theorem dX6_match_37 : decode cX6_match 37 = .ok (.getfield 80, 3) := by decide +kernel
theorem dX6_match_40 : decode cX6_match 40 = .ok (.aload_n 0, 1) := by decide +kernel
theorem dX6_match_41 : decode cX6_match 41 = .ok (.getfield 17, 3) := by decide +kernel
theorem dX6_match_44 : decode cX6_match 44 = .ok (.arraylength, 1) := by decide +kernel
theorem dX6_match_45 : decode cX6_match 45 = .ok (.if_icmp .ge 11, 3) := by decide +kernel
theorem dX6_match_48 : decode cX6_match 48 = .ok (.aload 6, 2) := by decide +kernel
theorem dX6_match_50 : decode cX6_match 50 = .ok (.invokevirtual 83, 3) := by decide +kernel
theorem dX6_match_53 : decode cX6_match 53 = .ok (.ifCond .eq 13, 3) := by decide +kernel
theorem dX6_match_56 : decode cX6_match 56 = .ok (.new 51, 3) := by decide +kernel
theorem dX6_match_59 : decode cX6_match 59 = .ok (.dup, 1) := by decide +kernel
theorem dX6_match_60 : decode cX6_match 60 = .ok (.ldc 87, 2) := by decide +kernel
theorem dX6_match_62 : decode cX6_match 62 = .ok (.invokespecial 55, 3) := by decide +kernel
theorem dX6_match_65 : decode cX6_match 65 = .ok (.athrow, 1) := by decide +kernel
theorem dX6_match_66 : decode cX6_match 66 = .ok (.aload 4, 2) := by decide +kernel
theorem dX6_match_68 : decode cX6_match 68 = .ok (.aload_n 0, 1) := by decide +kernel
theorem dX6_match_69 : decode cX6_match 69 = .ok (.getfield 89, 3) := by decide +kernel
theorem dX6_match_72 : decode cX6_match 72 = .ok (.invokevirtual 92, 3) := by decide +kernel
theorem dX6_match_75 : decode cX6_match 75 = .ok (.ifCond .ne 15, 3) := by decide +kernel
theorem dX6_match_78 : decode cX6_match 78 = .ok (.aload 5, 2) := by decide +kernel
theorem dX6_match_80 : decode cX6_match 80 = .ok (.aload_n 0, 1) := by decide +kernel
theorem dX6_match_81 : decode cX6_match 81 = .ok (.getfield 89, 3) := by decide +kernel
theorem dX6_match_84 : decode cX6_match 84 = .ok (.invokevirtual 92, 3) := by decide +kernel
theorem dX6_match_87 : decode cX6_match 87 = .ok (.ifCond .eq 13, 3) := by decide +kernel
theorem dX6_match_90 : decode cX6_match 90 = .ok (.new 51, 3) := by decide +kernel
theorem dX6_match_93 : decode cX6_match 93 = .ok (.dup, 1) := by decide +kernel
theorem dX6_match_94 : decode cX6_match 94 = .ok (.ldc 96, 2) := by decide +kernel
theorem dX6_match_96 : decode cX6_match 96 = .ok (.invokespecial 55, 3) := by decide +kernel
theorem dX6_match_99 : decode cX6_match 99 = .ok (.athrow, 1) := by decide +kernel
theorem dX6_match_100 : decode cX6_match 100 = .ok (.aload_n 0, 1) := by decide +kernel
theorem dX6_match_101 : decode cX6_match 101 = .ok (.getfield 80, 3) := by decide +kernel
theorem dX6_match_104 : decode cX6_match 104 = .ok (.istore 7, 2) := by decide +kernel
theorem dX6_match_106 : decode cX6_match 106 = .ok (.new 15, 3) := by decide +kernel
theorem dX6_match_109 : decode cX6_match 109 = .ok (.dup, 1) := by decide +kernel
theorem dX6_match_110 : decode cX6_match 110 = .ok (.aload 4, 2) := by decide +kernel
theorem dX6_match_112 : decode cX6_match 112 = .ok (.aload 5, 2) := by decide +kernel
theorem dX6_match_114 : decode cX6_match 114 = .ok (.aload_n 0, 1) := by decide +kernel
theorem dX6_match_115 : decode cX6_match 115 = .ok (.getfield 43, 3) := by decide +kernel
theorem dX6_match_118 : decode cX6_match 118 = .ok (.aload_n 0, 1) := by decide +kernel
theorem dX6_match_119 : decode cX6_match 119 = .ok (.getfield 89, 3) := by decide +kernel
theorem dX6_match_122 : decode cX6_match 122 = .ok (.invokespecial 98, 3) := by decide +kernel
theorem dX6_match_125 : decode cX6_match 125 = .ok (.astore 8, 2) := by decide +kernel
theorem dX6_match_127 : decode cX6_match 127 = .ok (.aload_n 0, 1) := by decide +kernel
theorem dX6_match_128 : decode cX6_match 128 = .ok (.getfield 17, 3) := by decide +kernel
theorem dX6_match_131 : decode cX6_match 131 = .ok (.iload 7, 2) := by decide +kernel
theorem dX6_match_133 : decode cX6_match 133 = .ok (.aload 8, 2) := by decide +kernel
theorem dX6_match_135 : decode cX6_match 135 = .ok (.aastore, 1) := by decide +kernel
theorem dX6_match_136 : decode cX6_match 136 = .ok (.aload_n 0, 1) := by decide +kernel
theorem dX6_match_137 : decode cX6_match 137 = .ok (.dup, 1) := by decide +kernel
theorem dX6_match_138 : decode cX6_match 138 = .ok (.getfield 80, 3) := by decide +kernel
theorem dX6_match_141 : decode cX6_match 141 = .ok (.iconst 1, 1) := by decide +kernel
theorem dX6_match_142 : decode cX6_match 142 = .ok (.iadd, 1) := by decide +kernel
theorem dX6_match_143 : decode cX6_match 143 = .ok (.putfield 80, 3) := by decide +kernel
theorem dX6_match_146 : decode cX6_match 146 = .ok (.aload 6, 2) := by decide +kernel
theorem dX6_match_148 : decode cX6_match 148 = .ok (.dup, 1) := by decide +kernel
theorem dX6_match_149 : decode cX6_match 149 = .ok (.getfield 71, 3) := by decide +kernel
theorem dX6_match_152 : decode cX6_match 152 = .ok (.iconst 1, 1) := by decide +kernel
theorem dX6_match_153 : decode cX6_match 153 = .ok (.iadd, 1) := by decide +kernel
theorem dX6_match_154 : decode cX6_match 154 = .ok (.putfield 71, 3) := by decide +kernel
theorem dX6_match_157 : decode cX6_match 157 = .ok (.aload 8, 2) := by decide +kernel
theorem dX6_match_159 : decode cX6_match 159 = .ok (.invokevirtual 101, 3) := by decide +kernel
theorem dX6_match_162 : decode cX6_match 162 = .ok (.iload 7, 2) := by decide +kernel
theorem dX6_match_164 : decode cX6_match 164 = .ok (.ireturn, 1) := by decide +kernel
theorem dX6_end_0 : decode cX6_end 0 = .ok (.aload_n 0, 1) := by decide +kernel
theorem dX6_end_1 : decode cX6_end 1 = .ok (.getfield 43, 3) := by decide +kernel
theorem dX6_end_4 : decode cX6_end 4 = .ok (.getfield 104, 3) := by decide +kernel
theorem dX6_end_7 : decode cX6_end 7 = .ok (.iconst 1, 1) := by decide +kernel
theorem dX6_end_8 : decode cX6_end 8 = .ok (.iadd, 1) := by decide +kernel
theorem dX6_end_9 : decode cX6_end 9 = .ok (.istore_n 1, 1) := by decide +kernel
theorem dX6_end_10 : decode cX6_end 10 = .ok (.iload_n 1, 1) := by decide +kernel
theorem dX6_end_11 : decode cX6_end 11 = .ok (.aload_n 0, 1) := by decide +kernel
theorem dX6_end_12 : decode cX6_end 12 = .ok (.getfield 23, 3) := by decide +kernel
theorem dX6_end_15 : decode cX6_end 15 = .ok (.arraylength, 1) := by decide +kernel
theorem dX6_end_16 : decode cX6_end 16 = .ok (.if_icmp .lt 13, 3) := by decide +kernel
theorem dX6_end_19 : decode cX6_end 19 = .ok (.new 51, 3) := by decide +kernel
theorem dX6_end_22 : decode cX6_end 22 = .ok (.dup, 1) := by decide +kernel
theorem dX6_end_23 : decode cX6_end 23 = .ok (.ldc 107, 2) := by decide +kernel
theorem dX6_end_25 : decode cX6_end 25 = .ok (.invokespecial 55, 3) := by decide +kernel
theorem dX6_end_28 : decode cX6_end 28 = .ok (.athrow, 1) := by decide +kernel
theorem dX6_end_29 : decode cX6_end 29 = .ok (.aload_n 0, 1) := by decide +kernel
theorem dX6_end_30 : decode cX6_end 30 = .ok (.invokevirtual 109, 3) := by decide +kernel
theorem dX6_end_33 : decode cX6_end 33 = .ok (.istore_n 2, 1) := by decide +kernel
theorem dX6_end_34 : decode cX6_end 34 = .ok (.aload_n 0, 1) := by decide +kernel
theorem dX6_end_35 : decode cX6_end 35 = .ok (.new 21, 3) := by decide +kernel
theorem dX6_end_38 : decode cX6_end 38 = .ok (.dup, 1) := by decide +kernel
theorem dX6_end_39 : decode cX6_end 39 = .ok (.iload_n 1, 1) := by decide +kernel
theorem dX6_end_40 : decode cX6_end 40 = .ok (.invokespecial 40, 3) := by decide +kernel
theorem dX6_end_43 : decode cX6_end 43 = .ok (.putfield 43, 3) := by decide +kernel
theorem dX6_end_46 : decode cX6_end 46 = .ok (.aload_n 0, 1) := by decide +kernel
theorem dX6_end_47 : decode cX6_end 47 = .ok (.getfield 23, 3) := by decide +kernel
theorem dX6_end_50 : decode cX6_end 50 = .ok (.iload_n 1, 1) := by decide +kernel
theorem dX6_end_51 : decode cX6_end 51 = .ok (.aload_n 0, 1) := by decide +kernel
theorem dX6_end_52 : decode cX6_end 52 = .ok (.getfield 43, 3) := by decide +kernel
theorem dX6_end_55 : decode cX6_end 55 = .ok (.aastore, 1) := by decide +kernel
theorem dX6_end_56 : decode cX6_end 56 = .ok (.iload_n 2, 1) := by decide +kernel
theorem dX6_end_57 : decode cX6_end 57 = .ok (.ireturn, 1) := by decide +kernel
theorem dX6_sell_0 : decode cX6_sell 0 = .ok (.aload_n 0, 1) := by decide +kernel
theorem dX6_sell_1 : decode cX6_sell 1 = .ok (.iload_n 1, 1) := by decide +kernel
theorem dX6_sell_2 : decode cX6_sell 2 = .ok (.invokevirtual 113, 3) := by decide +kernel
theorem dX6_sell_5 : decode cX6_sell 5 = .ok (.astore 4, 2) := by decide +kernel
theorem dX6_sell_7 : decode cX6_sell 7 = .ok (.aload_n 0, 1) := by decide +kernel
theorem dX6_sell_8 : decode cX6_sell 8 = .ok (.iload_n 2, 1) := by decide +kernel
theorem dX6_sell_9 : decode cX6_sell 9 = .ok (.invokevirtual 74, 3) := by decide +kernel
theorem dX6_sell_12 : decode cX6_sell 12 = .ok (.astore 5, 2) := by decide +kernel
theorem dX6_sell_14 : decode cX6_sell 14 = .ok (.iload_n 3, 1) := by decide +kernel
theorem dX6_sell_15 : decode cX6_sell 15 = .ok (.ifCond .lt 10, 3) := by decide +kernel
theorem dX6_sell_18 : decode cX6_sell 18 = .ok (.iload_n 3, 1) := by decide +kernel
theorem dX6_sell_19 : decode cX6_sell 19 = .ok (.sipush 10000, 3) := by decide +kernel
theorem dX6_sell_22 : decode cX6_sell 22 = .ok (.if_icmp .le 13, 3) := by decide +kernel
theorem dX6_sell_25 : decode cX6_sell 25 = .ok (.new 63, 3) := by decide +kernel
theorem dX6_sell_28 : decode cX6_sell 28 = .ok (.dup, 1) := by decide +kernel
theorem dX6_sell_29 : decode cX6_sell 29 = .ok (.ldc 117, 2) := by decide +kernel
theorem dX6_sell_31 : decode cX6_sell 31 = .ok (.invokespecial 67, 3) := by decide +kernel
theorem dX6_sell_34 : decode cX6_sell 34 = .ok (.athrow, 1) := by decide +kernel
theorem dX6_sell_35 : decode cX6_sell 35 = .ok (.aload_n 0, 1) := by decide +kernel
theorem dX6_sell_36 : decode cX6_sell 36 = .ok (.aload 4, 2) := by decide +kernel
theorem dX6_sell_38 : decode cX6_sell 38 = .ok (.getfield 119, 3) := by decide +kernel
theorem dX6_sell_41 : decode cX6_sell 41 = .ok (.aload 5, 2) := by decide +kernel
theorem dX6_sell_43 : decode cX6_sell 43 = .ok (.invokevirtual 123, 3) := by decide +kernel
theorem dX6_sell_46 : decode cX6_sell 46 = .ok (.ifCond .eq 11, 3) := by decide +kernel
theorem dX6_sell_49 : decode cX6_sell 49 = .ok (.aload 4, 2) := by decide +kernel
theorem dX6_sell_51 : decode cX6_sell 51 = .ok (.invokevirtual 127, 3) := by decide +kernel
theorem dX6_sell_54 : decode cX6_sell 54 = .ok (.ifCond .eq 13, 3) := by decide +kernel
theorem dX6_sell_57 : decode cX6_sell 57 = .ok (.new 51, 3) := by decide +kernel
theorem dX6_sell_60 : decode cX6_sell 60 = .ok (.dup, 1) := by decide +kernel
theorem dX6_sell_61 : decode cX6_sell 61 = .ok (.ldc 130, 2) := by decide +kernel
theorem dX6_sell_63 : decode cX6_sell 63 = .ok (.invokespecial 55, 3) := by decide +kernel
theorem dX6_sell_66 : decode cX6_sell 66 = .ok (.athrow, 1) := by decide +kernel
theorem dX6_sell_67 : decode cX6_sell 67 = .ok (.aload 4, 2) := by decide +kernel
theorem dX6_sell_69 : decode cX6_sell 69 = .ok (.aload 5, 2) := by decide +kernel
theorem dX6_sell_71 : decode cX6_sell 71 = .ok (.iload_n 3, 1) := by decide +kernel
theorem dX6_sell_72 : decode cX6_sell 72 = .ok (.invokevirtual 132, 3) := by decide +kernel
theorem dX6_sell_75 : decode cX6_sell 75 = .ok (.ireturn, 1) := by decide +kernel
theorem dX6_lend_0 : decode cX6_lend 0 = .ok (.aload_n 0, 1) := by decide +kernel
theorem dX6_lend_1 : decode cX6_lend 1 = .ok (.iload_n 1, 1) := by decide +kernel
theorem dX6_lend_2 : decode cX6_lend 2 = .ok (.invokevirtual 113, 3) := by decide +kernel
theorem dX6_lend_5 : decode cX6_lend 5 = .ok (.astore 4, 2) := by decide +kernel
theorem dX6_lend_7 : decode cX6_lend 7 = .ok (.aload_n 0, 1) := by decide +kernel
theorem dX6_lend_8 : decode cX6_lend 8 = .ok (.iload_n 2, 1) := by decide +kernel
theorem dX6_lend_9 : decode cX6_lend 9 = .ok (.invokevirtual 74, 3) := by decide +kernel
theorem dX6_lend_12 : decode cX6_lend 12 = .ok (.astore 5, 2) := by decide +kernel
theorem dX6_lend_14 : decode cX6_lend 14 = .ok (.iload_n 3, 1) := by decide +kernel
theorem dX6_lend_15 : decode cX6_lend 15 = .ok (.iconst 1, 1) := by decide +kernel
theorem dX6_lend_16 : decode cX6_lend 16 = .ok (.if_icmp .lt 9, 3) := by decide +kernel
theorem dX6_lend_19 : decode cX6_lend 19 = .ok (.iload_n 3, 1) := by decide +kernel
theorem dX6_lend_20 : decode cX6_lend 20 = .ok (.bipush 100, 2) := by decide +kernel
theorem dX6_lend_22 : decode cX6_lend 22 = .ok (.if_icmp .le 13, 3) := by decide +kernel
theorem dX6_lend_25 : decode cX6_lend 25 = .ok (.new 63, 3) := by decide +kernel
theorem dX6_lend_28 : decode cX6_lend 28 = .ok (.dup, 1) := by decide +kernel
theorem dX6_lend_29 : decode cX6_lend 29 = .ok (.ldc 136, 2) := by decide +kernel
theorem dX6_lend_31 : decode cX6_lend 31 = .ok (.invokespecial 67, 3) := by decide +kernel
theorem dX6_lend_34 : decode cX6_lend 34 = .ok (.athrow, 1) := by decide +kernel
theorem dX6_lend_35 : decode cX6_lend 35 = .ok (.aload_n 0, 1) := by decide +kernel
theorem dX6_lend_36 : decode cX6_lend 36 = .ok (.aload 4, 2) := by decide +kernel
theorem dX6_lend_38 : decode cX6_lend 38 = .ok (.getfield 119, 3) := by decide +kernel
theorem dX6_lend_41 : decode cX6_lend 41 = .ok (.aload 5, 2) := by decide +kernel
theorem dX6_lend_43 : decode cX6_lend 43 = .ok (.invokevirtual 123, 3) := by decide +kernel
theorem dX6_lend_46 : decode cX6_lend 46 = .ok (.ifCond .ne 13, 3) := by decide +kernel
theorem dX6_lend_49 : decode cX6_lend 49 = .ok (.new 51, 3) := by decide +kernel
theorem dX6_lend_52 : decode cX6_lend 52 = .ok (.dup, 1) := by decide +kernel
theorem dX6_lend_53 : decode cX6_lend 53 = .ok (.ldc 138, 2) := by decide +kernel
theorem dX6_lend_55 : decode cX6_lend 55 = .ok (.invokespecial 55, 3) := by decide +kernel
theorem dX6_lend_58 : decode cX6_lend 58 = .ok (.athrow, 1) := by decide +kernel
theorem dX6_lend_59 : decode cX6_lend 59 = .ok (.aload 4, 2) := by decide +kernel
theorem dX6_lend_61 : decode cX6_lend 61 = .ok (.aload 5, 2) := by decide +kernel
theorem dX6_lend_63 : decode cX6_lend 63 = .ok (.putfield 140, 3) := by decide +kernel
theorem dX6_lend_66 : decode cX6_lend 66 = .ok (.aload 4, 2) := by decide +kernel
theorem dX6_lend_68 : decode cX6_lend 68 = .ok (.aload_n 0, 1) := by decide +kernel
theorem dX6_lend_69 : decode cX6_lend 69 = .ok (.getfield 89, 3) := by decide +kernel
theorem dX6_lend_72 : decode cX6_lend 72 = .ok (.iload_n 3, 1) := by decide +kernel
theorem dX6_lend_73 : decode cX6_lend 73 = .ok (.iadd, 1) := by decide +kernel
theorem dX6_lend_74 : decode cX6_lend 74 = .ok (.iconst 1, 1) := by decide +kernel
theorem dX6_lend_75 : decode cX6_lend 75 = .ok (.isub, 1) := by decide +kernel
theorem dX6_lend_76 : decode cX6_lend 76 = .ok (.putfield 143, 3) := by decide +kernel
theorem dX6_lend_79 : decode cX6_lend 79 = .ok (.aload 4, 2) := by decide +kernel
theorem dX6_lend_81 : decode cX6_lend 81 = .ok (.getfield 143, 3) := by decide +kernel
theorem dX6_lend_84 : decode cX6_lend 84 = .ok (.ireturn, 1) := by decide +kernel
theorem dX6_proof_0 : decode cX6_proof 0 = .ok (.aload_n 0, 1) := by decide +kernel
theorem dX6_proof_1 : decode cX6_proof 1 = .ok (.iload_n 1, 1) := by decide +kernel
theorem dX6_proof_2 : decode cX6_proof 2 = .ok (.invokevirtual 74, 3) := by decide +kernel
theorem dX6_proof_5 : decode cX6_proof 5 = .ok (.astore_n 3, 1) := by decide +kernel
theorem dX6_proof_6 : decode cX6_proof 6 = .ok (.iload_n 2, 1) := by decide +kernel
theorem dX6_proof_7 : decode cX6_proof 7 = .ok (.ifCond .lt 11, 3) := by decide +kernel
theorem dX6_proof_10 : decode cX6_proof 10 = .ok (.iload_n 2, 1) := by decide +kernel
theorem dX6_proof_11 : decode cX6_proof 11 = .ok (.aload_n 0, 1) := by decide +kernel
theorem dX6_proof_12 : decode cX6_proof 12 = .ok (.getfield 89, 3) := by decide +kernel
theorem dX6_proof_15 : decode cX6_proof 15 = .ok (.if_icmp .le 13, 3) := by decide +kernel
theorem dX6_proof_18 : decode cX6_proof 18 = .ok (.new 63, 3) := by decide +kernel
theorem dX6_proof_21 : decode cX6_proof 21 = .ok (.dup, 1) := by decide +kernel
theorem dX6_proof_22 : decode cX6_proof 22 = .ok (.ldc 146, 2) := by decide +kernel
theorem dX6_proof_24 : decode cX6_proof 24 = .ok (.invokespecial 67, 3) := by decide +kernel
theorem dX6_proof_27 : decode cX6_proof 27 = .ok (.athrow, 1) := by decide +kernel
theorem dX6_proof_28 : decode cX6_proof 28 = .ok (.aload_n 3, 1) := by decide +kernel
theorem dX6_proof_29 : decode cX6_proof 29 = .ok (.iload_n 2, 1) := by decide +kernel
theorem dX6_proof_30 : decode cX6_proof 30 = .ok (.invokevirtual 148, 3) := by decide +kernel
theorem dX6_proof_33 : decode cX6_proof 33 = .ok (.aload_n 0, 1) := by decide +kernel
theorem dX6_proof_34 : decode cX6_proof 34 = .ok (.invokevirtual 151, 3) := by decide +kernel
theorem dX6_proof_37 : decode cX6_proof 37 = .ok (.aload_n 0, 1) := by decide +kernel
theorem dX6_proof_38 : decode cX6_proof 38 = .ok (.invokevirtual 154, 3) := by decide +kernel
theorem dX6_proof_41 : decode cX6_proof 41 = .ok (.ireturn, 1) := by decide +kernel
theorem dX6_clear_0 : decode cX6_clear 0 = .ok (.aload_n 0, 1) := by decide +kernel
theorem dX6_clear_1 : decode cX6_clear 1 = .ok (.iload_n 1, 1) := by decide +kernel
theorem dX6_clear_2 : decode cX6_clear 2 = .ok (.invokevirtual 74, 3) := by decide +kernel
theorem dX6_clear_5 : decode cX6_clear 5 = .ok (.astore_n 2, 1) := by decide +kernel
theorem dX6_clear_6 : decode cX6_clear 6 = .ok (.aload_n 2, 1) := by decide +kernel
theorem dX6_clear_7 : decode cX6_clear 7 = .ok (.invokevirtual 157, 3) := by decide +kernel
theorem dX6_clear_10 : decode cX6_clear 10 = .ok (.ifCond .ne 13, 3) := by decide +kernel
theorem dX6_clear_13 : decode cX6_clear 13 = .ok (.new 51, 3) := by decide +kernel
theorem dX6_clear_16 : decode cX6_clear 16 = .ok (.dup, 1) := by decide +kernel
theorem dX6_clear_17 : decode cX6_clear 17 = .ok (.ldc 160, 2) := by decide +kernel
theorem dX6_clear_19 : decode cX6_clear 19 = .ok (.invokespecial 55, 3) := by decide +kernel
theorem dX6_clear_22 : decode cX6_clear 22 = .ok (.athrow, 1) := by decide +kernel
theorem dX6_clear_23 : decode cX6_clear 23 = .ok (.aload_n 2, 1) := by decide +kernel
theorem dX6_clear_24 : decode cX6_clear 24 = .ok (.getfield 162, 3) := by decide +kernel
theorem dX6_clear_27 : decode cX6_clear 27 = .ok (.istore_n 3, 1) := by decide +kernel
theorem dX6_clear_28 : decode cX6_clear 28 = .ok (.aload_n 2, 1) := by decide +kernel
theorem dX6_clear_29 : decode cX6_clear 29 = .ok (.iconst (-1), 1) := by decide +kernel
theorem dX6_clear_30 : decode cX6_clear 30 = .ok (.putfield 162, 3) := by decide +kernel
theorem dX6_clear_33 : decode cX6_clear 33 = .ok (.aload_n 0, 1) := by decide +kernel
theorem dX6_clear_34 : decode cX6_clear 34 = .ok (.invokevirtual 151, 3) := by decide +kernel
theorem dX6_clear_37 : decode cX6_clear 37 = .ok (.iload_n 3, 1) := by decide +kernel
theorem dX6_clear_38 : decode cX6_clear 38 = .ok (.ireturn, 1) := by decide +kernel
theorem dX6_ban_0 : decode cX6_ban 0 = .ok (.aload_n 0, 1) := by decide +kernel
theorem dX6_ban_1 : decode cX6_ban 1 = .ok (.iload_n 1, 1) := by decide +kernel
theorem dX6_ban_2 : decode cX6_ban 2 = .ok (.invokevirtual 74, 3) := by decide +kernel
theorem dX6_ban_5 : decode cX6_ban 5 = .ok (.astore_n 3, 1) := by decide +kernel
theorem dX6_ban_6 : decode cX6_ban 6 = .ok (.iload_n 2, 1) := by decide +kernel
theorem dX6_ban_7 : decode cX6_ban 7 = .ok (.ifCond .lt 10, 3) := by decide +kernel
theorem dX6_ban_10 : decode cX6_ban 10 = .ok (.iload_n 2, 1) := by decide +kernel
theorem dX6_ban_11 : decode cX6_ban 11 = .ok (.sipush 1000, 3) := by decide +kernel
theorem dX6_ban_14 : decode cX6_ban 14 = .ok (.if_icmp .le 13, 3) := by decide +kernel
theorem dX6_ban_17 : decode cX6_ban 17 = .ok (.new 63, 3) := by decide +kernel
theorem dX6_ban_20 : decode cX6_ban 20 = .ok (.dup, 1) := by decide +kernel
theorem dX6_ban_21 : decode cX6_ban 21 = .ok (.ldc 165, 2) := by decide +kernel
theorem dX6_ban_23 : decode cX6_ban 23 = .ok (.invokespecial 67, 3) := by decide +kernel
theorem dX6_ban_26 : decode cX6_ban 26 = .ok (.athrow, 1) := by decide +kernel
theorem dX6_ban_27 : decode cX6_ban 27 = .ok (.aload_n 3, 1) := by decide +kernel
theorem dX6_ban_28 : decode cX6_ban 28 = .ok (.aload_n 0, 1) := by decide +kernel
theorem dX6_ban_29 : decode cX6_ban 29 = .ok (.getfield 89, 3) := by decide +kernel
theorem dX6_ban_32 : decode cX6_ban 32 = .ok (.iload_n 2, 1) := by decide +kernel
theorem dX6_ban_33 : decode cX6_ban 33 = .ok (.iadd, 1) := by decide +kernel
theorem dX6_ban_34 : decode cX6_ban 34 = .ok (.putfield 167, 3) := by decide +kernel
theorem dX6_ban_37 : decode cX6_ban 37 = .ok (.aload_n 3, 1) := by decide +kernel
theorem dX6_ban_38 : decode cX6_ban 38 = .ok (.getfield 167, 3) := by decide +kernel
theorem dX6_ban_41 : decode cX6_ban 41 = .ok (.ireturn, 1) := by decide +kernel
theorem dX6_pass_0 : decode cX6_pass 0 = .ok (.iload_n 1, 1) := by decide +kernel
theorem dX6_pass_1 : decode cX6_pass 1 = .ok (.iconst 1, 1) := by decide +kernel
theorem dX6_pass_2 : decode cX6_pass 2 = .ok (.if_icmp .lt 10, 3) := by decide +kernel
theorem dX6_pass_5 : decode cX6_pass 5 = .ok (.iload_n 1, 1) := by decide +kernel
theorem dX6_pass_6 : decode cX6_pass 6 = .ok (.sipush 400, 3) := by decide +kernel
theorem dX6_pass_9 : decode cX6_pass 9 = .ok (.if_icmp .le 13, 3) := by decide +kernel
theorem dX6_pass_12 : decode cX6_pass 12 = .ok (.new 63, 3) := by decide +kernel
theorem dX6_pass_15 : decode cX6_pass 15 = .ok (.dup, 1) := by decide +kernel
theorem dX6_pass_16 : decode cX6_pass 16 = .ok (.ldc 170, 2) := by decide +kernel
theorem dX6_pass_18 : decode cX6_pass 18 = .ok (.invokespecial 67, 3) := by decide +kernel
theorem dX6_pass_21 : decode cX6_pass 21 = .ok (.athrow, 1) := by decide +kernel
theorem dX6_pass_22 : decode cX6_pass 22 = .ok (.aload_n 0, 1) := by decide +kernel
theorem dX6_pass_23 : decode cX6_pass 23 = .ok (.dup, 1) := by decide +kernel
theorem dX6_pass_24 : decode cX6_pass 24 = .ok (.getfield 89, 3) := by decide +kernel
theorem dX6_pass_27 : decode cX6_pass 27 = .ok (.iload_n 1, 1) := by decide +kernel
theorem dX6_pass_28 : decode cX6_pass 28 = .ok (.iadd, 1) := by decide +kernel
theorem dX6_pass_29 : decode cX6_pass 29 = .ok (.putfield 89, 3) := by decide +kernel
theorem dX6_pass_32 : decode cX6_pass 32 = .ok (.iconst 0, 1) := by decide +kernel
theorem dX6_pass_33 : decode cX6_pass 33 = .ok (.istore_n 2, 1) := by decide +kernel
theorem dX6_pass_34 : decode cX6_pass 34 = .ok (.iload_n 2, 1) := by decide +kernel
theorem dX6_pass_35 : decode cX6_pass 35 = .ok (.aload_n 0, 1) := by decide +kernel
theorem dX6_pass_36 : decode cX6_pass 36 = .ok (.getfield 35, 3) := by decide +kernel
theorem dX6_pass_39 : decode cX6_pass 39 = .ok (.arraylength, 1) := by decide +kernel
theorem dX6_pass_40 : decode cX6_pass 40 = .ok (.if_icmp .ge 25, 3) := by decide +kernel
theorem dX6_pass_43 : decode cX6_pass 43 = .ok (.aload_n 0, 1) := by decide +kernel
theorem dX6_pass_44 : decode cX6_pass 44 = .ok (.getfield 35, 3) := by decide +kernel
theorem dX6_pass_47 : decode cX6_pass 47 = .ok (.iload_n 2, 1) := by decide +kernel
theorem dX6_pass_48 : decode cX6_pass 48 = .ok (.aaload, 1) := by decide +kernel
theorem dX6_pass_49 : decode cX6_pass 49 = .ok (.astore_n 3, 1) := by decide +kernel
theorem dX6_pass_50 : decode cX6_pass 50 = .ok (.aload_n 3, 1) := by decide +kernel
theorem dX6_pass_51 : decode cX6_pass 51 = .ok (.ifnull 8, 3) := by decide +kernel
theorem dX6_pass_54 : decode cX6_pass 54 = .ok (.aload_n 3, 1) := by decide +kernel
theorem dX6_pass_55 : decode cX6_pass 55 = .ok (.iconst 0, 1) := by decide +kernel
theorem dX6_pass_56 : decode cX6_pass 56 = .ok (.putfield 71, 3) := by decide +kernel
theorem dX6_pass_59 : decode cX6_pass 59 = .ok (.iinc 2 1, 3) := by decide +kernel
theorem dX6_pass_62 : decode cX6_pass 62 = .ok (.goto (-28), 3) := by decide +kernel
theorem dX6_pass_65 : decode cX6_pass 65 = .ok (.aload_n 0, 1) := by decide +kernel
theorem dX6_pass_66 : decode cX6_pass 66 = .ok (.getfield 89, 3) := by decide +kernel
theorem dX6_pass_69 : decode cX6_pass 69 = .ok (.ireturn, 1) := by decide +kernel
theorem dX6_stands_0 : decode cX6_stands 0 = .ok (.aload_n 0, 1) := by decide +kernel
theorem dX6_stands_1 : decode cX6_stands 1 = .ok (.iload_n 1, 1) := by decide +kernel
theorem dX6_stands_2 : decode cX6_stands 2 = .ok (.invokevirtual 172, 3) := by decide +kernel
theorem dX6_stands_5 : decode cX6_stands 5 = .ok (.invokevirtual 176, 3) := by decide +kernel
theorem dX6_stands_8 : decode cX6_stands 8 = .ok (.ireturn, 1) := by decide +kernel
theorem dX6_ranked_0 : decode cX6_ranked 0 = .ok (.aload_n 0, 1) := by decide +kernel
theorem dX6_ranked_1 : decode cX6_ranked 1 = .ok (.iload_n 1, 1) := by decide +kernel
theorem dX6_ranked_2 : decode cX6_ranked 2 = .ok (.invokevirtual 179, 3) := by decide +kernel
theorem dX6_ranked_5 : decode cX6_ranked 5 = .ok (.astore 4, 2) := by decide +kernel
theorem dX6_ranked_7 : decode cX6_ranked 7 = .ok (.aload_n 0, 1) := by decide +kernel
theorem dX6_ranked_8 : decode cX6_ranked 8 = .ok (.iload_n 2, 1) := by decide +kernel
theorem dX6_ranked_9 : decode cX6_ranked 9 = .ok (.invokevirtual 74, 3) := by decide +kernel
theorem dX6_ranked_12 : decode cX6_ranked 12 = .ok (.astore 5, 2) := by decide +kernel
theorem dX6_ranked_14 : decode cX6_ranked 14 = .ok (.iload_n 3, 1) := by decide +kernel
theorem dX6_ranked_15 : decode cX6_ranked 15 = .ok (.tableswitch 58 0 2 #[25, 36, 47], 25) := by decide +kernel
theorem dX6_ranked_40 : decode cX6_ranked 40 = .ok (.aload 4, 2) := by decide +kernel
theorem dX6_ranked_42 : decode cX6_ranked 42 = .ok (.aload 5, 2) := by decide +kernel
theorem dX6_ranked_44 : decode cX6_ranked 44 = .ok (.getfield 183, 3) := by decide +kernel
theorem dX6_ranked_47 : decode cX6_ranked 47 = .ok (.invokevirtual 184, 3) := by decide +kernel
theorem dX6_ranked_50 : decode cX6_ranked 50 = .ok (.ireturn, 1) := by decide +kernel
theorem dX6_ranked_51 : decode cX6_ranked 51 = .ok (.aload 4, 2) := by decide +kernel
theorem dX6_ranked_53 : decode cX6_ranked 53 = .ok (.aload 5, 2) := by decide +kernel
theorem dX6_ranked_55 : decode cX6_ranked 55 = .ok (.getfield 183, 3) := by decide +kernel
theorem dX6_ranked_58 : decode cX6_ranked 58 = .ok (.invokevirtual 188, 3) := by decide +kernel
theorem dX6_ranked_61 : decode cX6_ranked 61 = .ok (.ireturn, 1) := by decide +kernel
theorem dX6_ranked_62 : decode cX6_ranked 62 = .ok (.aload 4, 2) := by decide +kernel
theorem dX6_ranked_64 : decode cX6_ranked 64 = .ok (.aload 5, 2) := by decide +kernel
theorem dX6_ranked_66 : decode cX6_ranked 66 = .ok (.getfield 183, 3) := by decide +kernel
theorem dX6_ranked_69 : decode cX6_ranked 69 = .ok (.invokevirtual 191, 3) := by decide +kernel
theorem dX6_ranked_72 : decode cX6_ranked 72 = .ok (.ireturn, 1) := by decide +kernel
theorem dX6_ranked_73 : decode cX6_ranked 73 = .ok (.new 63, 3) := by decide +kernel
theorem dX6_ranked_76 : decode cX6_ranked 76 = .ok (.dup, 1) := by decide +kernel
theorem dX6_ranked_77 : decode cX6_ranked 77 = .ok (.ldc 194, 2) := by decide +kernel
theorem dX6_ranked_79 : decode cX6_ranked 79 = .ok (.invokespecial 67, 3) := by decide +kernel
theorem dX6_ranked_82 : decode cX6_ranked 82 = .ok (.athrow, 1) := by decide +kernel
theorem dX6_skinOf_0 : decode cX6_skinOf 0 = .ok (.aload_n 0, 1) := by decide +kernel
theorem dX6_skinOf_1 : decode cX6_skinOf 1 = .ok (.iload_n 1, 1) := by decide +kernel
theorem dX6_skinOf_2 : decode cX6_skinOf 2 = .ok (.invokevirtual 113, 3) := by decide +kernel
theorem dX6_skinOf_5 : decode cX6_skinOf 5 = .ok (.astore_n 3, 1) := by decide +kernel
theorem dX6_skinOf_6 : decode cX6_skinOf 6 = .ok (.iload_n 2, 1) := by decide +kernel
theorem dX6_skinOf_7 : decode cX6_skinOf 7 = .ok (.tableswitch 100 0 6 #[41, 49, 57, 69, 77, 82, 87], 41) := by decide +kernel
theorem dX6_skinOf_48 : decode cX6_skinOf 48 = .ok (.aload_n 3, 1) := by decide +kernel
theorem dX6_skinOf_49 : decode cX6_skinOf 49 = .ok (.getfield 119, 3) := by decide +kernel
theorem dX6_skinOf_52 : decode cX6_skinOf 52 = .ok (.invokestatic 196, 3) := by decide +kernel
theorem dX6_skinOf_55 : decode cX6_skinOf 55 = .ok (.ireturn, 1) := by decide +kernel
theorem dX6_skinOf_56 : decode cX6_skinOf 56 = .ok (.aload_n 3, 1) := by decide +kernel
theorem dX6_skinOf_57 : decode cX6_skinOf 57 = .ok (.getfield 200, 3) := by decide +kernel
theorem dX6_skinOf_60 : decode cX6_skinOf 60 = .ok (.invokestatic 196, 3) := by decide +kernel
theorem dX6_skinOf_63 : decode cX6_skinOf 63 = .ok (.ireturn, 1) := by decide +kernel
theorem dX6_skinOf_64 : decode cX6_skinOf 64 = .ok (.aload_n 3, 1) := by decide +kernel
theorem dX6_skinOf_65 : decode cX6_skinOf 65 = .ok (.aload_n 0, 1) := by decide +kernel
theorem dX6_skinOf_66 : decode cX6_skinOf 66 = .ok (.getfield 89, 3) := by decide +kernel
theorem dX6_skinOf_69 : decode cX6_skinOf 69 = .ok (.invokevirtual 203, 3) := by decide +kernel
theorem dX6_skinOf_72 : decode cX6_skinOf 72 = .ok (.invokestatic 196, 3) := by decide +kernel
theorem dX6_skinOf_75 : decode cX6_skinOf 75 = .ok (.ireturn, 1) := by decide +kernel
theorem dX6_skinOf_76 : decode cX6_skinOf 76 = .ok (.aload_n 3, 1) := by decide +kernel
theorem dX6_skinOf_77 : decode cX6_skinOf 77 = .ok (.getfield 206, 3) := by decide +kernel
theorem dX6_skinOf_80 : decode cX6_skinOf 80 = .ok (.getfield 104, 3) := by decide +kernel
theorem dX6_skinOf_83 : decode cX6_skinOf 83 = .ok (.ireturn, 1) := by decide +kernel
theorem dX6_skinOf_84 : decode cX6_skinOf 84 = .ok (.aload_n 3, 1) := by decide +kernel
theorem dX6_skinOf_85 : decode cX6_skinOf 85 = .ok (.getfield 209, 3) := by decide +kernel
theorem dX6_skinOf_88 : decode cX6_skinOf 88 = .ok (.ireturn, 1) := by decide +kernel
theorem dX6_skinOf_89 : decode cX6_skinOf 89 = .ok (.aload_n 3, 1) := by decide +kernel
theorem dX6_skinOf_90 : decode cX6_skinOf 90 = .ok (.getfield 212, 3) := by decide +kernel
theorem dX6_skinOf_93 : decode cX6_skinOf 93 = .ok (.ireturn, 1) := by decide +kernel
theorem dX6_skinOf_94 : decode cX6_skinOf 94 = .ok (.aload_n 3, 1) := by decide +kernel
theorem dX6_skinOf_95 : decode cX6_skinOf 95 = .ok (.invokevirtual 215, 3) := by decide +kernel
theorem dX6_skinOf_98 : decode cX6_skinOf 98 = .ok (.ifCond .eq 7, 3) := by decide +kernel
theorem dX6_skinOf_101 : decode cX6_skinOf 101 = .ok (.iconst 1, 1) := by decide +kernel
theorem dX6_skinOf_102 : decode cX6_skinOf 102 = .ok (.goto 4, 3) := by decide +kernel
theorem dX6_skinOf_105 : decode cX6_skinOf 105 = .ok (.iconst 0, 1) := by decide +kernel
theorem dX6_skinOf_106 : decode cX6_skinOf 106 = .ok (.ireturn, 1) := by decide +kernel
theorem dX6_skinOf_107 : decode cX6_skinOf 107 = .ok (.new 63, 3) := by decide +kernel
theorem dX6_skinOf_110 : decode cX6_skinOf 110 = .ok (.dup, 1) := by decide +kernel
theorem dX6_skinOf_111 : decode cX6_skinOf 111 = .ok (.ldc 218, 2) := by decide +kernel
theorem dX6_skinOf_113 : decode cX6_skinOf 113 = .ok (.invokespecial 67, 3) := by decide +kernel
theorem dX6_skinOf_116 : decode cX6_skinOf 116 = .ok (.athrow, 1) := by decide +kernel
theorem dX6_money_0 : decode cX6_money 0 = .ok (.aload_n 0, 1) := by decide +kernel
theorem dX6_money_1 : decode cX6_money 1 = .ok (.iload_n 1, 1) := by decide +kernel
theorem dX6_money_2 : decode cX6_money 2 = .ok (.invokevirtual 74, 3) := by decide +kernel
theorem dX6_money_5 : decode cX6_money 5 = .ok (.getfield 220, 3) := by decide +kernel
theorem dX6_money_8 : decode cX6_money 8 = .ok (.ireturn, 1) := by decide +kernel
theorem dX6_label_0 : decode cX6_label 0 = .ok (.aload_n 0, 1) := by decide +kernel
theorem dX6_label_1 : decode cX6_label 1 = .ok (.iload_n 1, 1) := by decide +kernel
theorem dX6_label_2 : decode cX6_label 2 = .ok (.invokevirtual 113, 3) := by decide +kernel
theorem dX6_label_5 : decode cX6_label 5 = .ok (.astore_n 3, 1) := by decide +kernel
theorem dX6_label_6 : decode cX6_label 6 = .ok (.iload_n 2, 1) := by decide +kernel
theorem dX6_label_7 : decode cX6_label 7 = .ok (.ifCond .ge 13, 3) := by decide +kernel
theorem dX6_label_10 : decode cX6_label 10 = .ok (.new 223, 3) := by decide +kernel
theorem dX6_label_13 : decode cX6_label 13 = .ok (.dup, 1) := by decide +kernel
theorem dX6_label_14 : decode cX6_label 14 = .ok (.ldc 225, 2) := by decide +kernel
theorem dX6_label_16 : decode cX6_label 16 = .ok (.invokespecial 227, 3) := by decide +kernel
theorem dX6_label_19 : decode cX6_label 19 = .ok (.athrow, 1) := by decide +kernel
theorem dX6_label_20 : decode cX6_label 20 = .ok (.new 228, 3) := by decide +kernel
theorem dX6_label_23 : decode cX6_label 23 = .ok (.dup, 1) := by decide +kernel
theorem dX6_label_24 : decode cX6_label 24 = .ok (.invokespecial 230, 3) := by decide +kernel
theorem dX6_label_27 : decode cX6_label 27 = .ok (.astore 4, 2) := by decide +kernel
theorem dX6_label_29 : decode cX6_label 29 = .ok (.aload_n 3, 1) := by decide +kernel
theorem dX6_label_30 : decode cX6_label 30 = .ok (.aload 4, 2) := by decide +kernel
theorem dX6_label_32 : decode cX6_label 32 = .ok (.invokevirtual 231, 3) := by decide +kernel
theorem dX6_label_35 : decode cX6_label 35 = .ok (.iload_n 2, 1) := by decide +kernel
theorem dX6_label_36 : decode cX6_label 36 = .ok (.aload 4, 2) := by decide +kernel
theorem dX6_label_38 : decode cX6_label 38 = .ok (.invokevirtual 235, 3) := by decide +kernel
theorem dX6_label_41 : decode cX6_label 41 = .ok (.if_icmp .ge 12, 3) := by decide +kernel
theorem dX6_label_44 : decode cX6_label 44 = .ok (.aload 4, 2) := by decide +kernel
theorem dX6_label_46 : decode cX6_label 46 = .ok (.iload_n 2, 1) := by decide +kernel
theorem dX6_label_47 : decode cX6_label 47 = .ok (.invokevirtual 238, 3) := by decide +kernel
theorem dX6_label_50 : decode cX6_label 50 = .ok (.goto 4, 3) := by decide +kernel
theorem dX6_label_53 : decode cX6_label 53 = .ok (.iconst 0, 1) := by decide +kernel
theorem dX6_label_54 : decode cX6_label 54 = .ok (.ireturn, 1) := by decide +kernel
theorem dX6_findPlayer_0 : decode cX6_findPlayer 0 = .ok (.iload_n 1, 1) := by decide +kernel
theorem dX6_findPlayer_1 : decode cX6_findPlayer 1 = .ok (.ifCond .lt 21, 3) := by decide +kernel
theorem dX6_findPlayer_4 : decode cX6_findPlayer 4 = .ok (.iload_n 1, 1) := by decide +kernel
theorem dX6_findPlayer_5 : decode cX6_findPlayer 5 = .ok (.aload_n 0, 1) := by decide +kernel
theorem dX6_findPlayer_6 : decode cX6_findPlayer 6 = .ok (.getfield 11, 3) := by decide +kernel
theorem dX6_findPlayer_9 : decode cX6_findPlayer 9 = .ok (.arraylength, 1) := by decide +kernel
theorem dX6_findPlayer_10 : decode cX6_findPlayer 10 = .ok (.if_icmp .ge 12, 3) := by decide +kernel
theorem dX6_findPlayer_13 : decode cX6_findPlayer 13 = .ok (.aload_n 0, 1) := by decide +kernel
theorem dX6_findPlayer_14 : decode cX6_findPlayer 14 = .ok (.getfield 11, 3) := by decide +kernel
theorem dX6_findPlayer_17 : decode cX6_findPlayer 17 = .ok (.iload_n 1, 1) := by decide +kernel
theorem dX6_findPlayer_18 : decode cX6_findPlayer 18 = .ok (.aaload, 1) := by decide +kernel
theorem dX6_findPlayer_19 : decode cX6_findPlayer 19 = .ok (.goto 4, 3) := by decide +kernel
theorem dX6_findPlayer_22 : decode cX6_findPlayer 22 = .ok (.aconst_null, 1) := by decide +kernel
theorem dX6_findPlayer_23 : decode cX6_findPlayer 23 = .ok (.areturn, 1) := by decide +kernel
theorem dX6_playerAt_0 : decode cX6_playerAt 0 = .ok (.aload_n 0, 1) := by decide +kernel
theorem dX6_playerAt_1 : decode cX6_playerAt 1 = .ok (.iload_n 1, 1) := by decide +kernel
theorem dX6_playerAt_2 : decode cX6_playerAt 2 = .ok (.invokevirtual 242, 3) := by decide +kernel
theorem dX6_playerAt_5 : decode cX6_playerAt 5 = .ok (.astore_n 2, 1) := by decide +kernel
theorem dX6_playerAt_6 : decode cX6_playerAt 6 = .ok (.aload_n 2, 1) := by decide +kernel
theorem dX6_playerAt_7 : decode cX6_playerAt 7 = .ok (.ifnonnull 13, 3) := by decide +kernel
theorem dX6_playerAt_10 : decode cX6_playerAt 10 = .ok (.new 223, 3) := by decide +kernel
theorem dX6_playerAt_13 : decode cX6_playerAt 13 = .ok (.dup, 1) := by decide +kernel
theorem dX6_playerAt_14 : decode cX6_playerAt 14 = .ok (.ldc 245, 2) := by decide +kernel
theorem dX6_playerAt_16 : decode cX6_playerAt 16 = .ok (.invokespecial 227, 3) := by decide +kernel
theorem dX6_playerAt_19 : decode cX6_playerAt 19 = .ok (.athrow, 1) := by decide +kernel
theorem dX6_playerAt_20 : decode cX6_playerAt 20 = .ok (.aload_n 2, 1) := by decide +kernel
theorem dX6_playerAt_21 : decode cX6_playerAt 21 = .ok (.areturn, 1) := by decide +kernel
theorem dX6_regionAt_0 : decode cX6_regionAt 0 = .ok (.iload_n 1, 1) := by decide +kernel
theorem dX6_regionAt_1 : decode cX6_regionAt 1 = .ok (.ifCond .lt 21, 3) := by decide +kernel
theorem dX6_regionAt_4 : decode cX6_regionAt 4 = .ok (.iload_n 1, 1) := by decide +kernel
theorem dX6_regionAt_5 : decode cX6_regionAt 5 = .ok (.aload_n 0, 1) := by decide +kernel
theorem dX6_regionAt_6 : decode cX6_regionAt 6 = .ok (.getfield 35, 3) := by decide +kernel
theorem dX6_regionAt_9 : decode cX6_regionAt 9 = .ok (.arraylength, 1) := by decide +kernel
theorem dX6_regionAt_10 : decode cX6_regionAt 10 = .ok (.if_icmp .ge 12, 3) := by decide +kernel
theorem dX6_regionAt_13 : decode cX6_regionAt 13 = .ok (.aload_n 0, 1) := by decide +kernel
theorem dX6_regionAt_14 : decode cX6_regionAt 14 = .ok (.getfield 35, 3) := by decide +kernel
theorem dX6_regionAt_17 : decode cX6_regionAt 17 = .ok (.iload_n 1, 1) := by decide +kernel
theorem dX6_regionAt_18 : decode cX6_regionAt 18 = .ok (.aaload, 1) := by decide +kernel
theorem dX6_regionAt_19 : decode cX6_regionAt 19 = .ok (.goto 4, 3) := by decide +kernel
theorem dX6_regionAt_22 : decode cX6_regionAt 22 = .ok (.aconst_null, 1) := by decide +kernel
theorem dX6_regionAt_23 : decode cX6_regionAt 23 = .ok (.astore_n 2, 1) := by decide +kernel
theorem dX6_regionAt_24 : decode cX6_regionAt 24 = .ok (.aload_n 2, 1) := by decide +kernel
theorem dX6_regionAt_25 : decode cX6_regionAt 25 = .ok (.ifnonnull 13, 3) := by decide +kernel
theorem dX6_regionAt_28 : decode cX6_regionAt 28 = .ok (.new 223, 3) := by decide +kernel
theorem dX6_regionAt_31 : decode cX6_regionAt 31 = .ok (.dup, 1) := by decide +kernel
theorem dX6_regionAt_32 : decode cX6_regionAt 32 = .ok (.ldc 247, 2) := by decide +kernel
theorem dX6_regionAt_34 : decode cX6_regionAt 34 = .ok (.invokespecial 227, 3) := by decide +kernel
theorem dX6_regionAt_37 : decode cX6_regionAt 37 = .ok (.athrow, 1) := by decide +kernel
theorem dX6_regionAt_38 : decode cX6_regionAt 38 = .ok (.aload_n 2, 1) := by decide +kernel
theorem dX6_regionAt_39 : decode cX6_regionAt 39 = .ok (.areturn, 1) := by decide +kernel
theorem dX6_matchAt_0 : decode cX6_matchAt 0 = .ok (.iload_n 1, 1) := by decide +kernel
theorem dX6_matchAt_1 : decode cX6_matchAt 1 = .ok (.ifCond .lt 21, 3) := by decide +kernel
theorem dX6_matchAt_4 : decode cX6_matchAt 4 = .ok (.iload_n 1, 1) := by decide +kernel
theorem dX6_matchAt_5 : decode cX6_matchAt 5 = .ok (.aload_n 0, 1) := by decide +kernel
theorem dX6_matchAt_6 : decode cX6_matchAt 6 = .ok (.getfield 17, 3) := by decide +kernel
theorem dX6_matchAt_9 : decode cX6_matchAt 9 = .ok (.arraylength, 1) := by decide +kernel
theorem dX6_matchAt_10 : decode cX6_matchAt 10 = .ok (.if_icmp .ge 12, 3) := by decide +kernel
theorem dX6_matchAt_13 : decode cX6_matchAt 13 = .ok (.aload_n 0, 1) := by decide +kernel
theorem dX6_matchAt_14 : decode cX6_matchAt 14 = .ok (.getfield 17, 3) := by decide +kernel
theorem dX6_matchAt_17 : decode cX6_matchAt 17 = .ok (.iload_n 1, 1) := by decide +kernel
theorem dX6_matchAt_18 : decode cX6_matchAt 18 = .ok (.aaload, 1) := by decide +kernel
theorem dX6_matchAt_19 : decode cX6_matchAt 19 = .ok (.goto 4, 3) := by decide +kernel
theorem dX6_matchAt_22 : decode cX6_matchAt 22 = .ok (.aconst_null, 1) := by decide +kernel
theorem dX6_matchAt_23 : decode cX6_matchAt 23 = .ok (.astore_n 2, 1) := by decide +kernel
theorem dX6_matchAt_24 : decode cX6_matchAt 24 = .ok (.aload_n 2, 1) := by decide +kernel
theorem dX6_matchAt_25 : decode cX6_matchAt 25 = .ok (.ifnonnull 13, 3) := by decide +kernel
theorem dX6_matchAt_28 : decode cX6_matchAt 28 = .ok (.new 223, 3) := by decide +kernel
theorem dX6_matchAt_31 : decode cX6_matchAt 31 = .ok (.dup, 1) := by decide +kernel
theorem dX6_matchAt_32 : decode cX6_matchAt 32 = .ok (.ldc 249, 2) := by decide +kernel
theorem dX6_matchAt_34 : decode cX6_matchAt 34 = .ok (.invokespecial 227, 3) := by decide +kernel
theorem dX6_matchAt_37 : decode cX6_matchAt 37 = .ok (.athrow, 1) := by decide +kernel
theorem dX6_matchAt_38 : decode cX6_matchAt 38 = .ok (.aload_n 2, 1) := by decide +kernel
theorem dX6_matchAt_39 : decode cX6_matchAt 39 = .ok (.areturn, 1) := by decide +kernel
theorem dX6_seasonAt_0 : decode cX6_seasonAt 0 = .ok (.iload_n 1, 1) := by decide +kernel
theorem dX6_seasonAt_1 : decode cX6_seasonAt 1 = .ok (.ifCond .lt 21, 3) := by decide +kernel
theorem dX6_seasonAt_4 : decode cX6_seasonAt 4 = .ok (.iload_n 1, 1) := by decide +kernel
theorem dX6_seasonAt_5 : decode cX6_seasonAt 5 = .ok (.aload_n 0, 1) := by decide +kernel
theorem dX6_seasonAt_6 : decode cX6_seasonAt 6 = .ok (.getfield 23, 3) := by decide +kernel
theorem dX6_seasonAt_9 : decode cX6_seasonAt 9 = .ok (.arraylength, 1) := by decide +kernel
theorem dX6_seasonAt_10 : decode cX6_seasonAt 10 = .ok (.if_icmp .ge 12, 3) := by decide +kernel
theorem dX6_seasonAt_13 : decode cX6_seasonAt 13 = .ok (.aload_n 0, 1) := by decide +kernel
theorem dX6_seasonAt_14 : decode cX6_seasonAt 14 = .ok (.getfield 23, 3) := by decide +kernel
theorem dX6_seasonAt_17 : decode cX6_seasonAt 17 = .ok (.iload_n 1, 1) := by decide +kernel
theorem dX6_seasonAt_18 : decode cX6_seasonAt 18 = .ok (.aaload, 1) := by decide +kernel
theorem dX6_seasonAt_19 : decode cX6_seasonAt 19 = .ok (.goto 4, 3) := by decide +kernel
theorem dX6_seasonAt_22 : decode cX6_seasonAt 22 = .ok (.aconst_null, 1) := by decide +kernel
theorem dX6_seasonAt_23 : decode cX6_seasonAt 23 = .ok (.astore_n 2, 1) := by decide +kernel
theorem dX6_seasonAt_24 : decode cX6_seasonAt 24 = .ok (.aload_n 2, 1) := by decide +kernel
theorem dX6_seasonAt_25 : decode cX6_seasonAt 25 = .ok (.ifnonnull 13, 3) := by decide +kernel
theorem dX6_seasonAt_28 : decode cX6_seasonAt 28 = .ok (.new 223, 3) := by decide +kernel
theorem dX6_seasonAt_31 : decode cX6_seasonAt 31 = .ok (.dup, 1) := by decide +kernel
theorem dX6_seasonAt_32 : decode cX6_seasonAt 32 = .ok (.ldc 251, 2) := by decide +kernel
theorem dX6_seasonAt_34 : decode cX6_seasonAt 34 = .ok (.invokespecial 227, 3) := by decide +kernel
theorem dX6_seasonAt_37 : decode cX6_seasonAt 37 = .ok (.athrow, 1) := by decide +kernel
theorem dX6_seasonAt_38 : decode cX6_seasonAt 38 = .ok (.aload_n 2, 1) := by decide +kernel
theorem dX6_seasonAt_39 : decode cX6_seasonAt 39 = .ok (.areturn, 1) := by decide +kernel
theorem dX6_skinAt_0 : decode cX6_skinAt 0 = .ok (.iload_n 1, 1) := by decide +kernel
theorem dX6_skinAt_1 : decode cX6_skinAt 1 = .ok (.ifCond .lt 21, 3) := by decide +kernel
theorem dX6_skinAt_4 : decode cX6_skinAt 4 = .ok (.iload_n 1, 1) := by decide +kernel
theorem dX6_skinAt_5 : decode cX6_skinAt 5 = .ok (.aload_n 0, 1) := by decide +kernel
theorem dX6_skinAt_6 : decode cX6_skinAt 6 = .ok (.getfield 29, 3) := by decide +kernel
theorem dX6_skinAt_9 : decode cX6_skinAt 9 = .ok (.arraylength, 1) := by decide +kernel
theorem dX6_skinAt_10 : decode cX6_skinAt 10 = .ok (.if_icmp .ge 12, 3) := by decide +kernel
theorem dX6_skinAt_13 : decode cX6_skinAt 13 = .ok (.aload_n 0, 1) := by decide +kernel
theorem dX6_skinAt_14 : decode cX6_skinAt 14 = .ok (.getfield 29, 3) := by decide +kernel
theorem dX6_skinAt_17 : decode cX6_skinAt 17 = .ok (.iload_n 1, 1) := by decide +kernel
theorem dX6_skinAt_18 : decode cX6_skinAt 18 = .ok (.aaload, 1) := by decide +kernel
theorem dX6_skinAt_19 : decode cX6_skinAt 19 = .ok (.goto 4, 3) := by decide +kernel
theorem dX6_skinAt_22 : decode cX6_skinAt 22 = .ok (.aconst_null, 1) := by decide +kernel
theorem dX6_skinAt_23 : decode cX6_skinAt 23 = .ok (.astore_n 2, 1) := by decide +kernel
theorem dX6_skinAt_24 : decode cX6_skinAt 24 = .ok (.aload_n 2, 1) := by decide +kernel
theorem dX6_skinAt_25 : decode cX6_skinAt 25 = .ok (.ifnonnull 13, 3) := by decide +kernel
theorem dX6_skinAt_28 : decode cX6_skinAt 28 = .ok (.new 223, 3) := by decide +kernel
theorem dX6_skinAt_31 : decode cX6_skinAt 31 = .ok (.dup, 1) := by decide +kernel
theorem dX6_skinAt_32 : decode cX6_skinAt 32 = .ok (.ldc 253, 2) := by decide +kernel
theorem dX6_skinAt_34 : decode cX6_skinAt 34 = .ok (.invokespecial 227, 3) := by decide +kernel
theorem dX6_skinAt_37 : decode cX6_skinAt 37 = .ok (.athrow, 1) := by decide +kernel
theorem dX6_skinAt_38 : decode cX6_skinAt 38 = .ok (.aload_n 2, 1) := by decide +kernel
theorem dX6_skinAt_39 : decode cX6_skinAt 39 = .ok (.areturn, 1) := by decide +kernel
theorem dX6_numberOf_0 : decode cX6_numberOf 0 = .ok (.aload_n 0, 1) := by decide +kernel
theorem dX6_numberOf_1 : decode cX6_numberOf 1 = .ok (.ifnonnull 7, 3) := by decide +kernel
theorem dX6_numberOf_4 : decode cX6_numberOf 4 = .ok (.iconst (-1), 1) := by decide +kernel
theorem dX6_numberOf_5 : decode cX6_numberOf 5 = .ok (.goto 7, 3) := by decide +kernel
theorem dX6_numberOf_8 : decode cX6_numberOf 8 = .ok (.aload_n 0, 1) := by decide +kernel
theorem dX6_numberOf_9 : decode cX6_numberOf 9 = .ok (.getfield 183, 3) := by decide +kernel
theorem dX6_numberOf_12 : decode cX6_numberOf 12 = .ok (.ireturn, 1) := by decide +kernel
theorem dX6_awardPrizes_0 : decode cX6_awardPrizes 0 = .ok (.iconst 0, 1) := by decide +kernel
theorem dX6_awardPrizes_1 : decode cX6_awardPrizes 1 = .ok (.istore_n 1, 1) := by decide +kernel
theorem dX6_awardPrizes_2 : decode cX6_awardPrizes 2 = .ok (.iconst 1, 1) := by decide +kernel
theorem dX6_awardPrizes_3 : decode cX6_awardPrizes 3 = .ok (.istore_n 2, 1) := by decide +kernel
theorem dX6_awardPrizes_4 : decode cX6_awardPrizes 4 = .ok (.iload_n 2, 1) := by decide +kernel
theorem dX6_awardPrizes_5 : decode cX6_awardPrizes 5 = .ok (.iconst 3, 1) := by decide +kernel
theorem dX6_awardPrizes_6 : decode cX6_awardPrizes 6 = .ok (.if_icmp .gt 77, 3) := by decide +kernel
theorem dX6_awardPrizes_9 : decode cX6_awardPrizes 9 = .ok (.aload_n 0, 1) := by decide +kernel
theorem dX6_awardPrizes_10 : decode cX6_awardPrizes 10 = .ok (.aload_n 0, 1) := by decide +kernel
theorem dX6_awardPrizes_11 : decode cX6_awardPrizes 11 = .ok (.getfield 43, 3) := by decide +kernel
theorem dX6_awardPrizes_14 : decode cX6_awardPrizes 14 = .ok (.iload_n 2, 1) := by decide +kernel
theorem dX6_awardPrizes_15 : decode cX6_awardPrizes 15 = .ok (.invokevirtual 255, 3) := by decide +kernel
theorem dX6_awardPrizes_18 : decode cX6_awardPrizes 18 = .ok (.invokevirtual 242, 3) := by decide +kernel
theorem dX6_awardPrizes_21 : decode cX6_awardPrizes 21 = .ok (.astore_n 3, 1) := by decide +kernel
theorem dX6_awardPrizes_22 : decode cX6_awardPrizes 22 = .ok (.aload_n 3, 1) := by decide +kernel
theorem dX6_awardPrizes_23 : decode cX6_awardPrizes 23 = .ok (.ifnull 54, 3) := by decide +kernel
theorem dX6_awardPrizes_26 : decode cX6_awardPrizes 26 = .ok (.aload_n 0, 1) := by decide +kernel
theorem dX6_awardPrizes_27 : decode cX6_awardPrizes 27 = .ok (.getfield 258, 3) := by decide +kernel
theorem dX6_awardPrizes_30 : decode cX6_awardPrizes 30 = .ok (.aload_n 0, 1) := by decide +kernel
theorem dX6_awardPrizes_31 : decode cX6_awardPrizes 31 = .ok (.getfield 29, 3) := by decide +kernel
theorem dX6_awardPrizes_34 : decode cX6_awardPrizes 34 = .ok (.arraylength, 1) := by decide +kernel
theorem dX6_awardPrizes_35 : decode cX6_awardPrizes 35 = .ok (.if_icmp .ge 42, 3) := by decide +kernel
theorem dX6_awardPrizes_38 : decode cX6_awardPrizes 38 = .ok (.aload_n 0, 1) := by decide +kernel
theorem dX6_awardPrizes_39 : decode cX6_awardPrizes 39 = .ok (.getfield 29, 3) := by decide +kernel
theorem dX6_awardPrizes_42 : decode cX6_awardPrizes 42 = .ok (.aload_n 0, 1) := by decide +kernel
theorem dX6_awardPrizes_43 : decode cX6_awardPrizes 43 = .ok (.getfield 258, 3) := by decide +kernel
theorem dX6_awardPrizes_46 : decode cX6_awardPrizes 46 = .ok (.new 27, 3) := by decide +kernel
theorem dX6_awardPrizes_49 : decode cX6_awardPrizes 49 = .ok (.dup, 1) := by decide +kernel
theorem dX6_awardPrizes_50 : decode cX6_awardPrizes 50 = .ok (.aload_n 0, 1) := by decide +kernel
theorem dX6_awardPrizes_51 : decode cX6_awardPrizes 51 = .ok (.getfield 258, 3) := by decide +kernel
theorem dX6_awardPrizes_54 : decode cX6_awardPrizes 54 = .ok (.aload_n 0, 1) := by decide +kernel
theorem dX6_awardPrizes_55 : decode cX6_awardPrizes 55 = .ok (.getfield 43, 3) := by decide +kernel
theorem dX6_awardPrizes_58 : decode cX6_awardPrizes 58 = .ok (.iload_n 2, 1) := by decide +kernel
theorem dX6_awardPrizes_59 : decode cX6_awardPrizes 59 = .ok (.aload_n 3, 1) := by decide +kernel
theorem dX6_awardPrizes_60 : decode cX6_awardPrizes 60 = .ok (.invokespecial 261, 3) := by decide +kernel
theorem dX6_awardPrizes_63 : decode cX6_awardPrizes 63 = .ok (.aastore, 1) := by decide +kernel
theorem dX6_awardPrizes_64 : decode cX6_awardPrizes 64 = .ok (.aload_n 0, 1) := by decide +kernel
theorem dX6_awardPrizes_65 : decode cX6_awardPrizes 65 = .ok (.dup, 1) := by decide +kernel
theorem dX6_awardPrizes_66 : decode cX6_awardPrizes 66 = .ok (.getfield 258, 3) := by decide +kernel
theorem dX6_awardPrizes_69 : decode cX6_awardPrizes 69 = .ok (.iconst 1, 1) := by decide +kernel
theorem dX6_awardPrizes_70 : decode cX6_awardPrizes 70 = .ok (.iadd, 1) := by decide +kernel
theorem dX6_awardPrizes_71 : decode cX6_awardPrizes 71 = .ok (.putfield 258, 3) := by decide +kernel
theorem dX6_awardPrizes_74 : decode cX6_awardPrizes 74 = .ok (.iinc 1 1, 3) := by decide +kernel
theorem dX6_awardPrizes_77 : decode cX6_awardPrizes 77 = .ok (.iinc 2 1, 3) := by decide +kernel
theorem dX6_awardPrizes_80 : decode cX6_awardPrizes 80 = .ok (.goto (-76), 3) := by decide +kernel
theorem dX6_awardPrizes_83 : decode cX6_awardPrizes 83 = .ok (.iload_n 1, 1) := by decide +kernel
theorem dX6_awardPrizes_84 : decode cX6_awardPrizes 84 = .ok (.ireturn, 1) := by decide +kernel
theorem dX6_mayDeal_0 : decode cX6_mayDeal 0 = .ok (.aload_n 1, 1) := by decide +kernel
theorem dX6_mayDeal_1 : decode cX6_mayDeal 1 = .ok (.ifnull 38, 3) := by decide +kernel
theorem dX6_mayDeal_4 : decode cX6_mayDeal 4 = .ok (.aload_n 2, 1) := by decide +kernel
theorem dX6_mayDeal_5 : decode cX6_mayDeal 5 = .ok (.ifnull 34, 3) := by decide +kernel
theorem dX6_mayDeal_8 : decode cX6_mayDeal 8 = .ok (.aload_n 1, 1) := by decide +kernel
theorem dX6_mayDeal_9 : decode cX6_mayDeal 9 = .ok (.aload_n 2, 1) := by decide +kernel
theorem dX6_mayDeal_10 : decode cX6_mayDeal 10 = .ok (.if_acmp .eq 29, 3) := by decide +kernel
theorem dX6_mayDeal_13 : decode cX6_mayDeal 13 = .ok (.aload_n 1, 1) := by decide +kernel
theorem dX6_mayDeal_14 : decode cX6_mayDeal 14 = .ok (.aload_n 0, 1) := by decide +kernel
theorem dX6_mayDeal_15 : decode cX6_mayDeal 15 = .ok (.getfield 89, 3) := by decide +kernel
theorem dX6_mayDeal_18 : decode cX6_mayDeal 18 = .ok (.invokevirtual 92, 3) := by decide +kernel
theorem dX6_mayDeal_21 : decode cX6_mayDeal 21 = .ok (.ifCond .ne 18, 3) := by decide +kernel
theorem dX6_mayDeal_24 : decode cX6_mayDeal 24 = .ok (.aload_n 2, 1) := by decide +kernel
theorem dX6_mayDeal_25 : decode cX6_mayDeal 25 = .ok (.aload_n 0, 1) := by decide +kernel
theorem dX6_mayDeal_26 : decode cX6_mayDeal 26 = .ok (.getfield 89, 3) := by decide +kernel
theorem dX6_mayDeal_29 : decode cX6_mayDeal 29 = .ok (.invokevirtual 92, 3) := by decide +kernel
theorem dX6_mayDeal_32 : decode cX6_mayDeal 32 = .ok (.ifCond .ne 7, 3) := by decide +kernel
theorem dX6_mayDeal_35 : decode cX6_mayDeal 35 = .ok (.iconst 1, 1) := by decide +kernel
theorem dX6_mayDeal_36 : decode cX6_mayDeal 36 = .ok (.goto 4, 3) := by decide +kernel
theorem dX6_mayDeal_39 : decode cX6_mayDeal 39 = .ok (.iconst 0, 1) := by decide +kernel
theorem dX6_mayDeal_40 : decode cX6_mayDeal 40 = .ok (.ireturn, 1) := by decide +kernel
theorem dX6_findHeirsAnew_0 : decode cX6_findHeirsAnew 0 = .ok (.aload_n 0, 1) := by decide +kernel
theorem dX6_findHeirsAnew_1 : decode cX6_findHeirsAnew 1 = .ok (.invokevirtual 264, 3) := by decide +kernel
theorem dX6_findHeirsAnew_4 : decode cX6_findHeirsAnew 4 = .ok (.iconst 0, 1) := by decide +kernel
theorem dX6_findHeirsAnew_5 : decode cX6_findHeirsAnew 5 = .ok (.istore_n 1, 1) := by decide +kernel
theorem dX6_findHeirsAnew_6 : decode cX6_findHeirsAnew 6 = .ok (.iload_n 1, 1) := by decide +kernel
theorem dX6_findHeirsAnew_7 : decode cX6_findHeirsAnew 7 = .ok (.aload_n 0, 1) := by decide +kernel
theorem dX6_findHeirsAnew_8 : decode cX6_findHeirsAnew 8 = .ok (.getfield 29, 3) := by decide +kernel
theorem dX6_findHeirsAnew_11 : decode cX6_findHeirsAnew 11 = .ok (.arraylength, 1) := by decide +kernel
theorem dX6_findHeirsAnew_12 : decode cX6_findHeirsAnew 12 = .ok (.if_icmp .ge 39, 3) := by decide +kernel
theorem dX6_findHeirsAnew_15 : decode cX6_findHeirsAnew 15 = .ok (.aload_n 0, 1) := by decide +kernel
theorem dX6_findHeirsAnew_16 : decode cX6_findHeirsAnew 16 = .ok (.getfield 29, 3) := by decide +kernel
theorem dX6_findHeirsAnew_19 : decode cX6_findHeirsAnew 19 = .ok (.iload_n 1, 1) := by decide +kernel
theorem dX6_findHeirsAnew_20 : decode cX6_findHeirsAnew 20 = .ok (.aaload, 1) := by decide +kernel
theorem dX6_findHeirsAnew_21 : decode cX6_findHeirsAnew 21 = .ok (.astore_n 2, 1) := by decide +kernel
theorem dX6_findHeirsAnew_22 : decode cX6_findHeirsAnew 22 = .ok (.aload_n 2, 1) := by decide +kernel
theorem dX6_findHeirsAnew_23 : decode cX6_findHeirsAnew 23 = .ok (.ifnull 22, 3) := by decide +kernel
theorem dX6_findHeirsAnew_26 : decode cX6_findHeirsAnew 26 = .ok (.aload_n 2, 1) := by decide +kernel
theorem dX6_findHeirsAnew_27 : decode cX6_findHeirsAnew 27 = .ok (.aload_n 0, 1) := by decide +kernel
theorem dX6_findHeirsAnew_28 : decode cX6_findHeirsAnew 28 = .ok (.aload_n 2, 1) := by decide +kernel
theorem dX6_findHeirsAnew_29 : decode cX6_findHeirsAnew 29 = .ok (.getfield 206, 3) := by decide +kernel
theorem dX6_findHeirsAnew_32 : decode cX6_findHeirsAnew 32 = .ok (.aload_n 2, 1) := by decide +kernel
theorem dX6_findHeirsAnew_33 : decode cX6_findHeirsAnew 33 = .ok (.getfield 209, 3) := by decide +kernel
theorem dX6_findHeirsAnew_36 : decode cX6_findHeirsAnew 36 = .ok (.invokevirtual 255, 3) := by decide +kernel
theorem dX6_findHeirsAnew_39 : decode cX6_findHeirsAnew 39 = .ok (.invokevirtual 242, 3) := by decide +kernel
theorem dX6_findHeirsAnew_42 : decode cX6_findHeirsAnew 42 = .ok (.invokevirtual 267, 3) := by decide +kernel
theorem dX6_findHeirsAnew_45 : decode cX6_findHeirsAnew 45 = .ok (.iinc 1 1, 3) := by decide +kernel
theorem dX6_findHeirsAnew_48 : decode cX6_findHeirsAnew 48 = .ok (.goto (-42), 3) := by decide +kernel
theorem dX6_findHeirsAnew_51 : decode cX6_findHeirsAnew 51 = .ok (.return_, 1) := by decide +kernel
theorem dX6_countPointsAnew_0 : decode cX6_countPointsAnew 0 = .ok (.iconst 0, 1) := by decide +kernel
theorem dX6_countPointsAnew_1 : decode cX6_countPointsAnew 1 = .ok (.istore_n 1, 1) := by decide +kernel
theorem dX6_countPointsAnew_2 : decode cX6_countPointsAnew 2 = .ok (.iload_n 1, 1) := by decide +kernel
theorem dX6_countPointsAnew_3 : decode cX6_countPointsAnew 3 = .ok (.aload_n 0, 1) := by decide +kernel
theorem dX6_countPointsAnew_4 : decode cX6_countPointsAnew 4 = .ok (.getfield 23, 3) := by decide +kernel
theorem dX6_countPointsAnew_7 : decode cX6_countPointsAnew 7 = .ok (.arraylength, 1) := by decide +kernel
theorem dX6_countPointsAnew_8 : decode cX6_countPointsAnew 8 = .ok (.if_icmp .ge 24, 3) := by decide +kernel
theorem dX6_countPointsAnew_11 : decode cX6_countPointsAnew 11 = .ok (.aload_n 0, 1) := by decide +kernel
theorem dX6_countPointsAnew_12 : decode cX6_countPointsAnew 12 = .ok (.getfield 23, 3) := by decide +kernel
theorem dX6_countPointsAnew_15 : decode cX6_countPointsAnew 15 = .ok (.iload_n 1, 1) := by decide +kernel
theorem dX6_countPointsAnew_16 : decode cX6_countPointsAnew 16 = .ok (.aaload, 1) := by decide +kernel
theorem dX6_countPointsAnew_17 : decode cX6_countPointsAnew 17 = .ok (.astore_n 2, 1) := by decide +kernel
theorem dX6_countPointsAnew_18 : decode cX6_countPointsAnew 18 = .ok (.aload_n 2, 1) := by decide +kernel
theorem dX6_countPointsAnew_19 : decode cX6_countPointsAnew 19 = .ok (.ifnull 7, 3) := by decide +kernel
theorem dX6_countPointsAnew_22 : decode cX6_countPointsAnew 22 = .ok (.aload_n 2, 1) := by decide +kernel
theorem dX6_countPointsAnew_23 : decode cX6_countPointsAnew 23 = .ok (.invokevirtual 271, 3) := by decide +kernel
theorem dX6_countPointsAnew_26 : decode cX6_countPointsAnew 26 = .ok (.iinc 1 1, 3) := by decide +kernel
theorem dX6_countPointsAnew_29 : decode cX6_countPointsAnew 29 = .ok (.goto (-27), 3) := by decide +kernel
theorem dX6_countPointsAnew_32 : decode cX6_countPointsAnew 32 = .ok (.iconst 0, 1) := by decide +kernel
theorem dX6_countPointsAnew_33 : decode cX6_countPointsAnew 33 = .ok (.istore_n 1, 1) := by decide +kernel
theorem dX6_countPointsAnew_34 : decode cX6_countPointsAnew 34 = .ok (.iload_n 1, 1) := by decide +kernel
theorem dX6_countPointsAnew_35 : decode cX6_countPointsAnew 35 = .ok (.aload_n 0, 1) := by decide +kernel
theorem dX6_countPointsAnew_36 : decode cX6_countPointsAnew 36 = .ok (.getfield 17, 3) := by decide +kernel
theorem dX6_countPointsAnew_39 : decode cX6_countPointsAnew 39 = .ok (.arraylength, 1) := by decide +kernel
theorem dX6_countPointsAnew_40 : decode cX6_countPointsAnew 40 = .ok (.if_icmp .ge 24, 3) := by decide +kernel
theorem dX6_countPointsAnew_43 : decode cX6_countPointsAnew 43 = .ok (.aload_n 0, 1) := by decide +kernel
theorem dX6_countPointsAnew_44 : decode cX6_countPointsAnew 44 = .ok (.getfield 17, 3) := by decide +kernel
theorem dX6_countPointsAnew_47 : decode cX6_countPointsAnew 47 = .ok (.iload_n 1, 1) := by decide +kernel
theorem dX6_countPointsAnew_48 : decode cX6_countPointsAnew 48 = .ok (.aaload, 1) := by decide +kernel
theorem dX6_countPointsAnew_49 : decode cX6_countPointsAnew 49 = .ok (.astore_n 2, 1) := by decide +kernel
theorem dX6_countPointsAnew_50 : decode cX6_countPointsAnew 50 = .ok (.aload_n 2, 1) := by decide +kernel
theorem dX6_countPointsAnew_51 : decode cX6_countPointsAnew 51 = .ok (.ifnull 7, 3) := by decide +kernel
theorem dX6_countPointsAnew_54 : decode cX6_countPointsAnew 54 = .ok (.aload_n 2, 1) := by decide +kernel
theorem dX6_countPointsAnew_55 : decode cX6_countPointsAnew 55 = .ok (.invokevirtual 101, 3) := by decide +kernel
theorem dX6_countPointsAnew_58 : decode cX6_countPointsAnew 58 = .ok (.iinc 1 1, 3) := by decide +kernel
theorem dX6_countPointsAnew_61 : decode cX6_countPointsAnew 61 = .ok (.goto (-27), 3) := by decide +kernel
theorem dX6_countPointsAnew_64 : decode cX6_countPointsAnew 64 = .ok (.return_, 1) := by decide +kernel
theorem dX6_countFallenMatches_0 : decode cX6_countFallenMatches 0 = .ok (.iconst 0, 1) := by decide +kernel
theorem dX6_countFallenMatches_1 : decode cX6_countFallenMatches 1 = .ok (.istore_n 1, 1) := by decide +kernel
theorem dX6_countFallenMatches_2 : decode cX6_countFallenMatches 2 = .ok (.iconst 0, 1) := by decide +kernel
theorem dX6_countFallenMatches_3 : decode cX6_countFallenMatches 3 = .ok (.istore_n 2, 1) := by decide +kernel
theorem dX6_countFallenMatches_4 : decode cX6_countFallenMatches 4 = .ok (.iload_n 2, 1) := by decide +kernel
theorem dX6_countFallenMatches_5 : decode cX6_countFallenMatches 5 = .ok (.aload_n 0, 1) := by decide +kernel
theorem dX6_countFallenMatches_6 : decode cX6_countFallenMatches 6 = .ok (.getfield 17, 3) := by decide +kernel
theorem dX6_countFallenMatches_9 : decode cX6_countFallenMatches 9 = .ok (.arraylength, 1) := by decide +kernel
theorem dX6_countFallenMatches_10 : decode cX6_countFallenMatches 10 = .ok (.if_icmp .ge 30, 3) := by decide +kernel
theorem dX6_countFallenMatches_13 : decode cX6_countFallenMatches 13 = .ok (.aload_n 0, 1) := by decide +kernel
theorem dX6_countFallenMatches_14 : decode cX6_countFallenMatches 14 = .ok (.getfield 17, 3) := by decide +kernel
theorem dX6_countFallenMatches_17 : decode cX6_countFallenMatches 17 = .ok (.iload_n 2, 1) := by decide +kernel
theorem dX6_countFallenMatches_18 : decode cX6_countFallenMatches 18 = .ok (.aaload, 1) := by decide +kernel
theorem dX6_countFallenMatches_19 : decode cX6_countFallenMatches 19 = .ok (.astore_n 3, 1) := by decide +kernel
theorem dX6_countFallenMatches_20 : decode cX6_countFallenMatches 20 = .ok (.aload_n 3, 1) := by decide +kernel
theorem dX6_countFallenMatches_21 : decode cX6_countFallenMatches 21 = .ok (.ifnull 13, 3) := by decide +kernel
theorem dX6_countFallenMatches_24 : decode cX6_countFallenMatches 24 = .ok (.aload_n 3, 1) := by decide +kernel
theorem dX6_countFallenMatches_25 : decode cX6_countFallenMatches 25 = .ok (.invokevirtual 176, 3) := by decide +kernel
theorem dX6_countFallenMatches_28 : decode cX6_countFallenMatches 28 = .ok (.ifCond .ne 6, 3) := by decide +kernel
theorem dX6_countFallenMatches_31 : decode cX6_countFallenMatches 31 = .ok (.iinc 1 1, 3) := by decide +kernel
theorem dX6_countFallenMatches_34 : decode cX6_countFallenMatches 34 = .ok (.iinc 2 1, 3) := by decide +kernel
theorem dX6_countFallenMatches_37 : decode cX6_countFallenMatches 37 = .ok (.goto (-33), 3) := by decide +kernel
theorem dX6_countFallenMatches_40 : decode cX6_countFallenMatches 40 = .ok (.iload_n 1, 1) := by decide +kernel
theorem dX6_countFallenMatches_41 : decode cX6_countFallenMatches 41 = .ok (.ireturn, 1) := by decide +kernel
