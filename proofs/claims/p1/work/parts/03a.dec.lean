theorem dX0_init_0 : decode cX0_init 0 = .ok (.aload_n 0, 1) := by decide +kernel
theorem dX0_init_1 : decode cX0_init 1 = .ok (.invokespecial 3, 3) := by decide +kernel
theorem dX0_init_4 : decode cX0_init 4 = .ok (.aload_n 0, 1) := by decide +kernel
theorem dX0_init_5 : decode cX0_init 5 = .ok (.bipush 12, 2) := by decide +kernel
theorem dX0_init_7 : decode cX0_init 7 = .ok (.newarray .int, 2) := by decide +kernel
theorem dX0_init_9 : decode cX0_init 9 = .ok (.putfield 9, 3) := by decide +kernel
theorem dX0_init_12 : decode cX0_init 12 = .ok (.aload_n 0, 1) := by decide +kernel
theorem dX0_init_13 : decode cX0_init 13 = .ok (.bipush 13, 2) := by decide +kernel
theorem dX0_init_15 : decode cX0_init 15 = .ok (.newarray .int, 2) := by decide +kernel
theorem dX0_init_17 : decode cX0_init 17 = .ok (.putfield 15, 3) := by decide +kernel
theorem dX0_init_20 : decode cX0_init 20 = .ok (.aload_n 0, 1) := by decide +kernel
theorem dX0_init_21 : decode cX0_init 21 = .ok (.aload_n 1, 1) := by decide +kernel
theorem dX0_init_22 : decode cX0_init 22 = .ok (.putfield 18, 3) := by decide +kernel
theorem dX0_init_25 : decode cX0_init 25 = .ok (.aload_n 0, 1) := by decide +kernel
theorem dX0_init_26 : decode cX0_init 26 = .ok (.aload_n 2, 1) := by decide +kernel
theorem dX0_init_27 : decode cX0_init 27 = .ok (.putfield 22, 3) := by decide +kernel
theorem dX0_init_30 : decode cX0_init 30 = .ok (.aload_n 0, 1) := by decide +kernel
theorem dX0_init_31 : decode cX0_init 31 = .ok (.aload_n 3, 1) := by decide +kernel
theorem dX0_init_32 : decode cX0_init 32 = .ok (.putfield 26, 3) := by decide +kernel
theorem dX0_init_35 : decode cX0_init 35 = .ok (.return_, 1) := by decide +kernel
theorem dX0_form_0 : decode cX0_form 0 = .ok (.aload_n 0, 1) := by decide +kernel
theorem dX0_form_1 : decode cX0_form 1 = .ok (.getfield 26, 3) := by decide +kernel
theorem dX0_form_4 : decode cX0_form 4 = .ok (.invokevirtual 30, 3) := by decide +kernel
theorem dX0_form_7 : decode cX0_form 7 = .ok (.aload_n 0, 1) := by decide +kernel
theorem dX0_form_8 : decode cX0_form 8 = .ok (.invokevirtual 35, 3) := by decide +kernel
theorem dX0_form_11 : decode cX0_form 11 = .ok (.istore_n 1, 1) := by decide +kernel
theorem dX0_form_12 : decode cX0_form 12 = .ok (.aload_n 0, 1) := by decide +kernel
theorem dX0_form_13 : decode cX0_form 13 = .ok (.iconst 0, 1) := by decide +kernel
theorem dX0_form_14 : decode cX0_form 14 = .ok (.putfield 39, 3) := by decide +kernel
theorem dX0_form_17 : decode cX0_form 17 = .ok (.iconst 1, 1) := by decide +kernel
theorem dX0_form_18 : decode cX0_form 18 = .ok (.istore_n 2, 1) := by decide +kernel
theorem dX0_form_19 : decode cX0_form 19 = .ok (.iload_n 2, 1) := by decide +kernel
theorem dX0_form_20 : decode cX0_form 20 = .ok (.iload_n 1, 1) := by decide +kernel
theorem dX0_form_21 : decode cX0_form 21 = .ok (.if_icmp .ge 37, 3) := by decide +kernel
theorem dX0_form_58 : decode cX0_form 58 = .ok (.iload_n 1, 1) := by decide +kernel
theorem dX0_form_59 : decode cX0_form 59 = .ok (.ifCond .le 23, 3) := by decide +kernel
theorem dX0_form_82 : decode cX0_form 82 = .ok (.return_, 1) := by decide +kernel
theorem dX0_gatherMembers_0 : decode cX0_gatherMembers 0 = .ok (.iconst 0, 1) := by decide +kernel
theorem dX0_gatherMembers_1 : decode cX0_gatherMembers 1 = .ok (.istore_n 1, 1) := by decide +kernel
theorem dX0_gatherMembers_2 : decode cX0_gatherMembers 2 = .ok (.iconst 0, 1) := by decide +kernel
theorem dX0_gatherMembers_3 : decode cX0_gatherMembers 3 = .ok (.istore_n 2, 1) := by decide +kernel
theorem dX0_gatherMembers_4 : decode cX0_gatherMembers 4 = .ok (.iload_n 2, 1) := by decide +kernel
theorem dX0_gatherMembers_5 : decode cX0_gatherMembers 5 = .ok (.aload_n 0, 1) := by decide +kernel
theorem dX0_gatherMembers_6 : decode cX0_gatherMembers 6 = .ok (.getfield 18, 3) := by decide +kernel
theorem dX0_gatherMembers_9 : decode cX0_gatherMembers 9 = .ok (.getfield 47, 3) := by decide +kernel
theorem dX0_gatherMembers_12 : decode cX0_gatherMembers 12 = .ok (.if_icmp .ge 41, 3) := by decide +kernel
theorem dX0_gatherMembers_53 : decode cX0_gatherMembers 53 = .ok (.iload_n 1, 1) := by decide +kernel
theorem dX0_gatherMembers_54 : decode cX0_gatherMembers 54 = .ok (.ireturn, 1) := by decide +kernel
theorem dX1_init_0 : decode cX1_init 0 = .ok (.aload_n 0, 1) := by decide +kernel
theorem dX1_init_1 : decode cX1_init 1 = .ok (.invokespecial 3, 3) := by decide +kernel
theorem dX1_init_4 : decode cX1_init 4 = .ok (.aload_n 0, 1) := by decide +kernel
theorem dX1_init_5 : decode cX1_init 5 = .ok (.bipush 6, 2) := by decide +kernel
theorem dX1_init_7 : decode cX1_init 7 = .ok (.anewarray 9, 3) := by decide +kernel
theorem dX1_init_10 : decode cX1_init 10 = .ok (.putfield 11, 3) := by decide +kernel
theorem dX1_init_13 : decode cX1_init 13 = .ok (.aload_n 0, 1) := by decide +kernel
theorem dX1_init_14 : decode cX1_init 14 = .ok (.aload_n 1, 1) := by decide +kernel
theorem dX1_init_15 : decode cX1_init 15 = .ok (.putfield 17, 3) := by decide +kernel
theorem dX1_init_18 : decode cX1_init 18 = .ok (.iconst 0, 1) := by decide +kernel
theorem dX1_init_19 : decode cX1_init 19 = .ok (.istore_n 2, 1) := by decide +kernel
theorem dX1_init_20 : decode cX1_init 20 = .ok (.iload_n 2, 1) := by decide +kernel
theorem dX1_init_21 : decode cX1_init 21 = .ok (.bipush 6, 2) := by decide +kernel
theorem dX1_init_23 : decode cX1_init 23 = .ok (.if_icmp .ge 22, 3) := by decide +kernel
theorem dX1_init_26 : decode cX1_init 26 = .ok (.aload_n 0, 1) := by decide +kernel
theorem dX1_init_27 : decode cX1_init 27 = .ok (.getfield 11, 3) := by decide +kernel
theorem dX1_init_30 : decode cX1_init 30 = .ok (.iload_n 2, 1) := by decide +kernel
theorem dX1_init_31 : decode cX1_init 31 = .ok (.new 9, 3) := by decide +kernel
theorem dX1_init_34 : decode cX1_init 34 = .ok (.dup, 1) := by decide +kernel
theorem dX1_init_35 : decode cX1_init 35 = .ok (.invokespecial 21, 3) := by decide +kernel
theorem dX1_init_38 : decode cX1_init 38 = .ok (.aastore, 1) := by decide +kernel
theorem dX1_init_39 : decode cX1_init 39 = .ok (.iinc 2 1, 3) := by decide +kernel
theorem dX1_init_42 : decode cX1_init 42 = .ok (.goto (-22), 3) := by decide +kernel
theorem dX1_init_45 : decode cX1_init 45 = .ok (.return_, 1) := by decide +kernel
theorem dX1_roomCount_0 : decode cX1_roomCount 0 = .ok (.iconst 0, 1) := by decide +kernel
theorem dX1_roomCount_1 : decode cX1_roomCount 1 = .ok (.istore_n 1, 1) := by decide +kernel
theorem dX1_roomCount_2 : decode cX1_roomCount 2 = .ok (.iconst 0, 1) := by decide +kernel
theorem dX1_roomCount_3 : decode cX1_roomCount 3 = .ok (.istore_n 2, 1) := by decide +kernel
theorem dX1_roomCount_4 : decode cX1_roomCount 4 = .ok (.iload_n 2, 1) := by decide +kernel
theorem dX1_roomCount_5 : decode cX1_roomCount 5 = .ok (.aload_n 0, 1) := by decide +kernel
theorem dX1_roomCount_6 : decode cX1_roomCount 6 = .ok (.getfield 22, 3) := by decide +kernel
theorem dX1_roomCount_9 : decode cX1_roomCount 9 = .ok (.if_icmp .ge 21, 3) := by decide +kernel
theorem dX1_roomCount_30 : decode cX1_roomCount 30 = .ok (.iload_n 1, 1) := by decide +kernel
theorem dX1_roomCount_31 : decode cX1_roomCount 31 = .ok (.ireturn, 1) := by decide +kernel
theorem dX2_init_0 : decode cX2_init 0 = .ok (.aload_n 0, 1) := by decide +kernel
theorem dX2_init_1 : decode cX2_init 1 = .ok (.invokespecial 3, 3) := by decide +kernel
theorem dX2_init_4 : decode cX2_init 4 = .ok (.aload_n 0, 1) := by decide +kernel
theorem dX2_init_5 : decode cX2_init 5 = .ok (.sipush 144, 3) := by decide +kernel
theorem dX2_init_8 : decode cX2_init 8 = .ok (.newarray .int, 2) := by decide +kernel
theorem dX2_init_10 : decode cX2_init 10 = .ok (.putfield 9, 3) := by decide +kernel
theorem dX2_init_13 : decode cX2_init 13 = .ok (.aload_n 0, 1) := by decide +kernel
theorem dX2_init_14 : decode cX2_init 14 = .ok (.bipush 12, 2) := by decide +kernel
theorem dX2_init_16 : decode cX2_init 16 = .ok (.newarray .int, 2) := by decide +kernel
theorem dX2_init_18 : decode cX2_init 18 = .ok (.putfield 15, 3) := by decide +kernel
theorem dX2_init_21 : decode cX2_init 21 = .ok (.aload_n 0, 1) := by decide +kernel
theorem dX2_init_22 : decode cX2_init 22 = .ok (.bipush 12, 2) := by decide +kernel
theorem dX2_init_24 : decode cX2_init 24 = .ok (.newarray .int, 2) := by decide +kernel
theorem dX2_init_26 : decode cX2_init 26 = .ok (.putfield 18, 3) := by decide +kernel
theorem dX2_init_29 : decode cX2_init 29 = .ok (.return_, 1) := by decide +kernel
theorem dX3_init_0 : decode cX3_init 0 = .ok (.aload_n 0, 1) := by decide +kernel
theorem dX3_init_1 : decode cX3_init 1 = .ok (.invokespecial 3, 3) := by decide +kernel
theorem dX3_init_4 : decode cX3_init 4 = .ok (.aload_n 0, 1) := by decide +kernel
theorem dX3_init_5 : decode cX3_init 5 = .ok (.bipush 8, 2) := by decide +kernel
theorem dX3_init_7 : decode cX3_init 7 = .ok (.newarray .int, 2) := by decide +kernel
theorem dX3_init_9 : decode cX3_init 9 = .ok (.putfield 9, 3) := by decide +kernel
theorem dX3_init_12 : decode cX3_init 12 = .ok (.aload_n 0, 1) := by decide +kernel
theorem dX3_init_13 : decode cX3_init 13 = .ok (.bipush 8, 2) := by decide +kernel
theorem dX3_init_15 : decode cX3_init 15 = .ok (.newarray .boolean, 2) := by decide +kernel
theorem dX3_init_17 : decode cX3_init 17 = .ok (.putfield 15, 3) := by decide +kernel
theorem dX3_init_20 : decode cX3_init 20 = .ok (.aload_n 0, 1) := by decide +kernel
theorem dX3_init_21 : decode cX3_init 21 = .ok (.aload_n 1, 1) := by decide +kernel
theorem dX3_init_22 : decode cX3_init 22 = .ok (.putfield 19, 3) := by decide +kernel
theorem dX3_init_25 : decode cX3_init 25 = .ok (.return_, 1) := by decide +kernel
theorem dX4_init_0 : decode cX4_init 0 = .ok (.aload_n 0, 1) := by decide +kernel
theorem dX4_init_1 : decode cX4_init 1 = .ok (.invokespecial 3, 3) := by decide +kernel
theorem dX4_init_4 : decode cX4_init 4 = .ok (.aload_n 0, 1) := by decide +kernel
theorem dX4_init_5 : decode cX4_init 5 = .ok (.bipush 12, 2) := by decide +kernel
theorem dX4_init_7 : decode cX4_init 7 = .ok (.newarray .int, 2) := by decide +kernel
theorem dX4_init_9 : decode cX4_init 9 = .ok (.putfield 9, 3) := by decide +kernel
theorem dX4_init_12 : decode cX4_init 12 = .ok (.aload_n 0, 1) := by decide +kernel
theorem dX4_init_13 : decode cX4_init 13 = .ok (.bipush 12, 2) := by decide +kernel
theorem dX4_init_15 : decode cX4_init 15 = .ok (.newarray .int, 2) := by decide +kernel
theorem dX4_init_17 : decode cX4_init 17 = .ok (.putfield 15, 3) := by decide +kernel
theorem dX4_init_20 : decode cX4_init 20 = .ok (.aload_n 0, 1) := by decide +kernel
theorem dX4_init_21 : decode cX4_init 21 = .ok (.bipush 6, 2) := by decide +kernel
theorem dX4_init_23 : decode cX4_init 23 = .ok (.newarray .int, 2) := by decide +kernel
theorem dX4_init_25 : decode cX4_init 25 = .ok (.putfield 18, 3) := by decide +kernel
theorem dX4_init_28 : decode cX4_init 28 = .ok (.aload_n 0, 1) := by decide +kernel
theorem dX4_init_29 : decode cX4_init 29 = .ok (.aload_n 1, 1) := by decide +kernel
theorem dX4_init_30 : decode cX4_init 30 = .ok (.putfield 21, 3) := by decide +kernel
theorem dX4_init_33 : decode cX4_init 33 = .ok (.aload_n 0, 1) := by decide +kernel
theorem dX4_init_34 : decode cX4_init 34 = .ok (.aload_n 2, 1) := by decide +kernel
theorem dX4_init_35 : decode cX4_init 35 = .ok (.putfield 25, 3) := by decide +kernel
theorem dX4_init_38 : decode cX4_init 38 = .ok (.aload_n 0, 1) := by decide +kernel
theorem dX4_init_39 : decode cX4_init 39 = .ok (.aload_n 3, 1) := by decide +kernel
theorem dX4_init_40 : decode cX4_init 40 = .ok (.putfield 29, 3) := by decide +kernel
theorem dX4_init_43 : decode cX4_init 43 = .ok (.return_, 1) := by decide +kernel
theorem dX4_sort_0 : decode cX4_sort 0 = .ok (.iconst 0, 1) := by decide +kernel
theorem dX4_sort_1 : decode cX4_sort 1 = .ok (.istore_n 1, 1) := by decide +kernel
theorem dX4_sort_2 : decode cX4_sort 2 = .ok (.iload_n 1, 1) := by decide +kernel
theorem dX4_sort_3 : decode cX4_sort 3 = .ok (.aload_n 0, 1) := by decide +kernel
theorem dX4_sort_4 : decode cX4_sort 4 = .ok (.getfield 21, 3) := by decide +kernel
theorem dX4_sort_7 : decode cX4_sort 7 = .ok (.getfield 33, 3) := by decide +kernel
theorem dX4_sort_10 : decode cX4_sort 10 = .ok (.if_icmp .ge 27, 3) := by decide +kernel
theorem dX4_sort_37 : decode cX4_sort 37 = .ok (.iconst 0, 1) := by decide +kernel
theorem dX4_sort_38 : decode cX4_sort 38 = .ok (.istore_n 1, 1) := by decide +kernel
theorem dX4_sort_39 : decode cX4_sort 39 = .ok (.iload_n 1, 1) := by decide +kernel
theorem dX4_sort_40 : decode cX4_sort 40 = .ok (.aload_n 0, 1) := by decide +kernel
theorem dX4_sort_41 : decode cX4_sort 41 = .ok (.getfield 21, 3) := by decide +kernel
theorem dX4_sort_44 : decode cX4_sort 44 = .ok (.getfield 33, 3) := by decide +kernel
theorem dX4_sort_47 : decode cX4_sort 47 = .ok (.if_icmp .ge 58, 3) := by decide +kernel
theorem dX4_sort_105 : decode cX4_sort 105 = .ok (.return_, 1) := by decide +kernel
theorem dX4_breakingTeam_0 : decode cX4_breakingTeam 0 = .ok (.aload_n 0, 1) := by decide +kernel
theorem dX4_breakingTeam_1 : decode cX4_breakingTeam 1 = .ok (.getfield 18, 3) := by decide +kernel
theorem dX4_breakingTeam_4 : decode cX4_breakingTeam 4 = .ok (.iconst 0, 1) := by decide +kernel
theorem dX4_breakingTeam_5 : decode cX4_breakingTeam 5 = .ok (.invokestatic 57, 3) := by decide +kernel
theorem dX4_breakingTeam_8 : decode cX4_breakingTeam 8 = .ok (.iconst 0, 1) := by decide +kernel
theorem dX4_breakingTeam_9 : decode cX4_breakingTeam 9 = .ok (.istore_n 2, 1) := by decide +kernel
theorem dX4_breakingTeam_10 : decode cX4_breakingTeam 10 = .ok (.iconst 0, 1) := by decide +kernel
theorem dX4_breakingTeam_11 : decode cX4_breakingTeam 11 = .ok (.istore_n 3, 1) := by decide +kernel
theorem dX4_breakingTeam_12 : decode cX4_breakingTeam 12 = .ok (.iload_n 3, 1) := by decide +kernel
theorem dX4_breakingTeam_13 : decode cX4_breakingTeam 13 = .ok (.aload_n 0, 1) := by decide +kernel
theorem dX4_breakingTeam_14 : decode cX4_breakingTeam 14 = .ok (.getfield 21, 3) := by decide +kernel
theorem dX4_breakingTeam_17 : decode cX4_breakingTeam 17 = .ok (.getfield 33, 3) := by decide +kernel
theorem dX4_breakingTeam_20 : decode cX4_breakingTeam 20 = .ok (.if_icmp .ge 62, 3) := by decide +kernel
theorem dX4_breakingTeam_82 : decode cX4_breakingTeam 82 = .ok (.iconst (-1), 1) := by decide +kernel
theorem dX4_breakingTeam_83 : decode cX4_breakingTeam 83 = .ok (.ireturn, 1) := by decide +kernel
theorem dX5_init_0 : decode cX5_init 0 = .ok (.aload_n 0, 1) := by decide +kernel
theorem dX5_init_1 : decode cX5_init 1 = .ok (.invokespecial 3, 3) := by decide +kernel
theorem dX5_init_4 : decode cX5_init 4 = .ok (.aload_n 0, 1) := by decide +kernel
theorem dX5_init_5 : decode cX5_init 5 = .ok (.bipush 12, 2) := by decide +kernel
theorem dX5_init_7 : decode cX5_init 7 = .ok (.newarray .int, 2) := by decide +kernel
theorem dX5_init_9 : decode cX5_init 9 = .ok (.putfield 9, 3) := by decide +kernel
theorem dX5_init_12 : decode cX5_init 12 = .ok (.aload_n 0, 1) := by decide +kernel
theorem dX5_init_13 : decode cX5_init 13 = .ok (.bipush 12, 2) := by decide +kernel
theorem dX5_init_15 : decode cX5_init 15 = .ok (.newarray .boolean, 2) := by decide +kernel
theorem dX5_init_17 : decode cX5_init 17 = .ok (.putfield 15, 3) := by decide +kernel
theorem dX5_init_20 : decode cX5_init 20 = .ok (.aload_n 0, 1) := by decide +kernel
theorem dX5_init_21 : decode cX5_init 21 = .ok (.bipush 12, 2) := by decide +kernel
theorem dX5_init_23 : decode cX5_init 23 = .ok (.newarray .int, 2) := by decide +kernel
theorem dX5_init_25 : decode cX5_init 25 = .ok (.putfield 19, 3) := by decide +kernel
theorem dX5_init_28 : decode cX5_init 28 = .ok (.aload_n 0, 1) := by decide +kernel
theorem dX5_init_29 : decode cX5_init 29 = .ok (.bipush 8, 2) := by decide +kernel
theorem dX5_init_31 : decode cX5_init 31 = .ok (.newarray .int, 2) := by decide +kernel
theorem dX5_init_33 : decode cX5_init 33 = .ok (.putfield 22, 3) := by decide +kernel
theorem dX5_init_36 : decode cX5_init 36 = .ok (.aload_n 0, 1) := by decide +kernel
theorem dX5_init_37 : decode cX5_init 37 = .ok (.bipush 8, 2) := by decide +kernel
theorem dX5_init_39 : decode cX5_init 39 = .ok (.newarray .int, 2) := by decide +kernel
theorem dX5_init_41 : decode cX5_init 41 = .ok (.putfield 25, 3) := by decide +kernel
theorem dX5_init_44 : decode cX5_init 44 = .ok (.aload_n 0, 1) := by decide +kernel
theorem dX5_init_45 : decode cX5_init 45 = .ok (.bipush 8, 2) := by decide +kernel
theorem dX5_init_47 : decode cX5_init 47 = .ok (.newarray .int, 2) := by decide +kernel
theorem dX5_init_49 : decode cX5_init 49 = .ok (.putfield 28, 3) := by decide +kernel
theorem dX5_init_52 : decode cX5_init 52 = .ok (.return_, 1) := by decide +kernel
theorem dX5_hasTeam_0 : decode cX5_hasTeam 0 = .ok (.iload_n 1, 1) := by decide +kernel
theorem dX5_hasTeam_1 : decode cX5_hasTeam 1 = .ok (.ifCond .lt 15, 3) := by decide +kernel
theorem dX5_hasTeam_4 : decode cX5_hasTeam 4 = .ok (.iload_n 1, 1) := by decide +kernel
theorem dX5_hasTeam_5 : decode cX5_hasTeam 5 = .ok (.aload_n 0, 1) := by decide +kernel
theorem dX5_hasTeam_6 : decode cX5_hasTeam 6 = .ok (.getfield 31, 3) := by decide +kernel
theorem dX5_hasTeam_9 : decode cX5_hasTeam 9 = .ok (.if_icmp .ge 7, 3) := by decide +kernel
theorem dX5_hasTeam_16 : decode cX5_hasTeam 16 = .ok (.iconst 0, 1) := by decide +kernel
theorem dX5_hasTeam_17 : decode cX5_hasTeam 17 = .ok (.ireturn, 1) := by decide +kernel
theorem dX5_hasJudge_0 : decode cX5_hasJudge 0 = .ok (.iload_n 1, 1) := by decide +kernel
theorem dX5_hasJudge_1 : decode cX5_hasJudge 1 = .ok (.ifCond .lt 15, 3) := by decide +kernel
theorem dX5_hasJudge_4 : decode cX5_hasJudge 4 = .ok (.iload_n 1, 1) := by decide +kernel
theorem dX5_hasJudge_5 : decode cX5_hasJudge 5 = .ok (.aload_n 0, 1) := by decide +kernel
theorem dX5_hasJudge_6 : decode cX5_hasJudge 6 = .ok (.getfield 35, 3) := by decide +kernel
theorem dX5_hasJudge_9 : decode cX5_hasJudge 9 = .ok (.if_icmp .ge 7, 3) := by decide +kernel
theorem dX5_hasJudge_16 : decode cX5_hasJudge 16 = .ok (.iconst 0, 1) := by decide +kernel
theorem dX5_hasJudge_17 : decode cX5_hasJudge 17 = .ok (.ireturn, 1) := by decide +kernel
theorem dX5_enterTeam_0 : decode cX5_enterTeam 0 = .ok (.aload_n 0, 1) := by decide +kernel
theorem dX5_enterTeam_1 : decode cX5_enterTeam 1 = .ok (.getfield 31, 3) := by decide +kernel
theorem dX5_enterTeam_4 : decode cX5_enterTeam 4 = .ok (.istore_n 2, 1) := by decide +kernel
theorem dX5_enterTeam_5 : decode cX5_enterTeam 5 = .ok (.iload_n 2, 1) := by decide +kernel
theorem dX5_enterTeam_6 : decode cX5_enterTeam 6 = .ok (.bipush 12, 2) := by decide +kernel
theorem dX5_enterTeam_8 : decode cX5_enterTeam 8 = .ok (.if_icmp .ge 34, 3) := by decide +kernel
theorem dX5_enterTeam_11 : decode cX5_enterTeam 11 = .ok (.aload_n 0, 1) := by decide +kernel
theorem dX5_enterTeam_12 : decode cX5_enterTeam 12 = .ok (.getfield 9, 3) := by decide +kernel
theorem dX5_enterTeam_15 : decode cX5_enterTeam 15 = .ok (.iload_n 2, 1) := by decide +kernel
theorem dX5_enterTeam_16 : decode cX5_enterTeam 16 = .ok (.iload_n 1, 1) := by decide +kernel
theorem dX5_enterTeam_17 : decode cX5_enterTeam 17 = .ok (.iastore, 1) := by decide +kernel
theorem dX5_enterTeam_18 : decode cX5_enterTeam 18 = .ok (.aload_n 0, 1) := by decide +kernel
theorem dX5_enterTeam_19 : decode cX5_enterTeam 19 = .ok (.getfield 15, 3) := by decide +kernel
theorem dX5_enterTeam_22 : decode cX5_enterTeam 22 = .ok (.iload_n 2, 1) := by decide +kernel
theorem dX5_enterTeam_23 : decode cX5_enterTeam 23 = .ok (.iconst 1, 1) := by decide +kernel
theorem dX5_enterTeam_24 : decode cX5_enterTeam 24 = .ok (.bastore, 1) := by decide +kernel
theorem dX5_enterTeam_25 : decode cX5_enterTeam 25 = .ok (.aload_n 0, 1) := by decide +kernel
theorem dX5_enterTeam_26 : decode cX5_enterTeam 26 = .ok (.getfield 19, 3) := by decide +kernel
theorem dX5_enterTeam_29 : decode cX5_enterTeam 29 = .ok (.iload_n 2, 1) := by decide +kernel
theorem dX5_enterTeam_30 : decode cX5_enterTeam 30 = .ok (.iconst (-1), 1) := by decide +kernel
theorem dX5_enterTeam_31 : decode cX5_enterTeam 31 = .ok (.iastore, 1) := by decide +kernel
theorem dX5_enterTeam_32 : decode cX5_enterTeam 32 = .ok (.aload_n 0, 1) := by decide +kernel
theorem dX5_enterTeam_33 : decode cX5_enterTeam 33 = .ok (.dup, 1) := by decide +kernel
theorem dX5_enterTeam_34 : decode cX5_enterTeam 34 = .ok (.getfield 31, 3) := by decide +kernel
theorem dX5_enterTeam_37 : decode cX5_enterTeam 37 = .ok (.iconst 1, 1) := by decide +kernel
theorem dX5_enterTeam_38 : decode cX5_enterTeam 38 = .ok (.iadd, 1) := by decide +kernel
theorem dX5_enterTeam_39 : decode cX5_enterTeam 39 = .ok (.putfield 31, 3) := by decide +kernel
theorem dX5_enterTeam_42 : decode cX5_enterTeam 42 = .ok (.iload_n 2, 1) := by decide +kernel
theorem dX5_enterTeam_43 : decode cX5_enterTeam 43 = .ok (.ireturn, 1) := by decide +kernel
theorem dX5_enterJudge_0 : decode cX5_enterJudge 0 = .ok (.aload_n 0, 1) := by decide +kernel
theorem dX5_enterJudge_1 : decode cX5_enterJudge 1 = .ok (.getfield 35, 3) := by decide +kernel
theorem dX5_enterJudge_4 : decode cX5_enterJudge 4 = .ok (.istore_n 3, 1) := by decide +kernel
theorem dX5_enterJudge_5 : decode cX5_enterJudge 5 = .ok (.iload_n 3, 1) := by decide +kernel
theorem dX5_enterJudge_6 : decode cX5_enterJudge 6 = .ok (.bipush 8, 2) := by decide +kernel
theorem dX5_enterJudge_8 : decode cX5_enterJudge 8 = .ok (.if_icmp .ge 27, 3) := by decide +kernel
theorem dX5_enterJudge_11 : decode cX5_enterJudge 11 = .ok (.aload_n 0, 1) := by decide +kernel
theorem dX5_enterJudge_12 : decode cX5_enterJudge 12 = .ok (.getfield 22, 3) := by decide +kernel
theorem dX5_enterJudge_15 : decode cX5_enterJudge 15 = .ok (.iload_n 3, 1) := by decide +kernel
theorem dX5_enterJudge_16 : decode cX5_enterJudge 16 = .ok (.iload_n 1, 1) := by decide +kernel
theorem dX5_enterJudge_17 : decode cX5_enterJudge 17 = .ok (.iastore, 1) := by decide +kernel
theorem dX5_enterJudge_18 : decode cX5_enterJudge 18 = .ok (.aload_n 0, 1) := by decide +kernel
theorem dX5_enterJudge_19 : decode cX5_enterJudge 19 = .ok (.getfield 25, 3) := by decide +kernel
theorem dX5_enterJudge_22 : decode cX5_enterJudge 22 = .ok (.iload_n 3, 1) := by decide +kernel
theorem dX5_enterJudge_23 : decode cX5_enterJudge 23 = .ok (.iload_n 2, 1) := by decide +kernel
theorem dX5_enterJudge_24 : decode cX5_enterJudge 24 = .ok (.iastore, 1) := by decide +kernel
theorem dX5_enterJudge_25 : decode cX5_enterJudge 25 = .ok (.aload_n 0, 1) := by decide +kernel
theorem dX5_enterJudge_26 : decode cX5_enterJudge 26 = .ok (.dup, 1) := by decide +kernel
theorem dX5_enterJudge_27 : decode cX5_enterJudge 27 = .ok (.getfield 35, 3) := by decide +kernel
theorem dX5_enterJudge_30 : decode cX5_enterJudge 30 = .ok (.iconst 1, 1) := by decide +kernel
theorem dX5_enterJudge_31 : decode cX5_enterJudge 31 = .ok (.iadd, 1) := by decide +kernel
theorem dX5_enterJudge_32 : decode cX5_enterJudge 32 = .ok (.putfield 35, 3) := by decide +kernel
theorem dX5_enterJudge_35 : decode cX5_enterJudge 35 = .ok (.iload_n 3, 1) := by decide +kernel
theorem dX5_enterJudge_36 : decode cX5_enterJudge 36 = .ok (.ireturn, 1) := by decide +kernel
theorem dX5_presentTeams_0 : decode cX5_presentTeams 0 = .ok (.iconst 0, 1) := by decide +kernel
theorem dX5_presentTeams_1 : decode cX5_presentTeams 1 = .ok (.istore_n 1, 1) := by decide +kernel
theorem dX5_presentTeams_2 : decode cX5_presentTeams 2 = .ok (.iconst 0, 1) := by decide +kernel
theorem dX5_presentTeams_3 : decode cX5_presentTeams 3 = .ok (.istore_n 2, 1) := by decide +kernel
theorem dX5_presentTeams_4 : decode cX5_presentTeams 4 = .ok (.iload_n 2, 1) := by decide +kernel
theorem dX5_presentTeams_5 : decode cX5_presentTeams 5 = .ok (.aload_n 0, 1) := by decide +kernel
theorem dX5_presentTeams_6 : decode cX5_presentTeams 6 = .ok (.getfield 31, 3) := by decide +kernel
theorem dX5_presentTeams_9 : decode cX5_presentTeams 9 = .ok (.if_icmp .ge 21, 3) := by decide +kernel
theorem dX5_presentTeams_30 : decode cX5_presentTeams 30 = .ok (.iload_n 1, 1) := by decide +kernel
theorem dX5_presentTeams_31 : decode cX5_presentTeams 31 = .ok (.ireturn, 1) := by decide +kernel
theorem dX6_init_0 : decode cX6_init 0 = .ok (.aload_n 0, 1) := by decide +kernel
theorem dX6_init_1 : decode cX6_init 1 = .ok (.invokespecial 3, 3) := by decide +kernel
theorem dX6_init_4 : decode cX6_init 4 = .ok (.aload_n 0, 1) := by decide +kernel
theorem dX6_init_5 : decode cX6_init 5 = .ok (.bipush 6, 2) := by decide +kernel
theorem dX6_init_7 : decode cX6_init 7 = .ok (.newarray .int, 2) := by decide +kernel
theorem dX6_init_9 : decode cX6_init 9 = .ok (.putfield 9, 3) := by decide +kernel
theorem dX6_init_12 : decode cX6_init 12 = .ok (.aload_n 0, 1) := by decide +kernel
theorem dX6_init_13 : decode cX6_init 13 = .ok (.bipush 6, 2) := by decide +kernel
theorem dX6_init_15 : decode cX6_init 15 = .ok (.newarray .int, 2) := by decide +kernel
theorem dX6_init_17 : decode cX6_init 17 = .ok (.putfield 15, 3) := by decide +kernel
theorem dX6_init_20 : decode cX6_init 20 = .ok (.aload_n 0, 1) := by decide +kernel
theorem dX6_init_21 : decode cX6_init 21 = .ok (.bipush 6, 2) := by decide +kernel
theorem dX6_init_23 : decode cX6_init 23 = .ok (.newarray .int, 2) := by decide +kernel
theorem dX6_init_25 : decode cX6_init 25 = .ok (.putfield 18, 3) := by decide +kernel
theorem dX6_init_28 : decode cX6_init 28 = .ok (.aload_n 0, 1) := by decide +kernel
theorem dX6_init_29 : decode cX6_init 29 = .ok (.bipush 6, 2) := by decide +kernel
theorem dX6_init_31 : decode cX6_init 31 = .ok (.newarray .int, 2) := by decide +kernel
theorem dX6_init_33 : decode cX6_init 33 = .ok (.putfield 21, 3) := by decide +kernel
theorem dX6_init_36 : decode cX6_init 36 = .ok (.aload_n 0, 1) := by decide +kernel
theorem dX6_init_37 : decode cX6_init 37 = .ok (.bipush 6, 2) := by decide +kernel
theorem dX6_init_39 : decode cX6_init 39 = .ok (.newarray .int, 2) := by decide +kernel
theorem dX6_init_41 : decode cX6_init 41 = .ok (.putfield 24, 3) := by decide +kernel
theorem dX6_init_44 : decode cX6_init 44 = .ok (.aload_n 0, 1) := by decide +kernel
theorem dX6_init_45 : decode cX6_init 45 = .ok (.bipush 6, 2) := by decide +kernel
theorem dX6_init_47 : decode cX6_init 47 = .ok (.newarray .int, 2) := by decide +kernel
theorem dX6_init_49 : decode cX6_init 49 = .ok (.putfield 27, 3) := by decide +kernel
theorem dX6_init_52 : decode cX6_init 52 = .ok (.aload_n 0, 1) := by decide +kernel
theorem dX6_init_53 : decode cX6_init 53 = .ok (.bipush 6, 2) := by decide +kernel
theorem dX6_init_55 : decode cX6_init 55 = .ok (.newarray .char, 2) := by decide +kernel
theorem dX6_init_57 : decode cX6_init 57 = .ok (.putfield 30, 3) := by decide +kernel
theorem dX6_init_60 : decode cX6_init 60 = .ok (.aload_n 0, 1) := by decide +kernel
theorem dX6_init_61 : decode cX6_init 61 = .ok (.bipush 12, 2) := by decide +kernel
theorem dX6_init_63 : decode cX6_init 63 = .ok (.newarray .int, 2) := by decide +kernel
theorem dX6_init_65 : decode cX6_init 65 = .ok (.putfield 34, 3) := by decide +kernel
theorem dX6_init_68 : decode cX6_init 68 = .ok (.return_, 1) := by decide +kernel
theorem dX7_init_0 : decode cX7_init 0 = .ok (.aload_n 0, 1) := by decide +kernel
theorem dX7_init_1 : decode cX7_init 1 = .ok (.invokespecial 3, 3) := by decide +kernel
theorem dX7_init_4 : decode cX7_init 4 = .ok (.aload_n 0, 1) := by decide +kernel
theorem dX7_init_5 : decode cX7_init 5 = .ok (.bipush 12, 2) := by decide +kernel
theorem dX7_init_7 : decode cX7_init 7 = .ok (.newarray .int, 2) := by decide +kernel
theorem dX7_init_9 : decode cX7_init 9 = .ok (.putfield 9, 3) := by decide +kernel
theorem dX7_init_12 : decode cX7_init 12 = .ok (.aload_n 0, 1) := by decide +kernel
theorem dX7_init_13 : decode cX7_init 13 = .ok (.bipush 12, 2) := by decide +kernel
theorem dX7_init_15 : decode cX7_init 15 = .ok (.newarray .int, 2) := by decide +kernel
theorem dX7_init_17 : decode cX7_init 17 = .ok (.putfield 15, 3) := by decide +kernel
theorem dX7_init_20 : decode cX7_init 20 = .ok (.aload_n 0, 1) := by decide +kernel
theorem dX7_init_21 : decode cX7_init 21 = .ok (.bipush 24, 2) := by decide +kernel
theorem dX7_init_23 : decode cX7_init 23 = .ok (.newarray .int, 2) := by decide +kernel
theorem dX7_init_25 : decode cX7_init 25 = .ok (.putfield 18, 3) := by decide +kernel
theorem dX7_init_28 : decode cX7_init 28 = .ok (.aload_n 0, 1) := by decide +kernel
theorem dX7_init_29 : decode cX7_init 29 = .ok (.bipush 24, 2) := by decide +kernel
theorem dX7_init_31 : decode cX7_init 31 = .ok (.newarray .int, 2) := by decide +kernel
theorem dX7_init_33 : decode cX7_init 33 = .ok (.putfield 21, 3) := by decide +kernel
theorem dX7_init_36 : decode cX7_init 36 = .ok (.return_, 1) := by decide +kernel
theorem dX7_speakerAt_0 : decode cX7_speakerAt 0 = .ok (.iconst 0, 1) := by decide +kernel
theorem dX7_speakerAt_1 : decode cX7_speakerAt 1 = .ok (.istore_n 2, 1) := by decide +kernel
theorem dX7_speakerAt_2 : decode cX7_speakerAt 2 = .ok (.iload_n 2, 1) := by decide +kernel
theorem dX7_speakerAt_3 : decode cX7_speakerAt 3 = .ok (.aload_n 0, 1) := by decide +kernel
theorem dX7_speakerAt_4 : decode cX7_speakerAt 4 = .ok (.getfield 18, 3) := by decide +kernel
theorem dX7_speakerAt_7 : decode cX7_speakerAt 7 = .ok (.arraylength, 1) := by decide +kernel
theorem dX7_speakerAt_8 : decode cX7_speakerAt 8 = .ok (.if_icmp .ge 29, 3) := by decide +kernel
theorem dX7_speakerAt_11 : decode cX7_speakerAt 11 = .ok (.aload_n 0, 1) := by decide +kernel
theorem dX7_speakerAt_12 : decode cX7_speakerAt 12 = .ok (.getfield 18, 3) := by decide +kernel
theorem dX7_speakerAt_15 : decode cX7_speakerAt 15 = .ok (.iload_n 2, 1) := by decide +kernel
theorem dX7_speakerAt_16 : decode cX7_speakerAt 16 = .ok (.iaload, 1) := by decide +kernel
theorem dX7_speakerAt_17 : decode cX7_speakerAt 17 = .ok (.ifCond .le 14, 3) := by decide +kernel
theorem dX7_speakerAt_31 : decode cX7_speakerAt 31 = .ok (.iinc 2 1, 3) := by decide +kernel
theorem dX7_speakerAt_34 : decode cX7_speakerAt 34 = .ok (.goto (-32), 3) := by decide +kernel
theorem dX7_speakerAt_37 : decode cX7_speakerAt 37 = .ok (.iconst (-1), 1) := by decide +kernel
theorem dX7_speakerAt_38 : decode cX7_speakerAt 38 = .ok (.ireturn, 1) := by decide +kernel
theorem dX8_init_0 : decode cX8_init 0 = .ok (.aload_n 0, 1) := by decide +kernel
theorem dX8_init_1 : decode cX8_init 1 = .ok (.invokespecial 1, 3) := by decide +kernel
theorem dX8_init_4 : decode cX8_init 4 = .ok (.aload_n 0, 1) := by decide +kernel
theorem dX8_init_5 : decode cX8_init 5 = .ok (.new 7, 3) := by decide +kernel
theorem dX8_init_8 : decode cX8_init 8 = .ok (.dup, 1) := by decide +kernel
theorem dX8_init_9 : decode cX8_init 9 = .ok (.invokespecial 9, 3) := by decide +kernel
theorem dX8_init_12 : decode cX8_init 12 = .ok (.putfield 10, 3) := by decide +kernel
theorem dX8_init_15 : decode cX8_init 15 = .ok (.aload_n 0, 1) := by decide +kernel
theorem dX8_init_16 : decode cX8_init 16 = .ok (.new 16, 3) := by decide +kernel
theorem dX8_init_19 : decode cX8_init 19 = .ok (.dup, 1) := by decide +kernel
theorem dX8_init_20 : decode cX8_init 20 = .ok (.invokespecial 18, 3) := by decide +kernel
theorem dX8_init_23 : decode cX8_init 23 = .ok (.putfield 19, 3) := by decide +kernel
theorem dX8_init_26 : decode cX8_init 26 = .ok (.aload_n 0, 1) := by decide +kernel
theorem dX8_init_27 : decode cX8_init 27 = .ok (.new 23, 3) := by decide +kernel
theorem dX8_init_30 : decode cX8_init 30 = .ok (.dup, 1) := by decide +kernel
theorem dX8_init_31 : decode cX8_init 31 = .ok (.aload_n 0, 1) := by decide +kernel
theorem dX8_init_32 : decode cX8_init 32 = .ok (.getfield 10, 3) := by decide +kernel
theorem dX8_init_35 : decode cX8_init 35 = .ok (.invokespecial 25, 3) := by decide +kernel
theorem dX8_init_38 : decode cX8_init 38 = .ok (.putfield 28, 3) := by decide +kernel
theorem dX8_init_41 : decode cX8_init 41 = .ok (.aload_n 0, 1) := by decide +kernel
theorem dX8_init_42 : decode cX8_init 42 = .ok (.new 32, 3) := by decide +kernel
theorem dX8_init_45 : decode cX8_init 45 = .ok (.dup, 1) := by decide +kernel
theorem dX8_init_46 : decode cX8_init 46 = .ok (.aload_n 0, 1) := by decide +kernel
theorem dX8_init_47 : decode cX8_init 47 = .ok (.getfield 10, 3) := by decide +kernel
theorem dX8_init_50 : decode cX8_init 50 = .ok (.aload_n 0, 1) := by decide +kernel
theorem dX8_init_51 : decode cX8_init 51 = .ok (.getfield 19, 3) := by decide +kernel
theorem dX8_init_54 : decode cX8_init 54 = .ok (.aload_n 0, 1) := by decide +kernel
theorem dX8_init_55 : decode cX8_init 55 = .ok (.getfield 28, 3) := by decide +kernel
theorem dX8_init_58 : decode cX8_init 58 = .ok (.invokespecial 34, 3) := by decide +kernel
theorem dX8_init_61 : decode cX8_init 61 = .ok (.putfield 37, 3) := by decide +kernel
theorem dX8_init_64 : decode cX8_init 64 = .ok (.aload_n 0, 1) := by decide +kernel
theorem dX8_init_65 : decode cX8_init 65 = .ok (.new 41, 3) := by decide +kernel
theorem dX8_init_68 : decode cX8_init 68 = .ok (.dup, 1) := by decide +kernel
theorem dX8_init_69 : decode cX8_init 69 = .ok (.aload_n 0, 1) := by decide +kernel
theorem dX8_init_70 : decode cX8_init 70 = .ok (.getfield 10, 3) := by decide +kernel
theorem dX8_init_73 : decode cX8_init 73 = .ok (.aload_n 0, 1) := by decide +kernel
theorem dX8_init_74 : decode cX8_init 74 = .ok (.getfield 19, 3) := by decide +kernel
theorem dX8_init_77 : decode cX8_init 77 = .ok (.aload_n 0, 1) := by decide +kernel
theorem dX8_init_78 : decode cX8_init 78 = .ok (.getfield 37, 3) := by decide +kernel
theorem dX8_init_81 : decode cX8_init 81 = .ok (.invokespecial 43, 3) := by decide +kernel
theorem dX8_init_84 : decode cX8_init 84 = .ok (.putfield 46, 3) := by decide +kernel
theorem dX8_init_87 : decode cX8_init 87 = .ok (.aload_n 0, 1) := by decide +kernel
theorem dX8_init_88 : decode cX8_init 88 = .ok (.new 50, 3) := by decide +kernel
theorem dX8_init_91 : decode cX8_init 91 = .ok (.dup, 1) := by decide +kernel
theorem dX8_init_92 : decode cX8_init 92 = .ok (.invokespecial 52, 3) := by decide +kernel
theorem dX8_init_95 : decode cX8_init 95 = .ok (.putfield 53, 3) := by decide +kernel
theorem dX8_init_98 : decode cX8_init 98 = .ok (.aload_n 0, 1) := by decide +kernel
theorem dX8_init_99 : decode cX8_init 99 = .ok (.new 57, 3) := by decide +kernel
theorem dX8_init_102 : decode cX8_init 102 = .ok (.dup, 1) := by decide +kernel
theorem dX8_init_103 : decode cX8_init 103 = .ok (.aload_n 0, 1) := by decide +kernel
theorem dX8_init_104 : decode cX8_init 104 = .ok (.getfield 10, 3) := by decide +kernel
theorem dX8_init_107 : decode cX8_init 107 = .ok (.invokespecial 59, 3) := by decide +kernel
theorem dX8_init_110 : decode cX8_init 110 = .ok (.putfield 60, 3) := by decide +kernel
theorem dX8_init_113 : decode cX8_init 113 = .ok (.return_, 1) := by decide +kernel
theorem dX8_addTeam_0 : decode cX8_addTeam 0 = .ok (.iload_n 1, 1) := by decide +kernel
theorem dX8_addTeam_1 : decode cX8_addTeam 1 = .ok (.invokestatic 64, 3) := by decide +kernel
theorem dX8_addTeam_4 : decode cX8_addTeam 4 = .ok (.ifCond .ne 13, 3) := by decide +kernel
theorem dX8_addTeam_7 : decode cX8_addTeam 7 = .ok (.new 68, 3) := by decide +kernel
theorem dX8_addTeam_10 : decode cX8_addTeam 10 = .ok (.dup, 1) := by decide +kernel
theorem dX8_addTeam_11 : decode cX8_addTeam 11 = .ok (.ldc 70, 2) := by decide +kernel
theorem dX8_addTeam_13 : decode cX8_addTeam 13 = .ok (.invokespecial 72, 3) := by decide +kernel
theorem dX8_addTeam_16 : decode cX8_addTeam 16 = .ok (.athrow, 1) := by decide +kernel
theorem dX8_addTeam_17 : decode cX8_addTeam 17 = .ok (.aload_n 0, 1) := by decide +kernel
theorem dX8_addTeam_18 : decode cX8_addTeam 18 = .ok (.getfield 10, 3) := by decide +kernel
theorem dX8_addTeam_21 : decode cX8_addTeam 21 = .ok (.getfield 75, 3) := by decide +kernel
theorem dX8_addTeam_24 : decode cX8_addTeam 24 = .ok (.bipush 12, 2) := by decide +kernel
theorem dX8_addTeam_26 : decode cX8_addTeam 26 = .ok (.if_icmp .lt 13, 3) := by decide +kernel
theorem dX8_addTeam_39 : decode cX8_addTeam 39 = .ok (.aload_n 0, 1) := by decide +kernel
theorem dX8_addTeam_40 : decode cX8_addTeam 40 = .ok (.getfield 10, 3) := by decide +kernel
theorem dX8_addTeam_43 : decode cX8_addTeam 43 = .ok (.iload_n 1, 1) := by decide +kernel
theorem dX8_addTeam_44 : decode cX8_addTeam 44 = .ok (.invokevirtual 84, 3) := by decide +kernel
theorem dX8_addTeam_47 : decode cX8_addTeam 47 = .ok (.ireturn, 1) := by decide +kernel
theorem dX8_addJudge_0 : decode cX8_addJudge 0 = .ok (.iload_n 1, 1) := by decide +kernel
theorem dX8_addJudge_1 : decode cX8_addJudge 1 = .ok (.invokestatic 64, 3) := by decide +kernel
theorem dX8_addJudge_4 : decode cX8_addJudge 4 = .ok (.ifCond .eq 14, 3) := by decide +kernel
theorem dX8_addJudge_7 : decode cX8_addJudge 7 = .ok (.iload_n 2, 1) := by decide +kernel
theorem dX8_addJudge_8 : decode cX8_addJudge 8 = .ok (.iconst 1, 1) := by decide +kernel
theorem dX8_addJudge_9 : decode cX8_addJudge 9 = .ok (.if_icmp .lt 9, 3) := by decide +kernel
theorem dX8_addJudge_12 : decode cX8_addJudge 12 = .ok (.iload_n 2, 1) := by decide +kernel
theorem dX8_addJudge_13 : decode cX8_addJudge 13 = .ok (.bipush 9, 2) := by decide +kernel
theorem dX8_addJudge_15 : decode cX8_addJudge 15 = .ok (.if_icmp .le 13, 3) := by decide +kernel
theorem dX8_addJudge_18 : decode cX8_addJudge 18 = .ok (.new 68, 3) := by decide +kernel
theorem dX8_addJudge_21 : decode cX8_addJudge 21 = .ok (.dup, 1) := by decide +kernel
theorem dX8_addJudge_22 : decode cX8_addJudge 22 = .ok (.ldc 88, 2) := by decide +kernel
theorem dX8_addJudge_24 : decode cX8_addJudge 24 = .ok (.invokespecial 72, 3) := by decide +kernel
theorem dX8_addJudge_27 : decode cX8_addJudge 27 = .ok (.athrow, 1) := by decide +kernel
theorem dX8_addJudge_28 : decode cX8_addJudge 28 = .ok (.aload_n 0, 1) := by decide +kernel
theorem dX8_addJudge_29 : decode cX8_addJudge 29 = .ok (.getfield 10, 3) := by decide +kernel
theorem dX8_addJudge_32 : decode cX8_addJudge 32 = .ok (.getfield 90, 3) := by decide +kernel
theorem dX8_addJudge_35 : decode cX8_addJudge 35 = .ok (.bipush 8, 2) := by decide +kernel
theorem dX8_addJudge_37 : decode cX8_addJudge 37 = .ok (.if_icmp .lt 13, 3) := by decide +kernel
theorem dX8_addJudge_50 : decode cX8_addJudge 50 = .ok (.aload_n 0, 1) := by decide +kernel
theorem dX8_addJudge_51 : decode cX8_addJudge 51 = .ok (.getfield 10, 3) := by decide +kernel
theorem dX8_addJudge_54 : decode cX8_addJudge 54 = .ok (.iload_n 1, 1) := by decide +kernel
theorem dX8_addJudge_55 : decode cX8_addJudge 55 = .ok (.iload_n 2, 1) := by decide +kernel
theorem dX8_addJudge_56 : decode cX8_addJudge 56 = .ok (.invokevirtual 95, 3) := by decide +kernel
theorem dX8_addJudge_59 : decode cX8_addJudge 59 = .ok (.ireturn, 1) := by decide +kernel
theorem dX8_addConflict_0 : decode cX8_addConflict 0 = .ok (.aload_n 0, 1) := by decide +kernel
theorem dX8_addConflict_1 : decode cX8_addConflict 1 = .ok (.iload_n 1, 1) := by decide +kernel
theorem dX8_addConflict_2 : decode cX8_addConflict 2 = .ok (.invokevirtual 99, 3) := by decide +kernel
theorem dX8_setPresent_0 : decode cX8_setPresent 0 = .ok (.aload_n 0, 1) := by decide +kernel
theorem dX8_setPresent_1 : decode cX8_setPresent 1 = .ok (.iload_n 1, 1) := by decide +kernel
theorem dX8_setPresent_2 : decode cX8_setPresent 2 = .ok (.invokevirtual 103, 3) := by decide +kernel
theorem dX8_setIron_0 : decode cX8_setIron 0 = .ok (.aload_n 0, 1) := by decide +kernel
theorem dX8_setIron_1 : decode cX8_setIron 1 = .ok (.iload_n 1, 1) := by decide +kernel
theorem dX8_setIron_2 : decode cX8_setIron 2 = .ok (.invokevirtual 103, 3) := by decide +kernel
theorem dX8_draw_0 : decode cX8_draw 0 = .ok (.aload_n 0, 1) := by decide +kernel
theorem dX8_draw_1 : decode cX8_draw 1 = .ok (.getfield 28, 3) := by decide +kernel
theorem dX8_draw_4 : decode cX8_draw 4 = .ok (.getfield 130, 3) := by decide +kernel
theorem dX8_draw_7 : decode cX8_draw 7 = .ok (.bipush 6, 2) := by decide +kernel
theorem dX8_draw_9 : decode cX8_draw 9 = .ok (.if_icmp .lt 13, 3) := by decide +kernel
theorem dX8_draw_22 : decode cX8_draw 22 = .ok (.aload_n 0, 1) := by decide +kernel
theorem dX8_draw_23 : decode cX8_draw 23 = .ok (.getfield 28, 3) := by decide +kernel
theorem dX8_draw_26 : decode cX8_draw 26 = .ok (.getfield 130, 3) := by decide +kernel
theorem dX8_draw_29 : decode cX8_draw 29 = .ok (.ifCond .le 26, 3) := by decide +kernel
theorem dX8_draw_55 : decode cX8_draw 55 = .ok (.aload_n 0, 1) := by decide +kernel
theorem dX8_draw_56 : decode cX8_draw 56 = .ok (.getfield 10, 3) := by decide +kernel
theorem dX8_draw_59 : decode cX8_draw 59 = .ok (.invokevirtual 147, 3) := by decide +kernel
theorem dX8_draw_62 : decode cX8_draw 62 = .ok (.istore_n 1, 1) := by decide +kernel
theorem dX8_draw_63 : decode cX8_draw 63 = .ok (.iload_n 1, 1) := by decide +kernel
theorem dX8_draw_64 : decode cX8_draw 64 = .ok (.ifCond .eq 9, 3) := by decide +kernel
theorem dX8_draw_73 : decode cX8_draw 73 = .ok (.new 79, 3) := by decide +kernel
theorem dX8_draw_76 : decode cX8_draw 76 = .ok (.dup, 1) := by decide +kernel
theorem dX8_draw_77 : decode cX8_draw 77 = .ok (.ldc 150, 2) := by decide +kernel
theorem dX8_draw_79 : decode cX8_draw 79 = .ok (.invokespecial 83, 3) := by decide +kernel
theorem dX8_draw_82 : decode cX8_draw 82 = .ok (.athrow, 1) := by decide +kernel
theorem dX8_ballot_0 : decode cX8_ballot 0 = .ok (.aload_n 0, 1) := by decide +kernel
theorem dX8_ballot_1 : decode cX8_ballot 1 = .ok (.invokevirtual 171, 3) := by decide +kernel
theorem dX8_swap_0 : decode cX8_swap 0 = .ok (.aload_n 0, 1) := by decide +kernel
theorem dX8_swap_1 : decode cX8_swap 1 = .ok (.invokevirtual 171, 3) := by decide +kernel
theorem dX8_teams_0 : decode cX8_teams 0 = .ok (.aload_n 0, 1) := by decide +kernel
theorem dX8_teams_1 : decode cX8_teams 1 = .ok (.getfield 10, 3) := by decide +kernel
theorem dX8_teams_4 : decode cX8_teams 4 = .ok (.getfield 75, 3) := by decide +kernel
theorem dX8_teams_7 : decode cX8_teams 7 = .ok (.ireturn, 1) := by decide +kernel
theorem dX8_judges_0 : decode cX8_judges 0 = .ok (.aload_n 0, 1) := by decide +kernel
theorem dX8_judges_1 : decode cX8_judges 1 = .ok (.getfield 10, 3) := by decide +kernel
theorem dX8_judges_4 : decode cX8_judges 4 = .ok (.getfield 90, 3) := by decide +kernel
theorem dX8_judges_7 : decode cX8_judges 7 = .ok (.ireturn, 1) := by decide +kernel
theorem dX8_rounds_0 : decode cX8_rounds 0 = .ok (.aload_n 0, 1) := by decide +kernel
theorem dX8_rounds_1 : decode cX8_rounds 1 = .ok (.getfield 28, 3) := by decide +kernel
theorem dX8_rounds_4 : decode cX8_rounds 4 = .ok (.getfield 130, 3) := by decide +kernel
theorem dX8_rounds_7 : decode cX8_rounds 7 = .ok (.ireturn, 1) := by decide +kernel
theorem dX8_schoolOf_0 : decode cX8_schoolOf 0 = .ok (.aload_n 0, 1) := by decide +kernel
theorem dX8_schoolOf_1 : decode cX8_schoolOf 1 = .ok (.iload_n 1, 1) := by decide +kernel
theorem dX8_schoolOf_2 : decode cX8_schoolOf 2 = .ok (.invokevirtual 103, 3) := by decide +kernel
theorem dX8_isPresent_0 : decode cX8_isPresent 0 = .ok (.aload_n 0, 1) := by decide +kernel
theorem dX8_isPresent_1 : decode cX8_isPresent 1 = .ok (.iload_n 1, 1) := by decide +kernel
theorem dX8_isPresent_2 : decode cX8_isPresent 2 = .ok (.invokevirtual 103, 3) := by decide +kernel
theorem dX8_mayJudge_0 : decode cX8_mayJudge 0 = .ok (.aload_n 0, 1) := by decide +kernel
theorem dX8_mayJudge_1 : decode cX8_mayJudge 1 = .ok (.iload_n 1, 1) := by decide +kernel
theorem dX8_mayJudge_2 : decode cX8_mayJudge 2 = .ok (.invokevirtual 99, 3) := by decide +kernel
theorem dX8_conflicts_0 : decode cX8_conflicts 0 = .ok (.aload_n 0, 1) := by decide +kernel
theorem dX8_conflicts_1 : decode cX8_conflicts 1 = .ok (.iload_n 1, 1) := by decide +kernel
theorem dX8_conflicts_2 : decode cX8_conflicts 2 = .ok (.invokevirtual 99, 3) := by decide +kernel
theorem dX8_wins_0 : decode cX8_wins 0 = .ok (.aload_n 0, 1) := by decide +kernel
theorem dX8_wins_1 : decode cX8_wins 1 = .ok (.iload_n 1, 1) := by decide +kernel
theorem dX8_wins_2 : decode cX8_wins 2 = .ok (.invokevirtual 103, 3) := by decide +kernel
theorem dX8_points_0 : decode cX8_points 0 = .ok (.aload_n 0, 1) := by decide +kernel
theorem dX8_points_1 : decode cX8_points 1 = .ok (.iload_n 1, 1) := by decide +kernel
theorem dX8_points_2 : decode cX8_points 2 = .ok (.invokevirtual 103, 3) := by decide +kernel
theorem dX8_strength_0 : decode cX8_strength 0 = .ok (.aload_n 0, 1) := by decide +kernel
theorem dX8_strength_1 : decode cX8_strength 1 = .ok (.iload_n 1, 1) := by decide +kernel
theorem dX8_strength_2 : decode cX8_strength 2 = .ok (.invokevirtual 103, 3) := by decide +kernel
theorem dX8_standing_0 : decode cX8_standing 0 = .ok (.iload_n 1, 1) := by decide +kernel
theorem dX8_standing_1 : decode cX8_standing 1 = .ok (.ifCond .lt 14, 3) := by decide +kernel
theorem dX8_standing_4 : decode cX8_standing 4 = .ok (.iload_n 1, 1) := by decide +kernel
theorem dX8_standing_5 : decode cX8_standing 5 = .ok (.aload_n 0, 1) := by decide +kernel
theorem dX8_standing_6 : decode cX8_standing 6 = .ok (.getfield 10, 3) := by decide +kernel
theorem dX8_standing_9 : decode cX8_standing 9 = .ok (.getfield 75, 3) := by decide +kernel
theorem dX8_standing_12 : decode cX8_standing 12 = .ok (.if_icmp .lt 13, 3) := by decide +kernel
theorem dX8_standing_15 : decode cX8_standing 15 = .ok (.new 251, 3) := by decide +kernel
theorem dX8_standing_18 : decode cX8_standing 18 = .ok (.dup, 1) := by decide +kernel
theorem dX8_standing_19 : decode cX8_standing 19 = .ok (.ldc 253, 2) := by decide +kernel
theorem dX8_standing_21 : decode cX8_standing 21 = .ok (.invokespecial 255, 3) := by decide +kernel
theorem dX8_standing_24 : decode cX8_standing 24 = .ok (.athrow, 1) := by decide +kernel
theorem dX8_met_0 : decode cX8_met 0 = .ok (.aload_n 0, 1) := by decide +kernel
theorem dX8_met_1 : decode cX8_met 1 = .ok (.iload_n 1, 1) := by decide +kernel
theorem dX8_met_2 : decode cX8_met 2 = .ok (.invokevirtual 103, 3) := by decide +kernel
theorem dX8_proposed_0 : decode cX8_proposed 0 = .ok (.aload_n 0, 1) := by decide +kernel
theorem dX8_proposed_1 : decode cX8_proposed 1 = .ok (.iload_n 1, 1) := by decide +kernel
theorem dX8_proposed_2 : decode cX8_proposed 2 = .ok (.invokevirtual 103, 3) := by decide +kernel
theorem dX8_brackets_0 : decode cX8_brackets 0 = .ok (.aload_n 0, 1) := by decide +kernel
theorem dX8_brackets_1 : decode cX8_brackets 1 = .ok (.getfield 46, 3) := by decide +kernel
theorem dX8_brackets_4 : decode cX8_brackets 4 = .ok (.invokevirtual 155, 3) := by decide +kernel
theorem dX8_brackets_7 : decode cX8_brackets 7 = .ok (.aload_n 0, 1) := by decide +kernel
theorem dX8_brackets_8 : decode cX8_brackets 8 = .ok (.getfield 46, 3) := by decide +kernel
theorem dX8_brackets_11 : decode cX8_brackets 11 = .ok (.getfield 271, 3) := by decide +kernel
theorem dX8_brackets_14 : decode cX8_brackets 14 = .ok (.ireturn, 1) := by decide +kernel
theorem dX8_bracketSize_0 : decode cX8_bracketSize 0 = .ok (.aload_n 0, 1) := by decide +kernel
theorem dX8_bracketSize_1 : decode cX8_bracketSize 1 = .ok (.iload_n 1, 1) := by decide +kernel
theorem dX8_bracketSize_2 : decode cX8_bracketSize 2 = .ok (.invokevirtual 272, 3) := by decide +kernel
theorem dX8_bracketAt_0 : decode cX8_bracketAt 0 = .ok (.aload_n 0, 1) := by decide +kernel
theorem dX8_bracketAt_1 : decode cX8_bracketAt 1 = .ok (.iload_n 1, 1) := by decide +kernel
theorem dX8_bracketAt_2 : decode cX8_bracketAt 2 = .ok (.invokevirtual 272, 3) := by decide +kernel
theorem dX8_leastPenalty_0 : decode cX8_leastPenalty 0 = .ok (.aload_n 0, 1) := by decide +kernel
theorem dX8_leastPenalty_1 : decode cX8_leastPenalty 1 = .ok (.iload_n 1, 1) := by decide +kernel
theorem dX8_leastPenalty_2 : decode cX8_leastPenalty 2 = .ok (.invokevirtual 272, 3) := by decide +kernel
theorem dX8_leastByTrying_0 : decode cX8_leastByTrying 0 = .ok (.aload_n 0, 1) := by decide +kernel
theorem dX8_leastByTrying_1 : decode cX8_leastByTrying 1 = .ok (.iload_n 1, 1) := by decide +kernel
theorem dX8_leastByTrying_2 : decode cX8_leastByTrying 2 = .ok (.invokevirtual 272, 3) := by decide +kernel
theorem dX8_opponent_0 : decode cX8_opponent 0 = .ok (.aload_n 0, 1) := by decide +kernel
theorem dX8_opponent_1 : decode cX8_opponent 1 = .ok (.iload_n 1, 1) := by decide +kernel
theorem dX8_opponent_2 : decode cX8_opponent 2 = .ok (.invokevirtual 272, 3) := by decide +kernel
theorem dX8_rooms_0 : decode cX8_rooms 0 = .ok (.aload_n 0, 1) := by decide +kernel
theorem dX8_rooms_1 : decode cX8_rooms 1 = .ok (.iload_n 1, 1) := by decide +kernel
theorem dX8_rooms_2 : decode cX8_rooms 2 = .ok (.invokevirtual 304, 3) := by decide +kernel
theorem dX8_teamIn_0 : decode cX8_teamIn 0 = .ok (.aload_n 0, 1) := by decide +kernel
theorem dX8_teamIn_1 : decode cX8_teamIn 1 = .ok (.iload_n 1, 1) := by decide +kernel
theorem dX8_teamIn_2 : decode cX8_teamIn 2 = .ok (.invokevirtual 304, 3) := by decide +kernel
theorem dX8_judgeIn_0 : decode cX8_judgeIn 0 = .ok (.aload_n 0, 1) := by decide +kernel
theorem dX8_judgeIn_1 : decode cX8_judgeIn 1 = .ok (.iload_n 1, 1) := by decide +kernel
theorem dX8_judgeIn_2 : decode cX8_judgeIn 2 = .ok (.invokevirtual 304, 3) := by decide +kernel
theorem dX8_penaltyOf_0 : decode cX8_penaltyOf 0 = .ok (.aload_n 0, 1) := by decide +kernel
theorem dX8_penaltyOf_1 : decode cX8_penaltyOf 1 = .ok (.iload_n 1, 1) := by decide +kernel
theorem dX8_penaltyOf_2 : decode cX8_penaltyOf 2 = .ok (.invokevirtual 304, 3) := by decide +kernel
theorem dX8_winner_0 : decode cX8_winner 0 = .ok (.aload_n 0, 1) := by decide +kernel
theorem dX8_winner_1 : decode cX8_winner 1 = .ok (.iload_n 1, 1) := by decide +kernel
theorem dX8_winner_2 : decode cX8_winner 2 = .ok (.invokevirtual 304, 3) := by decide +kernel
theorem dX8_missing_0 : decode cX8_missing 0 = .ok (.aload_n 0, 1) := by decide +kernel
theorem dX8_missing_1 : decode cX8_missing 1 = .ok (.invokevirtual 171, 3) := by decide +kernel
theorem dX8_nextRoom_0 : decode cX8_nextRoom 0 = .ok (.aload_n 0, 1) := by decide +kernel
theorem dX8_nextRoom_1 : decode cX8_nextRoom 1 = .ok (.invokevirtual 171, 3) := by decide +kernel
theorem dX8_speeches_0 : decode cX8_speeches 0 = .ok (.aload_n 0, 1) := by decide +kernel
theorem dX8_speeches_1 : decode cX8_speeches 1 = .ok (.iload_n 1, 1) := by decide +kernel
theorem dX8_speeches_2 : decode cX8_speeches 2 = .ok (.invokevirtual 103, 3) := by decide +kernel
theorem dX8_average_0 : decode cX8_average 0 = .ok (.aload_n 0, 1) := by decide +kernel
theorem dX8_average_1 : decode cX8_average 1 = .ok (.iload_n 1, 1) := by decide +kernel
theorem dX8_average_2 : decode cX8_average 2 = .ok (.iload_n 2, 1) := by decide +kernel
theorem dX8_average_3 : decode cX8_average 3 = .ok (.invokevirtual 327, 3) := by decide +kernel
theorem dX8_averageBits_0 : decode cX8_averageBits 0 = .ok (.aload_n 0, 1) := by decide +kernel
theorem dX8_averageBits_1 : decode cX8_averageBits 1 = .ok (.iload_n 1, 1) := by decide +kernel
theorem dX8_averageBits_2 : decode cX8_averageBits 2 = .ok (.iload_n 2, 1) := by decide +kernel
theorem dX8_averageBits_3 : decode cX8_averageBits 3 = .ok (.invokevirtual 327, 3) := by decide +kernel
theorem dX8_averageTenths_0 : decode cX8_averageTenths 0 = .ok (.aload_n 0, 1) := by decide +kernel
theorem dX8_averageTenths_1 : decode cX8_averageTenths 1 = .ok (.iload_n 1, 1) := by decide +kernel
theorem dX8_averageTenths_2 : decode cX8_averageTenths 2 = .ok (.iload_n 2, 1) := by decide +kernel
theorem dX8_averageTenths_3 : decode cX8_averageTenths 3 = .ok (.invokevirtual 327, 3) := by decide +kernel
theorem dX8_bestSpeaker_0 : decode cX8_bestSpeaker 0 = .ok (.aload_n 0, 1) := by decide +kernel
theorem dX8_bestSpeaker_1 : decode cX8_bestSpeaker 1 = .ok (.getfield 19, 3) := by decide +kernel
theorem dX8_bestSpeaker_4 : decode cX8_bestSpeaker 4 = .ok (.iload_n 1, 1) := by decide +kernel
theorem dX8_bestSpeaker_5 : decode cX8_bestSpeaker 5 = .ok (.invokevirtual 336, 3) := by decide +kernel
theorem dX8_bestSpeaker_8 : decode cX8_bestSpeaker 8 = .ok (.istore_n 2, 1) := by decide +kernel
theorem dX8_bestSpeaker_9 : decode cX8_bestSpeaker 9 = .ok (.iload_n 2, 1) := by decide +kernel
theorem dX8_bestSpeaker_10 : decode cX8_bestSpeaker 10 = .ok (.iconst (-1), 1) := by decide +kernel
theorem dX8_bestSpeaker_11 : decode cX8_bestSpeaker 11 = .ok (.if_icmp .ne 13, 3) := by decide +kernel
theorem dX8_bestSpeaker_14 : decode cX8_bestSpeaker 14 = .ok (.new 251, 3) := by decide +kernel
theorem dX8_bestSpeaker_17 : decode cX8_bestSpeaker 17 = .ok (.dup, 1) := by decide +kernel
theorem dX8_bestSpeaker_18 : decode cX8_bestSpeaker 18 = .ok (.ldc 253, 2) := by decide +kernel
theorem dX8_bestSpeaker_20 : decode cX8_bestSpeaker 20 = .ok (.invokespecial 255, 3) := by decide +kernel
theorem dX8_bestSpeaker_23 : decode cX8_bestSpeaker 23 = .ok (.athrow, 1) := by decide +kernel
theorem dX8_breaks_0 : decode cX8_breaks 0 = .ok (.iload_n 2, 1) := by decide +kernel
theorem dX8_breaks_1 : decode cX8_breaks 1 = .ok (.iconst 2, 1) := by decide +kernel
theorem dX8_breaks_2 : decode cX8_breaks 2 = .ok (.if_icmp .eq 25, 3) := by decide +kernel
theorem dX8_breaks_5 : decode cX8_breaks 5 = .ok (.iload_n 2, 1) := by decide +kernel
theorem dX8_breaks_6 : decode cX8_breaks 6 = .ok (.iconst 4, 1) := by decide +kernel
theorem dX8_breaks_7 : decode cX8_breaks 7 = .ok (.if_icmp .eq 20, 3) := by decide +kernel
theorem dX8_breaks_10 : decode cX8_breaks 10 = .ok (.iload_n 2, 1) := by decide +kernel
theorem dX8_breaks_11 : decode cX8_breaks 11 = .ok (.bipush 8, 2) := by decide +kernel
theorem dX8_breaks_13 : decode cX8_breaks 13 = .ok (.if_icmp .eq 14, 3) := by decide +kernel
theorem dX8_breaks_16 : decode cX8_breaks 16 = .ok (.new 68, 3) := by decide +kernel
theorem dX8_breaks_19 : decode cX8_breaks 19 = .ok (.dup, 1) := by decide +kernel
theorem dX8_breaks_20 : decode cX8_breaks 20 = .ok (.ldc_w 339, 3) := by decide +kernel
theorem dX8_breaks_23 : decode cX8_breaks 23 = .ok (.invokespecial 72, 3) := by decide +kernel
theorem dX8_breaks_26 : decode cX8_breaks 26 = .ok (.athrow, 1) := by decide +kernel
theorem dX8_breaks_27 : decode cX8_breaks 27 = .ok (.iload_n 1, 1) := by decide +kernel
theorem dX8_breaks_28 : decode cX8_breaks 28 = .ok (.ifCond .lt 8, 3) := by decide +kernel
theorem dX8_breaks_31 : decode cX8_breaks 31 = .ok (.iload_n 1, 1) := by decide +kernel
theorem dX8_breaks_32 : decode cX8_breaks 32 = .ok (.iload_n 2, 1) := by decide +kernel
theorem dX8_breaks_33 : decode cX8_breaks 33 = .ok (.if_icmp .lt 14, 3) := by decide +kernel
theorem dX8_breaks_36 : decode cX8_breaks 36 = .ok (.new 251, 3) := by decide +kernel
theorem dX8_breaks_39 : decode cX8_breaks 39 = .ok (.dup, 1) := by decide +kernel
theorem dX8_breaks_40 : decode cX8_breaks 40 = .ok (.ldc_w 341, 3) := by decide +kernel
theorem dX8_breaks_43 : decode cX8_breaks 43 = .ok (.invokespecial 255, 3) := by decide +kernel
theorem dX8_breaks_46 : decode cX8_breaks 46 = .ok (.athrow, 1) := by decide +kernel
theorem dX8_breaks_47 : decode cX8_breaks 47 = .ok (.aload_n 0, 1) := by decide +kernel
theorem dX8_breaks_48 : decode cX8_breaks 48 = .ok (.getfield 37, 3) := by decide +kernel
theorem dX8_breaks_51 : decode cX8_breaks 51 = .ok (.invokevirtual 256, 3) := by decide +kernel
theorem dX8_breaks_54 : decode cX8_breaks 54 = .ok (.aload_n 0, 1) := by decide +kernel
theorem dX8_breaks_55 : decode cX8_breaks 55 = .ok (.getfield 37, 3) := by decide +kernel
theorem dX8_breaks_58 : decode cX8_breaks 58 = .ok (.iload_n 1, 1) := by decide +kernel
theorem dX8_breaks_59 : decode cX8_breaks 59 = .ok (.invokevirtual 343, 3) := by decide +kernel
theorem dX8_breaks_62 : decode cX8_breaks 62 = .ok (.istore_n 3, 1) := by decide +kernel
theorem dX8_breaks_63 : decode cX8_breaks 63 = .ok (.iload_n 3, 1) := by decide +kernel
theorem dX8_breaks_64 : decode cX8_breaks 64 = .ok (.iconst (-1), 1) := by decide +kernel
theorem dX8_breaks_65 : decode cX8_breaks 65 = .ok (.if_icmp .ne 14, 3) := by decide +kernel
theorem dX8_breaks_68 : decode cX8_breaks 68 = .ok (.new 251, 3) := by decide +kernel
theorem dX8_breaks_71 : decode cX8_breaks 71 = .ok (.dup, 1) := by decide +kernel
theorem dX8_breaks_72 : decode cX8_breaks 72 = .ok (.ldc_w 346, 3) := by decide +kernel
theorem dX8_breaks_75 : decode cX8_breaks 75 = .ok (.invokespecial 255, 3) := by decide +kernel
theorem dX8_breaks_78 : decode cX8_breaks 78 = .ok (.athrow, 1) := by decide +kernel
theorem dX8_people_0 : decode cX8_people 0 = .ok (.iload_n 1, 1) := by decide +kernel
theorem dX8_people_1 : decode cX8_people 1 = .ok (.bipush 116, 2) := by decide +kernel
theorem dX8_people_3 : decode cX8_people 3 = .ok (.if_icmp .eq 20, 3) := by decide +kernel
theorem dX8_people_6 : decode cX8_people 6 = .ok (.iload_n 1, 1) := by decide +kernel
theorem dX8_people_7 : decode cX8_people 7 = .ok (.bipush 106, 2) := by decide +kernel
theorem dX8_people_9 : decode cX8_people 9 = .ok (.if_icmp .eq 14, 3) := by decide +kernel
theorem dX8_people_12 : decode cX8_people 12 = .ok (.new 68, 3) := by decide +kernel
theorem dX8_people_15 : decode cX8_people 15 = .ok (.dup, 1) := by decide +kernel
theorem dX8_people_16 : decode cX8_people 16 = .ok (.ldc_w 348, 3) := by decide +kernel
theorem dX8_people_19 : decode cX8_people 19 = .ok (.invokespecial 72, 3) := by decide +kernel
theorem dX8_people_22 : decode cX8_people 22 = .ok (.athrow, 1) := by decide +kernel
theorem dX8_people_23 : decode cX8_people 23 = .ok (.iload_n 1, 1) := by decide +kernel
theorem dX8_people_24 : decode cX8_people 24 = .ok (.bipush 116, 2) := by decide +kernel
theorem dX8_people_26 : decode cX8_people 26 = .ok (.if_icmp .ne 13, 3) := by decide +kernel
theorem dX8_people_29 : decode cX8_people 29 = .ok (.aload_n 0, 1) := by decide +kernel
theorem dX8_people_30 : decode cX8_people 30 = .ok (.getfield 10, 3) := by decide +kernel
theorem dX8_people_33 : decode cX8_people 33 = .ok (.getfield 75, 3) := by decide +kernel
theorem dX8_people_36 : decode cX8_people 36 = .ok (.goto 10, 3) := by decide +kernel
theorem dX8_people_39 : decode cX8_people 39 = .ok (.aload_n 0, 1) := by decide +kernel
theorem dX8_people_40 : decode cX8_people 40 = .ok (.getfield 10, 3) := by decide +kernel
theorem dX8_people_43 : decode cX8_people 43 = .ok (.getfield 90, 3) := by decide +kernel
theorem dX8_people_46 : decode cX8_people 46 = .ok (.ireturn, 1) := by decide +kernel
theorem dX8_scores_0 : decode cX8_scores 0 = .ok (.aload_n 0, 1) := by decide +kernel
theorem dX8_scores_1 : decode cX8_scores 1 = .ok (.getfield 19, 3) := by decide +kernel
theorem dX8_scores_4 : decode cX8_scores 4 = .ok (.getfield 350, 3) := by decide +kernel
theorem dX8_scores_7 : decode cX8_scores 7 = .ok (.lreturn, 1) := by decide +kernel
theorem dX8_meanPenalty_0 : decode cX8_meanPenalty 0 = .ok (.aload_n 0, 1) := by decide +kernel
theorem dX8_meanPenalty_1 : decode cX8_meanPenalty 1 = .ok (.getfield 28, 3) := by decide +kernel
theorem dX8_meanPenalty_4 : decode cX8_meanPenalty 4 = .ok (.invokevirtual 354, 3) := by decide +kernel
theorem dX8_meanPenalty_7 : decode cX8_meanPenalty 7 = .ok (.istore_n 1, 1) := by decide +kernel
theorem dX8_meanPenalty_8 : decode cX8_meanPenalty 8 = .ok (.iload_n 1, 1) := by decide +kernel
theorem dX8_meanPenalty_9 : decode cX8_meanPenalty 9 = .ok (.ifCond .ne 14, 3) := by decide +kernel
theorem dX8_meanPenalty_12 : decode cX8_meanPenalty 12 = .ok (.new 357, 3) := by decide +kernel
theorem dX8_meanPenalty_15 : decode cX8_meanPenalty 15 = .ok (.dup, 1) := by decide +kernel
theorem dX8_meanPenalty_16 : decode cX8_meanPenalty 16 = .ok (.ldc_w 359, 3) := by decide +kernel
theorem dX8_meanPenalty_19 : decode cX8_meanPenalty 19 = .ok (.invokespecial 361, 3) := by decide +kernel
theorem dX8_meanPenalty_22 : decode cX8_meanPenalty 22 = .ok (.athrow, 1) := by decide +kernel
theorem dX8_isSchool_0 : decode cX8_isSchool 0 = .ok (.iload_n 0, 1) := by decide +kernel
theorem dX8_isSchool_1 : decode cX8_isSchool 1 = .ok (.ifCond .lt 13, 3) := by decide +kernel
theorem dX8_isSchool_4 : decode cX8_isSchool 4 = .ok (.iload_n 0, 1) := by decide +kernel
theorem dX8_isSchool_5 : decode cX8_isSchool 5 = .ok (.bipush 6, 2) := by decide +kernel
theorem dX8_isSchool_7 : decode cX8_isSchool 7 = .ok (.if_icmp .ge 7, 3) := by decide +kernel
theorem dX8_isSchool_10 : decode cX8_isSchool 10 = .ok (.iconst 1, 1) := by decide +kernel
theorem dX8_isSchool_11 : decode cX8_isSchool 11 = .ok (.goto 4, 3) := by decide +kernel
theorem dX8_isSchool_14 : decode cX8_isSchool 14 = .ok (.iconst 0, 1) := by decide +kernel
theorem dX8_isSchool_15 : decode cX8_isSchool 15 = .ok (.ireturn, 1) := by decide +kernel
theorem dX8_needTeam_0 : decode cX8_needTeam 0 = .ok (.aload_n 0, 1) := by decide +kernel
theorem dX8_needTeam_1 : decode cX8_needTeam 1 = .ok (.getfield 10, 3) := by decide +kernel
theorem dX8_needTeam_4 : decode cX8_needTeam 4 = .ok (.iload_n 1, 1) := by decide +kernel
theorem dX8_needTeam_5 : decode cX8_needTeam 5 = .ok (.invokevirtual 365, 3) := by decide +kernel
theorem dX8_needTeam_8 : decode cX8_needTeam 8 = .ok (.ifCond .ne 14, 3) := by decide +kernel
theorem dX8_needTeam_11 : decode cX8_needTeam 11 = .ok (.new 206, 3) := by decide +kernel
theorem dX8_needTeam_14 : decode cX8_needTeam 14 = .ok (.dup, 1) := by decide +kernel
theorem dX8_needTeam_15 : decode cX8_needTeam 15 = .ok (.ldc_w 368, 3) := by decide +kernel
theorem dX8_needTeam_18 : decode cX8_needTeam 18 = .ok (.invokespecial 210, 3) := by decide +kernel
theorem dX8_needTeam_21 : decode cX8_needTeam 21 = .ok (.athrow, 1) := by decide +kernel
theorem dX8_needJudge_0 : decode cX8_needJudge 0 = .ok (.aload_n 0, 1) := by decide +kernel
theorem dX8_needJudge_1 : decode cX8_needJudge 1 = .ok (.getfield 10, 3) := by decide +kernel
theorem dX8_needJudge_4 : decode cX8_needJudge 4 = .ok (.iload_n 1, 1) := by decide +kernel
theorem dX8_needJudge_5 : decode cX8_needJudge 5 = .ok (.invokevirtual 370, 3) := by decide +kernel
theorem dX8_needJudge_8 : decode cX8_needJudge 8 = .ok (.ifCond .ne 14, 3) := by decide +kernel
theorem dX8_needJudge_11 : decode cX8_needJudge 11 = .ok (.new 206, 3) := by decide +kernel
theorem dX8_needJudge_14 : decode cX8_needJudge 14 = .ok (.dup, 1) := by decide +kernel
theorem dX8_needJudge_15 : decode cX8_needJudge 15 = .ok (.ldc_w 373, 3) := by decide +kernel
theorem dX8_needJudge_18 : decode cX8_needJudge 18 = .ok (.invokespecial 210, 3) := by decide +kernel
theorem dX8_needJudge_21 : decode cX8_needJudge 21 = .ok (.athrow, 1) := by decide +kernel
theorem dX8_needAnyRound_0 : decode cX8_needAnyRound 0 = .ok (.aload_n 0, 1) := by decide +kernel
theorem dX8_needAnyRound_1 : decode cX8_needAnyRound 1 = .ok (.getfield 28, 3) := by decide +kernel
theorem dX8_needAnyRound_4 : decode cX8_needAnyRound 4 = .ok (.getfield 130, 3) := by decide +kernel
theorem dX8_needAnyRound_7 : decode cX8_needAnyRound 7 = .ok (.ifCond .ne 14, 3) := by decide +kernel
theorem dX8_needAnyRound_10 : decode cX8_needAnyRound 10 = .ok (.new 79, 3) := by decide +kernel
theorem dX8_needAnyRound_13 : decode cX8_needAnyRound 13 = .ok (.dup, 1) := by decide +kernel
theorem dX8_needAnyRound_14 : decode cX8_needAnyRound 14 = .ok (.ldc_w 377, 3) := by decide +kernel
theorem dX8_needAnyRound_17 : decode cX8_needAnyRound 17 = .ok (.invokespecial 83, 3) := by decide +kernel
theorem dX8_needAnyRound_20 : decode cX8_needAnyRound 20 = .ok (.athrow, 1) := by decide +kernel
theorem dX8_needRound_0 : decode cX8_needRound 0 = .ok (.iload_n 1, 1) := by decide +kernel
theorem dX8_needRound_1 : decode cX8_needRound 1 = .ok (.ifCond .lt 14, 3) := by decide +kernel
theorem dX8_needRound_4 : decode cX8_needRound 4 = .ok (.iload_n 1, 1) := by decide +kernel
theorem dX8_needRound_5 : decode cX8_needRound 5 = .ok (.aload_n 0, 1) := by decide +kernel
theorem dX8_needRound_6 : decode cX8_needRound 6 = .ok (.getfield 28, 3) := by decide +kernel
theorem dX8_needRound_9 : decode cX8_needRound 9 = .ok (.getfield 130, 3) := by decide +kernel
theorem dX8_needRound_12 : decode cX8_needRound 12 = .ok (.if_icmp .lt 14, 3) := by decide +kernel
theorem dX8_needRound_15 : decode cX8_needRound 15 = .ok (.new 206, 3) := by decide +kernel
theorem dX8_needRound_18 : decode cX8_needRound 18 = .ok (.dup, 1) := by decide +kernel
theorem dX8_needRound_19 : decode cX8_needRound 19 = .ok (.ldc_w 379, 3) := by decide +kernel
theorem dX8_needRound_22 : decode cX8_needRound 22 = .ok (.invokespecial 210, 3) := by decide +kernel
theorem dX8_needRound_25 : decode cX8_needRound 25 = .ok (.athrow, 1) := by decide +kernel
theorem dX8_formAndNeedBracket_0 : decode cX8_formAndNeedBracket 0 = .ok (.aload_n 0, 1) := by decide +kernel
theorem dX8_formAndNeedBracket_1 : decode cX8_formAndNeedBracket 1 = .ok (.getfield 46, 3) := by decide +kernel
theorem dX8_formAndNeedBracket_4 : decode cX8_formAndNeedBracket 4 = .ok (.invokevirtual 155, 3) := by decide +kernel
theorem dX8_formAndNeedBracket_7 : decode cX8_formAndNeedBracket 7 = .ok (.iload_n 1, 1) := by decide +kernel
theorem dX8_formAndNeedBracket_8 : decode cX8_formAndNeedBracket 8 = .ok (.ifCond .lt 14, 3) := by decide +kernel
theorem dX8_formAndNeedBracket_11 : decode cX8_formAndNeedBracket 11 = .ok (.iload_n 1, 1) := by decide +kernel
theorem dX8_formAndNeedBracket_12 : decode cX8_formAndNeedBracket 12 = .ok (.aload_n 0, 1) := by decide +kernel
theorem dX8_formAndNeedBracket_13 : decode cX8_formAndNeedBracket 13 = .ok (.getfield 46, 3) := by decide +kernel
theorem dX8_formAndNeedBracket_16 : decode cX8_formAndNeedBracket 16 = .ok (.getfield 271, 3) := by decide +kernel
theorem dX8_formAndNeedBracket_19 : decode cX8_formAndNeedBracket 19 = .ok (.if_icmp .lt 14, 3) := by decide +kernel
theorem dX8_formAndNeedBracket_22 : decode cX8_formAndNeedBracket 22 = .ok (.new 251, 3) := by decide +kernel
theorem dX8_formAndNeedBracket_25 : decode cX8_formAndNeedBracket 25 = .ok (.dup, 1) := by decide +kernel
theorem dX8_formAndNeedBracket_26 : decode cX8_formAndNeedBracket 26 = .ok (.ldc_w 383, 3) := by decide +kernel
theorem dX8_formAndNeedBracket_29 : decode cX8_formAndNeedBracket 29 = .ok (.invokespecial 255, 3) := by decide +kernel
theorem dX8_formAndNeedBracket_32 : decode cX8_formAndNeedBracket 32 = .ok (.athrow, 1) := by decide +kernel
theorem dX8_checkedMean_0 : decode cX8_checkedMean 0 = .ok (.aload_n 0, 1) := by decide +kernel
theorem dX8_checkedMean_1 : decode cX8_checkedMean 1 = .ok (.iload_n 1, 1) := by decide +kernel
theorem dX8_checkedMean_2 : decode cX8_checkedMean 2 = .ok (.invokevirtual 103, 3) := by decide +kernel
theorem dX9_init_0 : decode cX9_init 0 = .ok (.aload_n 0, 1) := by decide +kernel
theorem dX9_init_1 : decode cX9_init 1 = .ok (.invokespecial 1, 3) := by decide +kernel
theorem dX9_init_4 : decode cX9_init 4 = .ok (.aload_n 0, 1) := by decide +kernel
theorem dX9_init_5 : decode cX9_init 5 = .ok (.bipush 12, 2) := by decide +kernel
theorem dX9_init_7 : decode cX9_init 7 = .ok (.newarray .int, 2) := by decide +kernel
theorem dX9_init_9 : decode cX9_init 9 = .ok (.putfield 9, 3) := by decide +kernel
theorem dX9_init_12 : decode cX9_init 12 = .ok (.aload_n 0, 1) := by decide +kernel
theorem dX9_init_13 : decode cX9_init 13 = .ok (.bipush 12, 2) := by decide +kernel
theorem dX9_init_15 : decode cX9_init 15 = .ok (.newarray .boolean, 2) := by decide +kernel
theorem dX9_init_17 : decode cX9_init 17 = .ok (.putfield 13, 3) := by decide +kernel
theorem dX9_init_20 : decode cX9_init 20 = .ok (.aload_n 0, 1) := by decide +kernel
theorem dX9_init_21 : decode cX9_init 21 = .ok (.bipush 12, 2) := by decide +kernel
theorem dX9_init_23 : decode cX9_init 23 = .ok (.newarray .int, 2) := by decide +kernel
theorem dX9_init_25 : decode cX9_init 25 = .ok (.putfield 17, 3) := by decide +kernel
theorem dX9_init_28 : decode cX9_init 28 = .ok (.aload_n 0, 1) := by decide +kernel
theorem dX9_init_29 : decode cX9_init 29 = .ok (.bipush 12, 2) := by decide +kernel
theorem dX9_init_31 : decode cX9_init 31 = .ok (.newarray .int, 2) := by decide +kernel
theorem dX9_init_33 : decode cX9_init 33 = .ok (.putfield 20, 3) := by decide +kernel
theorem dX9_init_36 : decode cX9_init 36 = .ok (.aload_n 0, 1) := by decide +kernel
theorem dX9_init_37 : decode cX9_init 37 = .ok (.bipush 12, 2) := by decide +kernel
theorem dX9_init_39 : decode cX9_init 39 = .ok (.newarray .int, 2) := by decide +kernel
theorem dX9_init_41 : decode cX9_init 41 = .ok (.putfield 23, 3) := by decide +kernel
theorem dX9_init_44 : decode cX9_init 44 = .ok (.aload_n 0, 1) := by decide +kernel
theorem dX9_init_45 : decode cX9_init 45 = .ok (.bipush 24, 2) := by decide +kernel
theorem dX9_init_47 : decode cX9_init 47 = .ok (.newarray .int, 2) := by decide +kernel
theorem dX9_init_49 : decode cX9_init 49 = .ok (.putfield 26, 3) := by decide +kernel
theorem dX9_init_52 : decode cX9_init 52 = .ok (.aload_n 0, 1) := by decide +kernel
theorem dX9_init_53 : decode cX9_init 53 = .ok (.bipush 24, 2) := by decide +kernel
theorem dX9_init_55 : decode cX9_init 55 = .ok (.newarray .int, 2) := by decide +kernel
theorem dX9_init_57 : decode cX9_init 57 = .ok (.putfield 29, 3) := by decide +kernel
theorem dX9_init_60 : decode cX9_init 60 = .ok (.aload_n 0, 1) := by decide +kernel
theorem dX9_init_61 : decode cX9_init 61 = .ok (.bipush 8, 2) := by decide +kernel
theorem dX9_init_63 : decode cX9_init 63 = .ok (.newarray .int, 2) := by decide +kernel
theorem dX9_init_65 : decode cX9_init 65 = .ok (.putfield 32, 3) := by decide +kernel
theorem dX9_init_68 : decode cX9_init 68 = .ok (.aload_n 0, 1) := by decide +kernel
theorem dX9_init_69 : decode cX9_init 69 = .ok (.bipush 8, 2) := by decide +kernel
theorem dX9_init_71 : decode cX9_init 71 = .ok (.newarray .int, 2) := by decide +kernel
theorem dX9_init_73 : decode cX9_init 73 = .ok (.putfield 35, 3) := by decide +kernel
theorem dX9_init_76 : decode cX9_init 76 = .ok (.aload_n 0, 1) := by decide +kernel
theorem dX9_init_77 : decode cX9_init 77 = .ok (.bipush 8, 2) := by decide +kernel
theorem dX9_init_79 : decode cX9_init 79 = .ok (.bipush 12, 2) := by decide +kernel
theorem dX9_init_81 : decode cX9_init 81 = .ok (.multianewarray 38 2, 4) := by decide +kernel
theorem dX9_init_85 : decode cX9_init 85 = .ok (.putfield 40, 3) := by decide +kernel
theorem dX9_init_88 : decode cX9_init 88 = .ok (.aload_n 0, 1) := by decide +kernel
theorem dX9_init_89 : decode cX9_init 89 = .ok (.bipush 6, 2) := by decide +kernel
theorem dX9_init_91 : decode cX9_init 91 = .ok (.bipush 6, 2) := by decide +kernel
theorem dX9_init_93 : decode cX9_init 93 = .ok (.multianewarray 43 2, 4) := by decide +kernel
theorem dX9_init_97 : decode cX9_init 97 = .ok (.putfield 45, 3) := by decide +kernel
theorem dX9_init_100 : decode cX9_init 100 = .ok (.aload_n 0, 1) := by decide +kernel
theorem dX9_init_101 : decode cX9_init 101 = .ok (.bipush 6, 2) := by decide +kernel
theorem dX9_init_103 : decode cX9_init 103 = .ok (.bipush 6, 2) := by decide +kernel
theorem dX9_init_105 : decode cX9_init 105 = .ok (.multianewarray 43 2, 4) := by decide +kernel
theorem dX9_init_109 : decode cX9_init 109 = .ok (.putfield 48, 3) := by decide +kernel
theorem dX9_init_112 : decode cX9_init 112 = .ok (.aload_n 0, 1) := by decide +kernel
theorem dX9_init_113 : decode cX9_init 113 = .ok (.bipush 6, 2) := by decide +kernel
theorem dX9_init_115 : decode cX9_init 115 = .ok (.bipush 6, 2) := by decide +kernel
theorem dX9_init_117 : decode cX9_init 117 = .ok (.multianewarray 43 2, 4) := by decide +kernel
theorem dX9_init_121 : decode cX9_init 121 = .ok (.putfield 51, 3) := by decide +kernel
theorem dX9_init_124 : decode cX9_init 124 = .ok (.aload_n 0, 1) := by decide +kernel
theorem dX9_init_125 : decode cX9_init 125 = .ok (.bipush 6, 2) := by decide +kernel
theorem dX9_init_127 : decode cX9_init 127 = .ok (.bipush 6, 2) := by decide +kernel
theorem dX9_init_129 : decode cX9_init 129 = .ok (.multianewarray 43 2, 4) := by decide +kernel
theorem dX9_init_133 : decode cX9_init 133 = .ok (.putfield 54, 3) := by decide +kernel
theorem dX9_init_136 : decode cX9_init 136 = .ok (.aload_n 0, 1) := by decide +kernel
theorem dX9_init_137 : decode cX9_init 137 = .ok (.bipush 6, 2) := by decide +kernel
theorem dX9_init_139 : decode cX9_init 139 = .ok (.bipush 6, 2) := by decide +kernel
theorem dX9_init_141 : decode cX9_init 141 = .ok (.multianewarray 57 2, 4) := by decide +kernel
theorem dX9_init_145 : decode cX9_init 145 = .ok (.putfield 59, 3) := by decide +kernel
theorem dX9_init_148 : decode cX9_init 148 = .ok (.aload_n 0, 1) := by decide +kernel
theorem dX9_init_149 : decode cX9_init 149 = .ok (.bipush 6, 2) := by decide +kernel
theorem dX9_init_151 : decode cX9_init 151 = .ok (.newarray .int, 2) := by decide +kernel
theorem dX9_init_153 : decode cX9_init 153 = .ok (.putfield 62, 3) := by decide +kernel
theorem dX9_init_156 : decode cX9_init 156 = .ok (.aload_n 0, 1) := by decide +kernel
theorem dX9_init_157 : decode cX9_init 157 = .ok (.bipush 12, 2) := by decide +kernel
theorem dX9_init_159 : decode cX9_init 159 = .ok (.newarray .int, 2) := by decide +kernel
theorem dX9_init_161 : decode cX9_init 161 = .ok (.putfield 65, 3) := by decide +kernel
theorem dX9_init_164 : decode cX9_init 164 = .ok (.aload_n 0, 1) := by decide +kernel
theorem dX9_init_165 : decode cX9_init 165 = .ok (.bipush 12, 2) := by decide +kernel
theorem dX9_init_167 : decode cX9_init 167 = .ok (.newarray .int, 2) := by decide +kernel
theorem dX9_init_169 : decode cX9_init 169 = .ok (.putfield 68, 3) := by decide +kernel
theorem dX9_init_172 : decode cX9_init 172 = .ok (.aload_n 0, 1) := by decide +kernel
theorem dX9_init_173 : decode cX9_init 173 = .ok (.bipush 12, 2) := by decide +kernel
theorem dX9_init_175 : decode cX9_init 175 = .ok (.newarray .int, 2) := by decide +kernel
theorem dX9_init_177 : decode cX9_init 177 = .ok (.putfield 71, 3) := by decide +kernel
theorem dX9_init_180 : decode cX9_init 180 = .ok (.aload_n 0, 1) := by decide +kernel
theorem dX9_init_181 : decode cX9_init 181 = .ok (.bipush 12, 2) := by decide +kernel
theorem dX9_init_183 : decode cX9_init 183 = .ok (.newarray .int, 2) := by decide +kernel
theorem dX9_init_185 : decode cX9_init 185 = .ok (.putfield 74, 3) := by decide +kernel
theorem dX9_init_188 : decode cX9_init 188 = .ok (.aload_n 0, 1) := by decide +kernel
theorem dX9_init_189 : decode cX9_init 189 = .ok (.bipush 13, 2) := by decide +kernel
theorem dX9_init_191 : decode cX9_init 191 = .ok (.newarray .int, 2) := by decide +kernel
theorem dX9_init_193 : decode cX9_init 193 = .ok (.putfield 77, 3) := by decide +kernel
theorem dX9_init_196 : decode cX9_init 196 = .ok (.aload_n 0, 1) := by decide +kernel
theorem dX9_init_197 : decode cX9_init 197 = .ok (.bipush 12, 2) := by decide +kernel
theorem dX9_init_199 : decode cX9_init 199 = .ok (.newarray .int, 2) := by decide +kernel
theorem dX9_init_201 : decode cX9_init 201 = .ok (.putfield 80, 3) := by decide +kernel
theorem dX9_init_204 : decode cX9_init 204 = .ok (.aload_n 0, 1) := by decide +kernel
theorem dX9_init_205 : decode cX9_init 205 = .ok (.bipush 12, 2) := by decide +kernel
theorem dX9_init_207 : decode cX9_init 207 = .ok (.newarray .int, 2) := by decide +kernel
theorem dX9_init_209 : decode cX9_init 209 = .ok (.putfield 83, 3) := by decide +kernel
theorem dX9_init_212 : decode cX9_init 212 = .ok (.aload_n 0, 1) := by decide +kernel
theorem dX9_init_213 : decode cX9_init 213 = .ok (.bipush 6, 2) := by decide +kernel
theorem dX9_init_215 : decode cX9_init 215 = .ok (.newarray .int, 2) := by decide +kernel
theorem dX9_init_217 : decode cX9_init 217 = .ok (.putfield 86, 3) := by decide +kernel
theorem dX9_init_220 : decode cX9_init 220 = .ok (.return_, 1) := by decide +kernel
theorem dX9_thrown_0 : decode cX9_thrown 0 = .ok (.aload_n 0, 1) := by decide +kernel
theorem dX9_thrown_1 : decode cX9_thrown 1 = .ok (.getfield 89, 3) := by decide +kernel
theorem dX9_thrown_4 : decode cX9_thrown 4 = .ok (.ireturn, 1) := by decide +kernel
theorem dX9_raises_0 : decode cX9_raises 0 = .ok (.aload_n 0, 1) := by decide +kernel
theorem dX9_raises_1 : decode cX9_raises 1 = .ok (.iload_n 1, 1) := by decide +kernel
theorem dX9_raises_2 : decode cX9_raises 2 = .ok (.putfield 89, 3) := by decide +kernel
theorem dX9_raises_5 : decode cX9_raises 5 = .ok (.iconst 0, 1) := by decide +kernel
theorem dX9_raises_6 : decode cX9_raises 6 = .ok (.ireturn, 1) := by decide +kernel
theorem dX9_in_0 : decode cX9_in 0 = .ok (.iload_n 0, 1) := by decide +kernel
theorem dX9_in_1 : decode cX9_in 1 = .ok (.iload_n 1, 1) := by decide +kernel
theorem dX9_in_2 : decode cX9_in 2 = .ok (.if_icmp .lt 12, 3) := by decide +kernel
theorem dX9_in_5 : decode cX9_in 5 = .ok (.iload_n 0, 1) := by decide +kernel
theorem dX9_in_6 : decode cX9_in 6 = .ok (.iload_n 2, 1) := by decide +kernel
theorem dX9_in_7 : decode cX9_in 7 = .ok (.if_icmp .gt 7, 3) := by decide +kernel
theorem dX9_in_10 : decode cX9_in 10 = .ok (.iconst 1, 1) := by decide +kernel
theorem dX9_in_11 : decode cX9_in 11 = .ok (.goto 4, 3) := by decide +kernel
theorem dX9_in_14 : decode cX9_in 14 = .ok (.iconst 0, 1) := by decide +kernel
theorem dX9_in_15 : decode cX9_in 15 = .ok (.ireturn, 1) := by decide +kernel
theorem dX9_isTeam_0 : decode cX9_isTeam 0 = .ok (.iload_n 1, 1) := by decide +kernel
theorem dX9_isTeam_1 : decode cX9_isTeam 1 = .ok (.iconst 0, 1) := by decide +kernel
theorem dX9_isTeam_2 : decode cX9_isTeam 2 = .ok (.aload_n 0, 1) := by decide +kernel
theorem dX9_isTeam_3 : decode cX9_isTeam 3 = .ok (.getfield 93, 3) := by decide +kernel
theorem dX9_isTeam_6 : decode cX9_isTeam 6 = .ok (.iconst 1, 1) := by decide +kernel
theorem dX9_isTeam_7 : decode cX9_isTeam 7 = .ok (.isub, 1) := by decide +kernel
theorem dX9_isTeam_8 : decode cX9_isTeam 8 = .ok (.invokestatic 96, 3) := by decide +kernel
theorem dX9_isTeam_11 : decode cX9_isTeam 11 = .ok (.ireturn, 1) := by decide +kernel
theorem dX9_isJudge_0 : decode cX9_isJudge 0 = .ok (.iload_n 1, 1) := by decide +kernel
theorem dX9_isJudge_1 : decode cX9_isJudge 1 = .ok (.iconst 0, 1) := by decide +kernel
theorem dX9_isJudge_2 : decode cX9_isJudge 2 = .ok (.aload_n 0, 1) := by decide +kernel
theorem dX9_isJudge_3 : decode cX9_isJudge 3 = .ok (.getfield 100, 3) := by decide +kernel
theorem dX9_isJudge_6 : decode cX9_isJudge 6 = .ok (.iconst 1, 1) := by decide +kernel
theorem dX9_isJudge_7 : decode cX9_isJudge 7 = .ok (.isub, 1) := by decide +kernel
theorem dX9_isJudge_8 : decode cX9_isJudge 8 = .ok (.invokestatic 96, 3) := by decide +kernel
theorem dX9_isJudge_11 : decode cX9_isJudge 11 = .ok (.ireturn, 1) := by decide +kernel
theorem dX9_addTeam_0 : decode cX9_addTeam 0 = .ok (.aload_n 0, 1) := by decide +kernel
theorem dX9_addTeam_1 : decode cX9_addTeam 1 = .ok (.iload_n 1, 1) := by decide +kernel
theorem dX9_addTeam_2 : decode cX9_addTeam 2 = .ok (.iconst 0, 1) := by decide +kernel
theorem dX9_addTeam_3 : decode cX9_addTeam 3 = .ok (.iconst 5, 1) := by decide +kernel
theorem dX9_addTeam_4 : decode cX9_addTeam 4 = .ok (.invokestatic 96, 3) := by decide +kernel
theorem dX9_addTeam_7 : decode cX9_addTeam 7 = .ok (.ifCond .ne 7, 3) := by decide +kernel
theorem dX9_addTeam_10 : decode cX9_addTeam 10 = .ok (.iconst 1, 1) := by decide +kernel
theorem dX9_addTeam_11 : decode cX9_addTeam 11 = .ok (.goto 17, 3) := by decide +kernel
theorem dX9_addTeam_14 : decode cX9_addTeam 14 = .ok (.aload_n 0, 1) := by decide +kernel
theorem dX9_addTeam_15 : decode cX9_addTeam 15 = .ok (.getfield 93, 3) := by decide +kernel
theorem dX9_addTeam_18 : decode cX9_addTeam 18 = .ok (.bipush 12, 2) := by decide +kernel
theorem dX9_addTeam_20 : decode cX9_addTeam 20 = .ok (.if_icmp .ne 7, 3) := by decide +kernel
theorem dX9_addTeam_27 : decode cX9_addTeam 27 = .ok (.iconst 0, 1) := by decide +kernel
theorem dX9_addTeam_28 : decode cX9_addTeam 28 = .ok (.putfield 89, 3) := by decide +kernel
theorem dX9_addTeam_31 : decode cX9_addTeam 31 = .ok (.aload_n 0, 1) := by decide +kernel
theorem dX9_addTeam_32 : decode cX9_addTeam 32 = .ok (.getfield 89, 3) := by decide +kernel
theorem dX9_addTeam_35 : decode cX9_addTeam 35 = .ok (.ifCond .le 5, 3) := by decide +kernel
theorem dX9_addTeam_38 : decode cX9_addTeam 38 = .ok (.iconst 0, 1) := by decide +kernel
theorem dX9_addTeam_39 : decode cX9_addTeam 39 = .ok (.ireturn, 1) := by decide +kernel
theorem dX9_addTeam_40 : decode cX9_addTeam 40 = .ok (.aload_n 0, 1) := by decide +kernel
theorem dX9_addTeam_41 : decode cX9_addTeam 41 = .ok (.getfield 9, 3) := by decide +kernel
theorem dX9_addTeam_44 : decode cX9_addTeam 44 = .ok (.aload_n 0, 1) := by decide +kernel
theorem dX9_addTeam_45 : decode cX9_addTeam 45 = .ok (.getfield 93, 3) := by decide +kernel
theorem dX9_addTeam_48 : decode cX9_addTeam 48 = .ok (.iload_n 1, 1) := by decide +kernel
theorem dX9_addTeam_49 : decode cX9_addTeam 49 = .ok (.iastore, 1) := by decide +kernel
theorem dX9_addTeam_50 : decode cX9_addTeam 50 = .ok (.aload_n 0, 1) := by decide +kernel
theorem dX9_addTeam_51 : decode cX9_addTeam 51 = .ok (.getfield 13, 3) := by decide +kernel
theorem dX9_addTeam_54 : decode cX9_addTeam 54 = .ok (.aload_n 0, 1) := by decide +kernel
theorem dX9_addTeam_55 : decode cX9_addTeam 55 = .ok (.getfield 93, 3) := by decide +kernel
theorem dX9_addTeam_58 : decode cX9_addTeam 58 = .ok (.iconst 1, 1) := by decide +kernel
theorem dX9_addTeam_59 : decode cX9_addTeam 59 = .ok (.bastore, 1) := by decide +kernel
theorem dX9_addTeam_60 : decode cX9_addTeam 60 = .ok (.aload_n 0, 1) := by decide +kernel
theorem dX9_addTeam_61 : decode cX9_addTeam 61 = .ok (.getfield 17, 3) := by decide +kernel
theorem dX9_addTeam_64 : decode cX9_addTeam 64 = .ok (.aload_n 0, 1) := by decide +kernel
theorem dX9_addTeam_65 : decode cX9_addTeam 65 = .ok (.getfield 93, 3) := by decide +kernel
theorem dX9_addTeam_68 : decode cX9_addTeam 68 = .ok (.iconst (-1), 1) := by decide +kernel
theorem dX9_addTeam_69 : decode cX9_addTeam 69 = .ok (.iastore, 1) := by decide +kernel
theorem dX9_addTeam_70 : decode cX9_addTeam 70 = .ok (.aload_n 0, 1) := by decide +kernel
theorem dX9_addTeam_71 : decode cX9_addTeam 71 = .ok (.dup, 1) := by decide +kernel
theorem dX9_addTeam_72 : decode cX9_addTeam 72 = .ok (.getfield 93, 3) := by decide +kernel
theorem dX9_addTeam_75 : decode cX9_addTeam 75 = .ok (.iconst 1, 1) := by decide +kernel
theorem dX9_addTeam_76 : decode cX9_addTeam 76 = .ok (.iadd, 1) := by decide +kernel
theorem dX9_addTeam_77 : decode cX9_addTeam 77 = .ok (.putfield 93, 3) := by decide +kernel
theorem dX9_addTeam_80 : decode cX9_addTeam 80 = .ok (.aload_n 0, 1) := by decide +kernel
theorem dX9_addTeam_81 : decode cX9_addTeam 81 = .ok (.getfield 93, 3) := by decide +kernel
theorem dX9_addTeam_84 : decode cX9_addTeam 84 = .ok (.iconst 1, 1) := by decide +kernel
theorem dX9_addTeam_85 : decode cX9_addTeam 85 = .ok (.isub, 1) := by decide +kernel
theorem dX9_addTeam_86 : decode cX9_addTeam 86 = .ok (.ireturn, 1) := by decide +kernel
theorem dX9_addJudge_0 : decode cX9_addJudge 0 = .ok (.aload_n 0, 1) := by decide +kernel
theorem dX9_addJudge_1 : decode cX9_addJudge 1 = .ok (.iload_n 1, 1) := by decide +kernel
theorem dX9_addJudge_2 : decode cX9_addJudge 2 = .ok (.iconst 0, 1) := by decide +kernel
theorem dX9_addJudge_3 : decode cX9_addJudge 3 = .ok (.iconst 5, 1) := by decide +kernel
theorem dX9_addJudge_4 : decode cX9_addJudge 4 = .ok (.invokestatic 96, 3) := by decide +kernel
theorem dX9_addJudge_7 : decode cX9_addJudge 7 = .ok (.ifCond .eq 13, 3) := by decide +kernel
theorem dX9_addJudge_10 : decode cX9_addJudge 10 = .ok (.iload_n 2, 1) := by decide +kernel
theorem dX9_addJudge_11 : decode cX9_addJudge 11 = .ok (.iconst 1, 1) := by decide +kernel
theorem dX9_addJudge_12 : decode cX9_addJudge 12 = .ok (.bipush 9, 2) := by decide +kernel
theorem dX9_addJudge_14 : decode cX9_addJudge 14 = .ok (.invokestatic 96, 3) := by decide +kernel
theorem dX9_addJudge_17 : decode cX9_addJudge 17 = .ok (.ifCond .ne 7, 3) := by decide +kernel
theorem dX9_addJudge_20 : decode cX9_addJudge 20 = .ok (.iconst 1, 1) := by decide +kernel
theorem dX9_addJudge_21 : decode cX9_addJudge 21 = .ok (.goto 17, 3) := by decide +kernel
theorem dX9_addJudge_24 : decode cX9_addJudge 24 = .ok (.aload_n 0, 1) := by decide +kernel
theorem dX9_addJudge_25 : decode cX9_addJudge 25 = .ok (.getfield 100, 3) := by decide +kernel
theorem dX9_addJudge_28 : decode cX9_addJudge 28 = .ok (.bipush 8, 2) := by decide +kernel
theorem dX9_addJudge_30 : decode cX9_addJudge 30 = .ok (.if_icmp .ne 7, 3) := by decide +kernel
theorem dX9_addJudge_37 : decode cX9_addJudge 37 = .ok (.iconst 0, 1) := by decide +kernel
theorem dX9_addJudge_38 : decode cX9_addJudge 38 = .ok (.putfield 89, 3) := by decide +kernel
theorem dX9_addJudge_41 : decode cX9_addJudge 41 = .ok (.aload_n 0, 1) := by decide +kernel
theorem dX9_addJudge_42 : decode cX9_addJudge 42 = .ok (.getfield 89, 3) := by decide +kernel
theorem dX9_addJudge_45 : decode cX9_addJudge 45 = .ok (.ifCond .le 5, 3) := by decide +kernel
theorem dX9_addJudge_48 : decode cX9_addJudge 48 = .ok (.iconst 0, 1) := by decide +kernel
theorem dX9_addJudge_49 : decode cX9_addJudge 49 = .ok (.ireturn, 1) := by decide +kernel
theorem dX9_addJudge_50 : decode cX9_addJudge 50 = .ok (.aload_n 0, 1) := by decide +kernel
theorem dX9_addJudge_51 : decode cX9_addJudge 51 = .ok (.getfield 32, 3) := by decide +kernel
theorem dX9_addJudge_54 : decode cX9_addJudge 54 = .ok (.aload_n 0, 1) := by decide +kernel
theorem dX9_addJudge_55 : decode cX9_addJudge 55 = .ok (.getfield 100, 3) := by decide +kernel
theorem dX9_addJudge_58 : decode cX9_addJudge 58 = .ok (.iload_n 1, 1) := by decide +kernel
theorem dX9_addJudge_59 : decode cX9_addJudge 59 = .ok (.iastore, 1) := by decide +kernel
theorem dX9_addJudge_60 : decode cX9_addJudge 60 = .ok (.aload_n 0, 1) := by decide +kernel
theorem dX9_addJudge_61 : decode cX9_addJudge 61 = .ok (.getfield 35, 3) := by decide +kernel
theorem dX9_addJudge_64 : decode cX9_addJudge 64 = .ok (.aload_n 0, 1) := by decide +kernel
theorem dX9_addJudge_65 : decode cX9_addJudge 65 = .ok (.getfield 100, 3) := by decide +kernel
theorem dX9_addJudge_68 : decode cX9_addJudge 68 = .ok (.iload_n 2, 1) := by decide +kernel
theorem dX9_addJudge_69 : decode cX9_addJudge 69 = .ok (.iastore, 1) := by decide +kernel
theorem dX9_addJudge_70 : decode cX9_addJudge 70 = .ok (.aload_n 0, 1) := by decide +kernel
theorem dX9_addJudge_71 : decode cX9_addJudge 71 = .ok (.dup, 1) := by decide +kernel
theorem dX9_addJudge_72 : decode cX9_addJudge 72 = .ok (.getfield 100, 3) := by decide +kernel
theorem dX9_addJudge_75 : decode cX9_addJudge 75 = .ok (.iconst 1, 1) := by decide +kernel
theorem dX9_addJudge_76 : decode cX9_addJudge 76 = .ok (.iadd, 1) := by decide +kernel
theorem dX9_addJudge_77 : decode cX9_addJudge 77 = .ok (.putfield 100, 3) := by decide +kernel
theorem dX9_addJudge_80 : decode cX9_addJudge 80 = .ok (.aload_n 0, 1) := by decide +kernel
theorem dX9_addJudge_81 : decode cX9_addJudge 81 = .ok (.getfield 100, 3) := by decide +kernel
theorem dX9_addJudge_84 : decode cX9_addJudge 84 = .ok (.iconst 1, 1) := by decide +kernel
theorem dX9_addJudge_85 : decode cX9_addJudge 85 = .ok (.isub, 1) := by decide +kernel
theorem dX9_addJudge_86 : decode cX9_addJudge 86 = .ok (.ireturn, 1) := by decide +kernel
theorem dX9_addConflict_0 : decode cX9_addConflict 0 = .ok (.aload_n 0, 1) := by decide +kernel
theorem dX9_addConflict_1 : decode cX9_addConflict 1 = .ok (.aload_n 0, 1) := by decide +kernel
theorem dX9_addConflict_2 : decode cX9_addConflict 2 = .ok (.iload_n 1, 1) := by decide +kernel
theorem dX9_addConflict_3 : decode cX9_addConflict 3 = .ok (.invokevirtual 103, 3) := by decide +kernel
theorem dX9_addConflict_6 : decode cX9_addConflict 6 = .ok (.ifCond .eq 11, 3) := by decide +kernel
theorem dX9_addConflict_17 : decode cX9_addConflict 17 = .ok (.iconst 1, 1) := by decide +kernel
theorem dX9_addConflict_18 : decode cX9_addConflict 18 = .ok (.goto 19, 3) := by decide +kernel
theorem dX9_addConflict_37 : decode cX9_addConflict 37 = .ok (.putfield 89, 3) := by decide +kernel
theorem dX9_addConflict_40 : decode cX9_addConflict 40 = .ok (.aload_n 0, 1) := by decide +kernel
theorem dX9_addConflict_41 : decode cX9_addConflict 41 = .ok (.getfield 89, 3) := by decide +kernel
theorem dX9_addConflict_44 : decode cX9_addConflict 44 = .ok (.ifCond .le 5, 3) := by decide +kernel
theorem dX9_addConflict_47 : decode cX9_addConflict 47 = .ok (.iconst 0, 1) := by decide +kernel
theorem dX9_addConflict_48 : decode cX9_addConflict 48 = .ok (.ireturn, 1) := by decide +kernel
theorem dX9_setPresent_0 : decode cX9_setPresent 0 = .ok (.aload_n 0, 1) := by decide +kernel
theorem dX9_setPresent_1 : decode cX9_setPresent 1 = .ok (.aload_n 0, 1) := by decide +kernel
theorem dX9_setPresent_2 : decode cX9_setPresent 2 = .ok (.iload_n 1, 1) := by decide +kernel
theorem dX9_setPresent_3 : decode cX9_setPresent 3 = .ok (.invokevirtual 107, 3) := by decide +kernel
theorem dX9_setPresent_6 : decode cX9_setPresent 6 = .ok (.ifCond .eq 7, 3) := by decide +kernel
theorem dX9_setPresent_13 : decode cX9_setPresent 13 = .ok (.iconst 1, 1) := by decide +kernel
theorem dX9_setPresent_14 : decode cX9_setPresent 14 = .ok (.putfield 89, 3) := by decide +kernel
theorem dX9_setPresent_17 : decode cX9_setPresent 17 = .ok (.aload_n 0, 1) := by decide +kernel
theorem dX9_setPresent_18 : decode cX9_setPresent 18 = .ok (.getfield 89, 3) := by decide +kernel
theorem dX9_setPresent_21 : decode cX9_setPresent 21 = .ok (.ifCond .le 5, 3) := by decide +kernel
theorem dX9_setPresent_24 : decode cX9_setPresent 24 = .ok (.iconst 0, 1) := by decide +kernel
theorem dX9_setPresent_25 : decode cX9_setPresent 25 = .ok (.ireturn, 1) := by decide +kernel
theorem dX9_setIron_0 : decode cX9_setIron 0 = .ok (.aload_n 0, 1) := by decide +kernel
theorem dX9_setIron_1 : decode cX9_setIron 1 = .ok (.aload_n 0, 1) := by decide +kernel
theorem dX9_setIron_2 : decode cX9_setIron 2 = .ok (.iload_n 1, 1) := by decide +kernel
theorem dX9_setIron_3 : decode cX9_setIron 3 = .ok (.invokevirtual 107, 3) := by decide +kernel
theorem dX9_setIron_6 : decode cX9_setIron 6 = .ok (.ifCond .ne 7, 3) := by decide +kernel
theorem dX9_setIron_9 : decode cX9_setIron 9 = .ok (.iconst 1, 1) := by decide +kernel
theorem dX9_setIron_10 : decode cX9_setIron 10 = .ok (.goto 17, 3) := by decide +kernel
theorem dX9_setIron_27 : decode cX9_setIron 27 = .ok (.putfield 89, 3) := by decide +kernel
theorem dX9_setIron_30 : decode cX9_setIron 30 = .ok (.aload_n 0, 1) := by decide +kernel
theorem dX9_setIron_31 : decode cX9_setIron 31 = .ok (.getfield 89, 3) := by decide +kernel
theorem dX9_setIron_34 : decode cX9_setIron 34 = .ok (.ifCond .le 5, 3) := by decide +kernel
theorem dX9_setIron_37 : decode cX9_setIron 37 = .ok (.iconst 0, 1) := by decide +kernel
theorem dX9_setIron_38 : decode cX9_setIron 38 = .ok (.ireturn, 1) := by decide +kernel
theorem dX9_stands_0 : decode cX9_stands 0 = .ok (.iconst 0, 1) := by decide +kernel
theorem dX9_stands_1 : decode cX9_stands 1 = .ok (.istore_n 3, 1) := by decide +kernel
theorem dX9_stands_2 : decode cX9_stands 2 = .ok (.iload_n 3, 1) := by decide +kernel
theorem dX9_stands_3 : decode cX9_stands 3 = .ok (.aload_n 0, 1) := by decide +kernel
theorem dX9_stands_4 : decode cX9_stands 4 = .ok (.getfield 93, 3) := by decide +kernel
theorem dX9_stands_7 : decode cX9_stands 7 = .ok (.if_icmp .ge 91, 3) := by decide +kernel
theorem dX9_stands_98 : decode cX9_stands 98 = .ok (.iconst (-1), 1) := by decide +kernel
theorem dX9_stands_99 : decode cX9_stands 99 = .ok (.ireturn, 1) := by decide +kernel
theorem dX9_brackets_0 : decode cX9_brackets 0 = .ok (.aload_n 0, 1) := by decide +kernel
theorem dX9_brackets_1 : decode cX9_brackets 1 = .ok (.iconst 0, 1) := by decide +kernel
theorem dX9_brackets_2 : decode cX9_brackets 2 = .ok (.putfield 124, 3) := by decide +kernel
theorem dX9_brackets_5 : decode cX9_brackets 5 = .ok (.aload_n 0, 1) := by decide +kernel
theorem dX9_brackets_6 : decode cX9_brackets 6 = .ok (.iconst 0, 1) := by decide +kernel
theorem dX9_brackets_7 : decode cX9_brackets 7 = .ok (.iconst 0, 1) := by decide +kernel
theorem dX9_brackets_8 : decode cX9_brackets 8 = .ok (.invokevirtual 127, 3) := by decide +kernel
theorem dX9_brackets_11 : decode cX9_brackets 11 = .ok (.istore_n 2, 1) := by decide +kernel
theorem dX9_brackets_12 : decode cX9_brackets 12 = .ok (.iload_n 2, 1) := by decide +kernel
theorem dX9_brackets_13 : decode cX9_brackets 13 = .ok (.iconst (-1), 1) := by decide +kernel
theorem dX9_brackets_14 : decode cX9_brackets 14 = .ok (.if_icmp .eq 36, 3) := by decide +kernel
theorem dX9_brackets_50 : decode cX9_brackets 50 = .ok (.aload_n 0, 1) := by decide +kernel
theorem dX9_brackets_51 : decode cX9_brackets 51 = .ok (.iconst 0, 1) := by decide +kernel
theorem dX9_brackets_52 : decode cX9_brackets 52 = .ok (.putfield 131, 3) := by decide +kernel
theorem dX9_brackets_55 : decode cX9_brackets 55 = .ok (.iconst 0, 1) := by decide +kernel
theorem dX9_brackets_56 : decode cX9_brackets 56 = .ok (.istore_n 3, 1) := by decide +kernel
theorem dX9_brackets_57 : decode cX9_brackets 57 = .ok (.iload_n 3, 1) := by decide +kernel
theorem dX9_brackets_58 : decode cX9_brackets 58 = .ok (.aload_n 0, 1) := by decide +kernel
theorem dX9_brackets_59 : decode cX9_brackets 59 = .ok (.getfield 124, 3) := by decide +kernel
theorem dX9_brackets_62 : decode cX9_brackets 62 = .ok (.if_icmp .ge 103, 3) := by decide +kernel
theorem dX9_brackets_165 : decode cX9_brackets 165 = .ok (.aload_n 0, 1) := by decide +kernel
theorem dX9_brackets_166 : decode cX9_brackets 166 = .ok (.getfield 77, 3) := by decide +kernel
theorem dX9_brackets_169 : decode cX9_brackets 169 = .ok (.aload_n 0, 1) := by decide +kernel
theorem dX9_brackets_170 : decode cX9_brackets 170 = .ok (.getfield 131, 3) := by decide +kernel
theorem dX9_brackets_173 : decode cX9_brackets 173 = .ok (.aload_n 0, 1) := by decide +kernel
theorem dX9_brackets_174 : decode cX9_brackets 174 = .ok (.getfield 124, 3) := by decide +kernel
theorem dX9_brackets_177 : decode cX9_brackets 177 = .ok (.iastore, 1) := by decide +kernel
theorem dX9_brackets_178 : decode cX9_brackets 178 = .ok (.return_, 1) := by decide +kernel
theorem dX9_draw_0 : decode cX9_draw 0 = .ok (.aload_n 0, 1) := by decide +kernel
theorem dX9_draw_1 : decode cX9_draw 1 = .ok (.iconst 0, 1) := by decide +kernel
theorem dX9_draw_2 : decode cX9_draw 2 = .ok (.invokevirtual 160, 3) := by decide +kernel
theorem dX9_draw_5 : decode cX9_draw 5 = .ok (.aload_n 0, 1) := by decide +kernel
theorem dX9_draw_6 : decode cX9_draw 6 = .ok (.aload_n 0, 1) := by decide +kernel
theorem dX9_draw_7 : decode cX9_draw 7 = .ok (.getfield 114, 3) := by decide +kernel
theorem dX9_draw_10 : decode cX9_draw 10 = .ok (.bipush 6, 2) := by decide +kernel
theorem dX9_draw_12 : decode cX9_draw 12 = .ok (.if_icmp .eq 40, 3) := by decide +kernel
theorem dX9_draw_15 : decode cX9_draw 15 = .ok (.aload_n 0, 1) := by decide +kernel
theorem dX9_draw_16 : decode cX9_draw 16 = .ok (.getfield 114, 3) := by decide +kernel
theorem dX9_draw_19 : decode cX9_draw 19 = .ok (.ifCond .le 16, 3) := by decide +kernel
theorem dX9_draw_35 : decode cX9_draw 35 = .ok (.aload_n 0, 1) := by decide +kernel
theorem dX9_draw_36 : decode cX9_draw 36 = .ok (.getfield 124, 3) := by decide +kernel
theorem dX9_draw_39 : decode cX9_draw 39 = .ok (.iconst 2, 1) := by decide +kernel
theorem dX9_draw_40 : decode cX9_draw 40 = .ok (.irem, 1) := by decide +kernel
theorem dX9_draw_41 : decode cX9_draw 41 = .ok (.iconst 1, 1) := by decide +kernel
theorem dX9_draw_42 : decode cX9_draw 42 = .ok (.if_icmp .eq 10, 3) := by decide +kernel
theorem dX9_draw_45 : decode cX9_draw 45 = .ok (.aload_n 0, 1) := by decide +kernel
theorem dX9_draw_46 : decode cX9_draw 46 = .ok (.getfield 124, 3) := by decide +kernel
theorem dX9_draw_49 : decode cX9_draw 49 = .ok (.ifCond .ne 7, 3) := by decide +kernel
theorem dX9_draw_52 : decode cX9_draw 52 = .ok (.iconst 1, 1) := by decide +kernel
theorem dX9_draw_53 : decode cX9_draw 53 = .ok (.goto 4, 3) := by decide +kernel
theorem dX9_draw_57 : decode cX9_draw 57 = .ok (.putfield 89, 3) := by decide +kernel
theorem dX9_draw_60 : decode cX9_draw 60 = .ok (.aload_n 0, 1) := by decide +kernel
theorem dX9_draw_61 : decode cX9_draw 61 = .ok (.getfield 89, 3) := by decide +kernel
theorem dX9_draw_64 : decode cX9_draw 64 = .ok (.ifCond .le 5, 3) := by decide +kernel
theorem dX9_draw_67 : decode cX9_draw 67 = .ok (.iconst 0, 1) := by decide +kernel
theorem dX9_draw_68 : decode cX9_draw 68 = .ok (.ireturn, 1) := by decide +kernel
theorem dX9_ballot_0 : decode cX9_ballot 0 = .ok (.aload_n 0, 1) := by decide +kernel
theorem dX9_ballot_1 : decode cX9_ballot 1 = .ok (.getfield 114, 3) := by decide +kernel
theorem dX9_ballot_4 : decode cX9_ballot 4 = .ok (.iconst 1, 1) := by decide +kernel
theorem dX9_ballot_5 : decode cX9_ballot 5 = .ok (.isub, 1) := by decide +kernel
theorem dX9_ballot_6 : decode cX9_ballot 6 = .ok (.istore 6, 2) := by decide +kernel
theorem dX9_ballot_8 : decode cX9_ballot 8 = .ok (.iload_n 2, 1) := by decide +kernel
theorem dX9_ballot_9 : decode cX9_ballot 9 = .ok (.bipush 60, 2) := by decide +kernel
theorem dX9_ballot_11 : decode cX9_ballot 11 = .ok (.bipush 80, 2) := by decide +kernel
theorem dX9_ballot_13 : decode cX9_ballot 13 = .ok (.invokestatic 96, 3) := by decide +kernel
theorem dX9_ballot_16 : decode cX9_ballot 16 = .ok (.ifCond .eq 53, 3) := by decide +kernel
theorem dX9_ballot_19 : decode cX9_ballot 19 = .ok (.iload_n 3, 1) := by decide +kernel
theorem dX9_ballot_20 : decode cX9_ballot 20 = .ok (.bipush 60, 2) := by decide +kernel
theorem dX9_ballot_22 : decode cX9_ballot 22 = .ok (.bipush 80, 2) := by decide +kernel
theorem dX9_ballot_24 : decode cX9_ballot 24 = .ok (.invokestatic 96, 3) := by decide +kernel
theorem dX9_ballot_27 : decode cX9_ballot 27 = .ok (.ifCond .eq 42, 3) := by decide +kernel
theorem dX9_ballot_30 : decode cX9_ballot 30 = .ok (.iload 4, 2) := by decide +kernel
theorem dX9_ballot_32 : decode cX9_ballot 32 = .ok (.bipush 60, 2) := by decide +kernel
theorem dX9_ballot_34 : decode cX9_ballot 34 = .ok (.bipush 80, 2) := by decide +kernel
theorem dX9_ballot_36 : decode cX9_ballot 36 = .ok (.invokestatic 96, 3) := by decide +kernel
theorem dX9_ballot_39 : decode cX9_ballot 39 = .ok (.ifCond .eq 30, 3) := by decide +kernel
theorem dX9_ballot_42 : decode cX9_ballot 42 = .ok (.iload 5, 2) := by decide +kernel
theorem dX9_ballot_44 : decode cX9_ballot 44 = .ok (.bipush 60, 2) := by decide +kernel
theorem dX9_ballot_46 : decode cX9_ballot 46 = .ok (.bipush 80, 2) := by decide +kernel
theorem dX9_ballot_48 : decode cX9_ballot 48 = .ok (.invokestatic 96, 3) := by decide +kernel
theorem dX9_ballot_51 : decode cX9_ballot 51 = .ok (.ifCond .eq 18, 3) := by decide +kernel
theorem dX9_ballot_54 : decode cX9_ballot 54 = .ok (.iload_n 2, 1) := by decide +kernel
theorem dX9_ballot_55 : decode cX9_ballot 55 = .ok (.iload_n 3, 1) := by decide +kernel
theorem dX9_ballot_56 : decode cX9_ballot 56 = .ok (.iadd, 1) := by decide +kernel
theorem dX9_ballot_57 : decode cX9_ballot 57 = .ok (.iload 4, 2) := by decide +kernel
theorem dX9_ballot_59 : decode cX9_ballot 59 = .ok (.iload 5, 2) := by decide +kernel
theorem dX9_ballot_61 : decode cX9_ballot 61 = .ok (.iadd, 1) := by decide +kernel
theorem dX9_ballot_62 : decode cX9_ballot 62 = .ok (.if_icmp .eq 7, 3) := by decide +kernel
theorem dX9_ballot_65 : decode cX9_ballot 65 = .ok (.iconst 1, 1) := by decide +kernel
theorem dX9_ballot_66 : decode cX9_ballot 66 = .ok (.goto 4, 3) := by decide +kernel
theorem dX9_ballot_69 : decode cX9_ballot 69 = .ok (.iconst 0, 1) := by decide +kernel
theorem dX9_ballot_70 : decode cX9_ballot 70 = .ok (.istore 7, 2) := by decide +kernel
theorem dX9_ballot_72 : decode cX9_ballot 72 = .ok (.aload_n 0, 1) := by decide +kernel
theorem dX9_ballot_73 : decode cX9_ballot 73 = .ok (.aload_n 0, 1) := by decide +kernel
theorem dX9_ballot_74 : decode cX9_ballot 74 = .ok (.getfield 114, 3) := by decide +kernel
theorem dX9_ballot_77 : decode cX9_ballot 77 = .ok (.ifCond .ne 7, 3) := by decide +kernel
theorem dX9_ballot_80 : decode cX9_ballot 80 = .ok (.iconst 1, 1) := by decide +kernel
theorem dX9_ballot_81 : decode cX9_ballot 81 = .ok (.goto 52, 3) := by decide +kernel
theorem dX9_ballot_133 : decode cX9_ballot 133 = .ok (.putfield 89, 3) := by decide +kernel
theorem dX9_ballot_136 : decode cX9_ballot 136 = .ok (.aload_n 0, 1) := by decide +kernel
theorem dX9_ballot_137 : decode cX9_ballot 137 = .ok (.getfield 89, 3) := by decide +kernel
theorem dX9_ballot_140 : decode cX9_ballot 140 = .ok (.ifCond .le 5, 3) := by decide +kernel
theorem dX9_ballot_143 : decode cX9_ballot 143 = .ok (.iconst 0, 1) := by decide +kernel
theorem dX9_ballot_144 : decode cX9_ballot 144 = .ok (.ireturn, 1) := by decide +kernel
theorem dX9_swap_0 : decode cX9_swap 0 = .ok (.aload_n 0, 1) := by decide +kernel
theorem dX9_swap_1 : decode cX9_swap 1 = .ok (.getfield 114, 3) := by decide +kernel
theorem dX9_swap_4 : decode cX9_swap 4 = .ok (.ifCond .ne 9, 3) := by decide +kernel
theorem dX9_swap_7 : decode cX9_swap 7 = .ok (.aload_n 0, 1) := by decide +kernel
theorem dX9_swap_8 : decode cX9_swap 8 = .ok (.iconst 1, 1) := by decide +kernel
theorem dX9_swap_9 : decode cX9_swap 9 = .ok (.invokevirtual 175, 3) := by decide +kernel
theorem dX9_swap_12 : decode cX9_swap 12 = .ok (.ireturn, 1) := by decide +kernel
theorem dX9_teams_0 : decode cX9_teams 0 = .ok (.aload_n 0, 1) := by decide +kernel
theorem dX9_teams_1 : decode cX9_teams 1 = .ok (.iconst 0, 1) := by decide +kernel
theorem dX9_teams_2 : decode cX9_teams 2 = .ok (.putfield 89, 3) := by decide +kernel
theorem dX9_teams_5 : decode cX9_teams 5 = .ok (.aload_n 0, 1) := by decide +kernel
theorem dX9_teams_6 : decode cX9_teams 6 = .ok (.getfield 93, 3) := by decide +kernel
theorem dX9_teams_9 : decode cX9_teams 9 = .ok (.ireturn, 1) := by decide +kernel
theorem dX9_judges__0 : decode cX9_judges_ 0 = .ok (.aload_n 0, 1) := by decide +kernel
theorem dX9_judges__1 : decode cX9_judges_ 1 = .ok (.iconst 0, 1) := by decide +kernel
theorem dX9_judges__2 : decode cX9_judges_ 2 = .ok (.putfield 89, 3) := by decide +kernel
theorem dX9_judges__5 : decode cX9_judges_ 5 = .ok (.aload_n 0, 1) := by decide +kernel
theorem dX9_judges__6 : decode cX9_judges_ 6 = .ok (.getfield 100, 3) := by decide +kernel
theorem dX9_judges__9 : decode cX9_judges_ 9 = .ok (.ireturn, 1) := by decide +kernel
theorem dX9_rounds_0 : decode cX9_rounds 0 = .ok (.aload_n 0, 1) := by decide +kernel
theorem dX9_rounds_1 : decode cX9_rounds 1 = .ok (.iconst 0, 1) := by decide +kernel
theorem dX9_rounds_2 : decode cX9_rounds 2 = .ok (.putfield 89, 3) := by decide +kernel
theorem dX9_rounds_5 : decode cX9_rounds 5 = .ok (.aload_n 0, 1) := by decide +kernel
theorem dX9_rounds_6 : decode cX9_rounds 6 = .ok (.getfield 114, 3) := by decide +kernel
theorem dX9_rounds_9 : decode cX9_rounds 9 = .ok (.ireturn, 1) := by decide +kernel
theorem dX9_lacks_0 : decode cX9_lacks 0 = .ok (.aload_n 0, 1) := by decide +kernel
theorem dX9_lacks_1 : decode cX9_lacks 1 = .ok (.aload_n 0, 1) := by decide +kernel
theorem dX9_lacks_2 : decode cX9_lacks 2 = .ok (.iload_n 1, 1) := by decide +kernel
theorem dX9_lacks_3 : decode cX9_lacks 3 = .ok (.invokevirtual 107, 3) := by decide +kernel
theorem dX9_lacks_6 : decode cX9_lacks 6 = .ok (.ifCond .eq 7, 3) := by decide +kernel
theorem dX9_lacks_13 : decode cX9_lacks 13 = .ok (.iconst 1, 1) := by decide +kernel
theorem dX9_lacks_14 : decode cX9_lacks 14 = .ok (.putfield 89, 3) := by decide +kernel
theorem dX9_lacks_17 : decode cX9_lacks 17 = .ok (.aload_n 0, 1) := by decide +kernel
theorem dX9_lacks_18 : decode cX9_lacks 18 = .ok (.getfield 89, 3) := by decide +kernel
theorem dX9_lacks_21 : decode cX9_lacks 21 = .ok (.ifCond .le 7, 3) := by decide +kernel
theorem dX9_lacks_24 : decode cX9_lacks 24 = .ok (.iconst 1, 1) := by decide +kernel
theorem dX9_lacks_25 : decode cX9_lacks 25 = .ok (.goto 4, 3) := by decide +kernel
theorem dX9_lacks_29 : decode cX9_lacks 29 = .ok (.ireturn, 1) := by decide +kernel
theorem dX9_schoolOf_0 : decode cX9_schoolOf 0 = .ok (.aload_n 0, 1) := by decide +kernel
theorem dX9_schoolOf_1 : decode cX9_schoolOf 1 = .ok (.iload_n 1, 1) := by decide +kernel
theorem dX9_schoolOf_2 : decode cX9_schoolOf 2 = .ok (.invokevirtual 194, 3) := by decide +kernel
theorem dX9_schoolOf_5 : decode cX9_schoolOf 5 = .ok (.ifCond .eq 7, 3) := by decide +kernel
theorem dX9_schoolOf_8 : decode cX9_schoolOf 8 = .ok (.iconst 0, 1) := by decide +kernel
theorem dX9_schoolOf_9 : decode cX9_schoolOf 9 = .ok (.goto 9, 3) := by decide +kernel
theorem dX9_schoolOf_18 : decode cX9_schoolOf 18 = .ok (.ireturn, 1) := by decide +kernel
theorem dX9_isPresent_0 : decode cX9_isPresent 0 = .ok (.aload_n 0, 1) := by decide +kernel
theorem dX9_isPresent_1 : decode cX9_isPresent 1 = .ok (.iload_n 1, 1) := by decide +kernel
theorem dX9_isPresent_2 : decode cX9_isPresent 2 = .ok (.invokevirtual 194, 3) := by decide +kernel
theorem dX9_isPresent_5 : decode cX9_isPresent 5 = .ok (.ifCond .ne 16, 3) := by decide +kernel
theorem dX9_isPresent_21 : decode cX9_isPresent 21 = .ok (.iconst 0, 1) := by decide +kernel
theorem dX9_isPresent_22 : decode cX9_isPresent 22 = .ok (.ireturn, 1) := by decide +kernel
theorem dX9_mayJudge_0 : decode cX9_mayJudge 0 = .ok (.aload_n 0, 1) := by decide +kernel
theorem dX9_mayJudge_1 : decode cX9_mayJudge 1 = .ok (.aload_n 0, 1) := by decide +kernel
theorem dX9_mayJudge_2 : decode cX9_mayJudge 2 = .ok (.iload_n 1, 1) := by decide +kernel
theorem dX9_mayJudge_3 : decode cX9_mayJudge 3 = .ok (.invokevirtual 103, 3) := by decide +kernel
theorem dX9_mayJudge_6 : decode cX9_mayJudge 6 = .ok (.ifCond .eq 15, 3) := by decide +kernel
theorem dX9_mayJudge_21 : decode cX9_mayJudge 21 = .ok (.iconst 1, 1) := by decide +kernel
theorem dX9_mayJudge_22 : decode cX9_mayJudge 22 = .ok (.putfield 89, 3) := by decide +kernel
theorem dX9_mayJudge_25 : decode cX9_mayJudge 25 = .ok (.aload_n 0, 1) := by decide +kernel
theorem dX9_mayJudge_26 : decode cX9_mayJudge 26 = .ok (.getfield 89, 3) := by decide +kernel
theorem dX9_mayJudge_29 : decode cX9_mayJudge 29 = .ok (.ifCond .ne 16, 3) := by decide +kernel
theorem dX9_mayJudge_45 : decode cX9_mayJudge 45 = .ok (.iconst 0, 1) := by decide +kernel
theorem dX9_mayJudge_46 : decode cX9_mayJudge 46 = .ok (.ireturn, 1) := by decide +kernel
theorem dX9_conflicts_0 : decode cX9_conflicts 0 = .ok (.aload_n 0, 1) := by decide +kernel
theorem dX9_conflicts_1 : decode cX9_conflicts 1 = .ok (.aload_n 0, 1) := by decide +kernel
theorem dX9_conflicts_2 : decode cX9_conflicts 2 = .ok (.iload_n 1, 1) := by decide +kernel
theorem dX9_conflicts_3 : decode cX9_conflicts 3 = .ok (.invokevirtual 103, 3) := by decide +kernel
theorem dX9_conflicts_6 : decode cX9_conflicts 6 = .ok (.ifCond .eq 7, 3) := by decide +kernel
theorem dX9_conflicts_13 : decode cX9_conflicts 13 = .ok (.iconst 1, 1) := by decide +kernel
theorem dX9_conflicts_14 : decode cX9_conflicts 14 = .ok (.putfield 89, 3) := by decide +kernel
theorem dX9_conflicts_17 : decode cX9_conflicts 17 = .ok (.aload_n 0, 1) := by decide +kernel
theorem dX9_conflicts_18 : decode cX9_conflicts 18 = .ok (.getfield 89, 3) := by decide +kernel
theorem dX9_conflicts_21 : decode cX9_conflicts 21 = .ok (.ifCond .le 7, 3) := by decide +kernel
theorem dX9_conflicts_24 : decode cX9_conflicts 24 = .ok (.iconst 0, 1) := by decide +kernel
theorem dX9_conflicts_25 : decode cX9_conflicts 25 = .ok (.goto 8, 3) := by decide +kernel
theorem dX9_conflicts_33 : decode cX9_conflicts 33 = .ok (.ireturn, 1) := by decide +kernel
theorem dX9_wins_0 : decode cX9_wins 0 = .ok (.aload_n 0, 1) := by decide +kernel
theorem dX9_wins_1 : decode cX9_wins 1 = .ok (.iload_n 1, 1) := by decide +kernel
theorem dX9_wins_2 : decode cX9_wins 2 = .ok (.invokevirtual 194, 3) := by decide +kernel
theorem dX9_wins_5 : decode cX9_wins 5 = .ok (.ifCond .eq 7, 3) := by decide +kernel
theorem dX9_wins_8 : decode cX9_wins 8 = .ok (.iconst 0, 1) := by decide +kernel
theorem dX9_wins_9 : decode cX9_wins 9 = .ok (.goto 9, 3) := by decide +kernel
theorem dX9_wins_18 : decode cX9_wins 18 = .ok (.ireturn, 1) := by decide +kernel
theorem dX9_points_0 : decode cX9_points 0 = .ok (.aload_n 0, 1) := by decide +kernel
theorem dX9_points_1 : decode cX9_points 1 = .ok (.iload_n 1, 1) := by decide +kernel
theorem dX9_points_2 : decode cX9_points 2 = .ok (.invokevirtual 194, 3) := by decide +kernel
theorem dX9_points_5 : decode cX9_points 5 = .ok (.ifCond .eq 7, 3) := by decide +kernel
theorem dX9_points_8 : decode cX9_points 8 = .ok (.iconst 0, 1) := by decide +kernel
theorem dX9_points_9 : decode cX9_points 9 = .ok (.goto 9, 3) := by decide +kernel
theorem dX9_points_18 : decode cX9_points 18 = .ok (.ireturn, 1) := by decide +kernel
theorem dX9_strength_0 : decode cX9_strength 0 = .ok (.aload_n 0, 1) := by decide +kernel
theorem dX9_strength_1 : decode cX9_strength 1 = .ok (.iload_n 1, 1) := by decide +kernel
theorem dX9_strength_2 : decode cX9_strength 2 = .ok (.invokevirtual 194, 3) := by decide +kernel
theorem dX9_strength_5 : decode cX9_strength 5 = .ok (.ifCond .eq 7, 3) := by decide +kernel
theorem dX9_strength_8 : decode cX9_strength 8 = .ok (.iconst 0, 1) := by decide +kernel
theorem dX9_strength_9 : decode cX9_strength 9 = .ok (.goto 8, 3) := by decide +kernel
theorem dX9_strength_17 : decode cX9_strength 17 = .ok (.ireturn, 1) := by decide +kernel
theorem dX9_standing_0 : decode cX9_standing 0 = .ok (.aload_n 0, 1) := by decide +kernel
theorem dX9_standing_1 : decode cX9_standing 1 = .ok (.iload_n 1, 1) := by decide +kernel
theorem dX9_standing_2 : decode cX9_standing 2 = .ok (.iconst 0, 1) := by decide +kernel
theorem dX9_standing_3 : decode cX9_standing 3 = .ok (.aload_n 0, 1) := by decide +kernel
theorem dX9_standing_4 : decode cX9_standing 4 = .ok (.getfield 93, 3) := by decide +kernel
theorem dX9_standing_7 : decode cX9_standing 7 = .ok (.iconst 1, 1) := by decide +kernel
theorem dX9_standing_8 : decode cX9_standing 8 = .ok (.isub, 1) := by decide +kernel
theorem dX9_standing_9 : decode cX9_standing 9 = .ok (.invokestatic 96, 3) := by decide +kernel
theorem dX9_standing_12 : decode cX9_standing 12 = .ok (.ifCond .eq 7, 3) := by decide +kernel
theorem dX9_standing_19 : decode cX9_standing 19 = .ok (.iconst 1, 1) := by decide +kernel
theorem dX9_standing_20 : decode cX9_standing 20 = .ok (.putfield 89, 3) := by decide +kernel
theorem dX9_standing_23 : decode cX9_standing 23 = .ok (.aload_n 0, 1) := by decide +kernel
theorem dX9_standing_24 : decode cX9_standing 24 = .ok (.getfield 89, 3) := by decide +kernel
theorem dX9_standing_27 : decode cX9_standing 27 = .ok (.ifCond .le 7, 3) := by decide +kernel
theorem dX9_standing_30 : decode cX9_standing 30 = .ok (.iconst 0, 1) := by decide +kernel
theorem dX9_standing_31 : decode cX9_standing 31 = .ok (.goto 9, 3) := by decide +kernel
theorem dX9_standing_40 : decode cX9_standing 40 = .ok (.ireturn, 1) := by decide +kernel
theorem dX9_met_0 : decode cX9_met 0 = .ok (.aload_n 0, 1) := by decide +kernel
theorem dX9_met_1 : decode cX9_met 1 = .ok (.aload_n 0, 1) := by decide +kernel
theorem dX9_met_2 : decode cX9_met 2 = .ok (.iload_n 1, 1) := by decide +kernel
theorem dX9_met_3 : decode cX9_met 3 = .ok (.invokevirtual 107, 3) := by decide +kernel
theorem dX9_met_6 : decode cX9_met 6 = .ok (.ifCond .eq 11, 3) := by decide +kernel
theorem dX9_met_17 : decode cX9_met 17 = .ok (.iconst 1, 1) := by decide +kernel
theorem dX9_met_18 : decode cX9_met 18 = .ok (.goto 13, 3) := by decide +kernel
theorem dX9_met_31 : decode cX9_met 31 = .ok (.putfield 89, 3) := by decide +kernel
theorem dX9_met_34 : decode cX9_met 34 = .ok (.aload_n 0, 1) := by decide +kernel
theorem dX9_met_35 : decode cX9_met 35 = .ok (.getfield 89, 3) := by decide +kernel
theorem dX9_met_38 : decode cX9_met 38 = .ok (.ifCond .le 7, 3) := by decide +kernel
theorem dX9_met_41 : decode cX9_met 41 = .ok (.iconst 0, 1) := by decide +kernel
theorem dX9_met_42 : decode cX9_met 42 = .ok (.goto 13, 3) := by decide +kernel
theorem dX9_met_55 : decode cX9_met 55 = .ok (.ireturn, 1) := by decide +kernel
theorem dX9_proposed_0 : decode cX9_proposed 0 = .ok (.aload_n 0, 1) := by decide +kernel
theorem dX9_proposed_1 : decode cX9_proposed 1 = .ok (.iload_n 1, 1) := by decide +kernel
theorem dX9_proposed_2 : decode cX9_proposed 2 = .ok (.invokevirtual 194, 3) := by decide +kernel
theorem dX9_proposed_5 : decode cX9_proposed 5 = .ok (.ifCond .eq 7, 3) := by decide +kernel
theorem dX9_proposed_8 : decode cX9_proposed 8 = .ok (.iconst 0, 1) := by decide +kernel
theorem dX9_proposed_9 : decode cX9_proposed 9 = .ok (.goto 12, 3) := by decide +kernel
theorem dX9_proposed_21 : decode cX9_proposed 21 = .ok (.ireturn, 1) := by decide +kernel
theorem dX9_brackets__0 : decode cX9_brackets_ 0 = .ok (.aload_n 0, 1) := by decide +kernel
theorem dX9_brackets__1 : decode cX9_brackets_ 1 = .ok (.iconst 0, 1) := by decide +kernel
theorem dX9_brackets__2 : decode cX9_brackets_ 2 = .ok (.putfield 89, 3) := by decide +kernel
theorem dX9_brackets__5 : decode cX9_brackets_ 5 = .ok (.aload_n 0, 1) := by decide +kernel
theorem dX9_brackets__6 : decode cX9_brackets_ 6 = .ok (.iconst 1, 1) := by decide +kernel
theorem dX9_brackets__7 : decode cX9_brackets_ 7 = .ok (.invokevirtual 160, 3) := by decide +kernel
theorem dX9_brackets__10 : decode cX9_brackets_ 10 = .ok (.aload_n 0, 1) := by decide +kernel
theorem dX9_brackets__11 : decode cX9_brackets_ 11 = .ok (.getfield 131, 3) := by decide +kernel
theorem dX9_brackets__14 : decode cX9_brackets_ 14 = .ok (.ireturn, 1) := by decide +kernel
theorem dX9_noBracket_0 : decode cX9_noBracket 0 = .ok (.aload_n 0, 1) := by decide +kernel
theorem dX9_noBracket_1 : decode cX9_noBracket 1 = .ok (.iconst 1, 1) := by decide +kernel
theorem dX9_noBracket_2 : decode cX9_noBracket 2 = .ok (.invokevirtual 160, 3) := by decide +kernel
theorem dX9_noBracket_5 : decode cX9_noBracket 5 = .ok (.aload_n 0, 1) := by decide +kernel
theorem dX9_noBracket_6 : decode cX9_noBracket 6 = .ok (.iload_n 1, 1) := by decide +kernel
theorem dX9_noBracket_7 : decode cX9_noBracket 7 = .ok (.iconst 0, 1) := by decide +kernel
theorem dX9_noBracket_8 : decode cX9_noBracket 8 = .ok (.aload_n 0, 1) := by decide +kernel
theorem dX9_noBracket_9 : decode cX9_noBracket 9 = .ok (.getfield 131, 3) := by decide +kernel
theorem dX9_noBracket_12 : decode cX9_noBracket 12 = .ok (.iconst 1, 1) := by decide +kernel
theorem dX9_noBracket_13 : decode cX9_noBracket 13 = .ok (.isub, 1) := by decide +kernel
theorem dX9_noBracket_14 : decode cX9_noBracket 14 = .ok (.invokestatic 96, 3) := by decide +kernel
theorem dX9_noBracket_17 : decode cX9_noBracket 17 = .ok (.ifCond .eq 7, 3) := by decide +kernel
theorem dX9_noBracket_24 : decode cX9_noBracket 24 = .ok (.iconst 1, 1) := by decide +kernel
theorem dX9_noBracket_25 : decode cX9_noBracket 25 = .ok (.putfield 89, 3) := by decide +kernel
theorem dX9_noBracket_28 : decode cX9_noBracket 28 = .ok (.aload_n 0, 1) := by decide +kernel
theorem dX9_noBracket_29 : decode cX9_noBracket 29 = .ok (.getfield 89, 3) := by decide +kernel
theorem dX9_noBracket_32 : decode cX9_noBracket 32 = .ok (.ifCond .le 7, 3) := by decide +kernel
theorem dX9_noBracket_35 : decode cX9_noBracket 35 = .ok (.iconst 1, 1) := by decide +kernel
theorem dX9_noBracket_36 : decode cX9_noBracket 36 = .ok (.goto 4, 3) := by decide +kernel
theorem dX9_noBracket_40 : decode cX9_noBracket 40 = .ok (.ireturn, 1) := by decide +kernel
theorem dX9_bracketSize_0 : decode cX9_bracketSize 0 = .ok (.aload_n 0, 1) := by decide +kernel
theorem dX9_bracketSize_1 : decode cX9_bracketSize 1 = .ok (.iload_n 1, 1) := by decide +kernel
theorem dX9_bracketSize_2 : decode cX9_bracketSize 2 = .ok (.invokevirtual 197, 3) := by decide +kernel
theorem dX9_bracketSize_5 : decode cX9_bracketSize 5 = .ok (.ifCond .eq 7, 3) := by decide +kernel
theorem dX9_bracketSize_8 : decode cX9_bracketSize 8 = .ok (.iconst 0, 1) := by decide +kernel
theorem dX9_bracketSize_9 : decode cX9_bracketSize 9 = .ok (.goto 8, 3) := by decide +kernel
theorem dX9_bracketSize_17 : decode cX9_bracketSize 17 = .ok (.ireturn, 1) := by decide +kernel
theorem dX9_bracketAt_0 : decode cX9_bracketAt 0 = .ok (.aload_n 0, 1) := by decide +kernel
theorem dX9_bracketAt_1 : decode cX9_bracketAt 1 = .ok (.iload_n 1, 1) := by decide +kernel
theorem dX9_bracketAt_2 : decode cX9_bracketAt 2 = .ok (.invokevirtual 197, 3) := by decide +kernel
theorem dX9_bracketAt_5 : decode cX9_bracketAt 5 = .ok (.ifCond .eq 5, 3) := by decide +kernel
theorem dX9_bracketAt_8 : decode cX9_bracketAt 8 = .ok (.iconst 0, 1) := by decide +kernel
theorem dX9_bracketAt_9 : decode cX9_bracketAt 9 = .ok (.ireturn, 1) := by decide +kernel
theorem dX9_leastPenalty_0 : decode cX9_leastPenalty 0 = .ok (.aload_n 0, 1) := by decide +kernel
theorem dX9_leastPenalty_1 : decode cX9_leastPenalty 1 = .ok (.iload_n 1, 1) := by decide +kernel
theorem dX9_leastPenalty_2 : decode cX9_leastPenalty 2 = .ok (.invokevirtual 197, 3) := by decide +kernel
theorem dX9_leastPenalty_5 : decode cX9_leastPenalty 5 = .ok (.ifCond .eq 5, 3) := by decide +kernel
theorem dX9_leastPenalty_8 : decode cX9_leastPenalty 8 = .ok (.iconst 0, 1) := by decide +kernel
theorem dX9_leastPenalty_9 : decode cX9_leastPenalty 9 = .ok (.ireturn, 1) := by decide +kernel
theorem dX9_leastByTrying_0 : decode cX9_leastByTrying 0 = .ok (.aload_n 0, 1) := by decide +kernel
theorem dX9_leastByTrying_1 : decode cX9_leastByTrying 1 = .ok (.iload_n 1, 1) := by decide +kernel
theorem dX9_leastByTrying_2 : decode cX9_leastByTrying 2 = .ok (.invokevirtual 202, 3) := by decide +kernel
theorem dX9_leastByTrying_5 : decode cX9_leastByTrying 5 = .ok (.istore_n 2, 1) := by decide +kernel
theorem dX9_leastByTrying_6 : decode cX9_leastByTrying 6 = .ok (.aload_n 0, 1) := by decide +kernel
theorem dX9_leastByTrying_7 : decode cX9_leastByTrying 7 = .ok (.getfield 89, 3) := by decide +kernel
theorem dX9_leastByTrying_10 : decode cX9_leastByTrying 10 = .ok (.ifCond .le 5, 3) := by decide +kernel
theorem dX9_leastByTrying_13 : decode cX9_leastByTrying 13 = .ok (.iconst 0, 1) := by decide +kernel
theorem dX9_leastByTrying_14 : decode cX9_leastByTrying 14 = .ok (.ireturn, 1) := by decide +kernel
theorem dX9_opponent_0 : decode cX9_opponent 0 = .ok (.aload_n 0, 1) := by decide +kernel
theorem dX9_opponent_1 : decode cX9_opponent 1 = .ok (.iload_n 1, 1) := by decide +kernel
theorem dX9_opponent_2 : decode cX9_opponent 2 = .ok (.invokevirtual 197, 3) := by decide +kernel
theorem dX9_opponent_5 : decode cX9_opponent 5 = .ok (.ifCond .eq 5, 3) := by decide +kernel
theorem dX9_opponent_8 : decode cX9_opponent 8 = .ok (.iconst 0, 1) := by decide +kernel
theorem dX9_opponent_9 : decode cX9_opponent 9 = .ok (.ireturn, 1) := by decide +kernel
theorem dX9_rooms_0 : decode cX9_rooms 0 = .ok (.aload_n 0, 1) := by decide +kernel
theorem dX9_rooms_1 : decode cX9_rooms 1 = .ok (.iload_n 1, 1) := by decide +kernel
theorem dX9_rooms_2 : decode cX9_rooms 2 = .ok (.iconst 0, 1) := by decide +kernel
theorem dX9_rooms_3 : decode cX9_rooms 3 = .ok (.aload_n 0, 1) := by decide +kernel
theorem dX9_rooms_4 : decode cX9_rooms 4 = .ok (.getfield 114, 3) := by decide +kernel
theorem dX9_rooms_7 : decode cX9_rooms 7 = .ok (.iconst 1, 1) := by decide +kernel
theorem dX9_rooms_8 : decode cX9_rooms 8 = .ok (.isub, 1) := by decide +kernel
theorem dX9_rooms_9 : decode cX9_rooms 9 = .ok (.invokestatic 96, 3) := by decide +kernel
theorem dX9_rooms_12 : decode cX9_rooms 12 = .ok (.ifCond .eq 7, 3) := by decide +kernel
theorem dX9_rooms_19 : decode cX9_rooms 19 = .ok (.iconst 1, 1) := by decide +kernel
theorem dX9_rooms_20 : decode cX9_rooms 20 = .ok (.putfield 89, 3) := by decide +kernel
theorem dX9_rooms_23 : decode cX9_rooms 23 = .ok (.aload_n 0, 1) := by decide +kernel
theorem dX9_rooms_24 : decode cX9_rooms 24 = .ok (.getfield 89, 3) := by decide +kernel
theorem dX9_rooms_27 : decode cX9_rooms 27 = .ok (.ifCond .le 7, 3) := by decide +kernel
theorem dX9_rooms_30 : decode cX9_rooms 30 = .ok (.iconst 0, 1) := by decide +kernel
theorem dX9_rooms_31 : decode cX9_rooms 31 = .ok (.goto 9, 3) := by decide +kernel
theorem dX9_rooms_40 : decode cX9_rooms 40 = .ok (.ireturn, 1) := by decide +kernel
theorem dX9_noRoom_0 : decode cX9_noRoom 0 = .ok (.aload_n 0, 1) := by decide +kernel
theorem dX9_noRoom_1 : decode cX9_noRoom 1 = .ok (.iload_n 1, 1) := by decide +kernel
theorem dX9_noRoom_2 : decode cX9_noRoom 2 = .ok (.iconst 0, 1) := by decide +kernel
theorem dX9_noRoom_3 : decode cX9_noRoom 3 = .ok (.aload_n 0, 1) := by decide +kernel
theorem dX9_noRoom_4 : decode cX9_noRoom 4 = .ok (.getfield 114, 3) := by decide +kernel
theorem dX9_noRoom_7 : decode cX9_noRoom 7 = .ok (.iconst 1, 1) := by decide +kernel
theorem dX9_noRoom_8 : decode cX9_noRoom 8 = .ok (.isub, 1) := by decide +kernel
theorem dX9_noRoom_9 : decode cX9_noRoom 9 = .ok (.invokestatic 96, 3) := by decide +kernel
theorem dX9_noRoom_12 : decode cX9_noRoom 12 = .ok (.ifCond .eq 23, 3) := by decide +kernel
theorem dX9_noRoom_35 : decode cX9_noRoom 35 = .ok (.iconst 1, 1) := by decide +kernel
theorem dX9_noRoom_36 : decode cX9_noRoom 36 = .ok (.putfield 89, 3) := by decide +kernel
theorem dX9_noRoom_39 : decode cX9_noRoom 39 = .ok (.aload_n 0, 1) := by decide +kernel
theorem dX9_noRoom_40 : decode cX9_noRoom 40 = .ok (.getfield 89, 3) := by decide +kernel
theorem dX9_noRoom_43 : decode cX9_noRoom 43 = .ok (.ifCond .le 7, 3) := by decide +kernel
theorem dX9_noRoom_46 : decode cX9_noRoom 46 = .ok (.iconst 1, 1) := by decide +kernel
theorem dX9_noRoom_47 : decode cX9_noRoom 47 = .ok (.goto 4, 3) := by decide +kernel
theorem dX9_noRoom_51 : decode cX9_noRoom 51 = .ok (.ireturn, 1) := by decide +kernel
theorem dX9_teamIn_0 : decode cX9_teamIn 0 = .ok (.aload_n 0, 1) := by decide +kernel
theorem dX9_teamIn_1 : decode cX9_teamIn 1 = .ok (.iload_n 1, 1) := by decide +kernel
theorem dX9_teamIn_2 : decode cX9_teamIn 2 = .ok (.iload_n 2, 1) := by decide +kernel
theorem dX9_teamIn_3 : decode cX9_teamIn 3 = .ok (.invokevirtual 205, 3) := by decide +kernel
theorem dX9_teamIn_6 : decode cX9_teamIn 6 = .ok (.ifCond .eq 5, 3) := by decide +kernel
theorem dX9_teamIn_9 : decode cX9_teamIn 9 = .ok (.iconst 0, 1) := by decide +kernel
theorem dX9_teamIn_10 : decode cX9_teamIn 10 = .ok (.ireturn, 1) := by decide +kernel
theorem dX9_judgeIn_0 : decode cX9_judgeIn 0 = .ok (.aload_n 0, 1) := by decide +kernel
theorem dX9_judgeIn_1 : decode cX9_judgeIn 1 = .ok (.iload_n 1, 1) := by decide +kernel
theorem dX9_judgeIn_2 : decode cX9_judgeIn 2 = .ok (.iload_n 2, 1) := by decide +kernel
theorem dX9_judgeIn_3 : decode cX9_judgeIn 3 = .ok (.invokevirtual 205, 3) := by decide +kernel
theorem dX9_judgeIn_6 : decode cX9_judgeIn 6 = .ok (.ifCond .eq 7, 3) := by decide +kernel
theorem dX9_judgeIn_9 : decode cX9_judgeIn 9 = .ok (.iconst 0, 1) := by decide +kernel
theorem dX9_judgeIn_10 : decode cX9_judgeIn 10 = .ok (.goto 11, 3) := by decide +kernel
theorem dX9_judgeIn_21 : decode cX9_judgeIn 21 = .ok (.ireturn, 1) := by decide +kernel
theorem dX9_penaltyOf_0 : decode cX9_penaltyOf 0 = .ok (.aload_n 0, 1) := by decide +kernel
theorem dX9_penaltyOf_1 : decode cX9_penaltyOf 1 = .ok (.iload_n 1, 1) := by decide +kernel
theorem dX9_penaltyOf_2 : decode cX9_penaltyOf 2 = .ok (.iload_n 2, 1) := by decide +kernel
theorem dX9_penaltyOf_3 : decode cX9_penaltyOf 3 = .ok (.invokevirtual 205, 3) := by decide +kernel
theorem dX9_penaltyOf_6 : decode cX9_penaltyOf 6 = .ok (.ifCond .eq 7, 3) := by decide +kernel
theorem dX9_penaltyOf_9 : decode cX9_penaltyOf 9 = .ok (.iconst 0, 1) := by decide +kernel
theorem dX9_penaltyOf_10 : decode cX9_penaltyOf 10 = .ok (.goto 11, 3) := by decide +kernel
theorem dX9_penaltyOf_21 : decode cX9_penaltyOf 21 = .ok (.ireturn, 1) := by decide +kernel
theorem dX9_winner_0 : decode cX9_winner 0 = .ok (.aload_n 0, 1) := by decide +kernel
theorem dX9_winner_1 : decode cX9_winner 1 = .ok (.iload_n 1, 1) := by decide +kernel
theorem dX9_winner_2 : decode cX9_winner 2 = .ok (.iload_n 2, 1) := by decide +kernel
theorem dX9_winner_3 : decode cX9_winner 3 = .ok (.invokevirtual 205, 3) := by decide +kernel
theorem dX9_winner_6 : decode cX9_winner 6 = .ok (.ifCond .eq 8, 3) := by decide +kernel
theorem dX9_winner_9 : decode cX9_winner 9 = .ok (.bipush 32, 2) := by decide +kernel
theorem dX9_winner_11 : decode cX9_winner 11 = .ok (.goto 11, 3) := by decide +kernel
theorem dX9_winner_22 : decode cX9_winner 22 = .ok (.ireturn, 1) := by decide +kernel
theorem dX9_missing_0 : decode cX9_missing 0 = .ok (.aload_n 0, 1) := by decide +kernel
theorem dX9_missing_1 : decode cX9_missing 1 = .ok (.aload_n 0, 1) := by decide +kernel
theorem dX9_missing_2 : decode cX9_missing 2 = .ok (.getfield 114, 3) := by decide +kernel
theorem dX9_missing_5 : decode cX9_missing 5 = .ok (.ifCond .ne 7, 3) := by decide +kernel
theorem dX9_missing_8 : decode cX9_missing 8 = .ok (.iconst 1, 1) := by decide +kernel
theorem dX9_missing_9 : decode cX9_missing 9 = .ok (.goto 4, 3) := by decide +kernel
theorem dX9_missing_13 : decode cX9_missing 13 = .ok (.putfield 89, 3) := by decide +kernel
theorem dX9_missing_16 : decode cX9_missing 16 = .ok (.aload_n 0, 1) := by decide +kernel
theorem dX9_missing_17 : decode cX9_missing 17 = .ok (.getfield 89, 3) := by decide +kernel
theorem dX9_missing_20 : decode cX9_missing 20 = .ok (.ifCond .le 7, 3) := by decide +kernel
theorem dX9_missing_23 : decode cX9_missing 23 = .ok (.iconst 0, 1) := by decide +kernel
theorem dX9_missing_24 : decode cX9_missing 24 = .ok (.goto 13, 3) := by decide +kernel
theorem dX9_missing_37 : decode cX9_missing 37 = .ok (.ireturn, 1) := by decide +kernel
theorem dX9_nextRoom_0 : decode cX9_nextRoom 0 = .ok (.aload_n 0, 1) := by decide +kernel
theorem dX9_nextRoom_1 : decode cX9_nextRoom 1 = .ok (.aload_n 0, 1) := by decide +kernel
theorem dX9_nextRoom_2 : decode cX9_nextRoom 2 = .ok (.getfield 114, 3) := by decide +kernel
theorem dX9_nextRoom_5 : decode cX9_nextRoom 5 = .ok (.ifCond .ne 7, 3) := by decide +kernel
theorem dX9_nextRoom_8 : decode cX9_nextRoom 8 = .ok (.iconst 1, 1) := by decide +kernel
theorem dX9_nextRoom_9 : decode cX9_nextRoom 9 = .ok (.goto 4, 3) := by decide +kernel
theorem dX9_nextRoom_13 : decode cX9_nextRoom 13 = .ok (.putfield 89, 3) := by decide +kernel
theorem dX9_nextRoom_16 : decode cX9_nextRoom 16 = .ok (.aload_n 0, 1) := by decide +kernel
theorem dX9_nextRoom_17 : decode cX9_nextRoom 17 = .ok (.getfield 89, 3) := by decide +kernel
theorem dX9_nextRoom_20 : decode cX9_nextRoom 20 = .ok (.ifCond .le 5, 3) := by decide +kernel
theorem dX9_nextRoom_23 : decode cX9_nextRoom 23 = .ok (.iconst 0, 1) := by decide +kernel
theorem dX9_nextRoom_24 : decode cX9_nextRoom 24 = .ok (.ireturn, 1) := by decide +kernel
theorem dX9_noSpeaker_0 : decode cX9_noSpeaker 0 = .ok (.aload_n 0, 1) := by decide +kernel
theorem dX9_noSpeaker_1 : decode cX9_noSpeaker 1 = .ok (.aload_n 0, 1) := by decide +kernel
theorem dX9_noSpeaker_2 : decode cX9_noSpeaker 2 = .ok (.iload_n 1, 1) := by decide +kernel
theorem dX9_noSpeaker_3 : decode cX9_noSpeaker 3 = .ok (.invokevirtual 107, 3) := by decide +kernel
theorem dX9_noSpeaker_6 : decode cX9_noSpeaker 6 = .ok (.ifCond .ne 7, 3) := by decide +kernel
theorem dX9_noSpeaker_9 : decode cX9_noSpeaker 9 = .ok (.iconst 1, 1) := by decide +kernel
theorem dX9_noSpeaker_10 : decode cX9_noSpeaker 10 = .ok (.goto 17, 3) := by decide +kernel
theorem dX9_noSpeaker_27 : decode cX9_noSpeaker 27 = .ok (.putfield 89, 3) := by decide +kernel
theorem dX9_noSpeaker_30 : decode cX9_noSpeaker 30 = .ok (.aload_n 0, 1) := by decide +kernel
theorem dX9_noSpeaker_31 : decode cX9_noSpeaker 31 = .ok (.getfield 89, 3) := by decide +kernel
theorem dX9_noSpeaker_34 : decode cX9_noSpeaker 34 = .ok (.ifCond .le 7, 3) := by decide +kernel
theorem dX9_noSpeaker_37 : decode cX9_noSpeaker 37 = .ok (.iconst 1, 1) := by decide +kernel
theorem dX9_noSpeaker_38 : decode cX9_noSpeaker 38 = .ok (.goto 4, 3) := by decide +kernel
theorem dX9_noSpeaker_42 : decode cX9_noSpeaker 42 = .ok (.ireturn, 1) := by decide +kernel
theorem dX9_speeches_0 : decode cX9_speeches 0 = .ok (.aload_n 0, 1) := by decide +kernel
theorem dX9_speeches_1 : decode cX9_speeches 1 = .ok (.iload_n 1, 1) := by decide +kernel
theorem dX9_speeches_2 : decode cX9_speeches 2 = .ok (.iload_n 2, 1) := by decide +kernel
theorem dX9_speeches_3 : decode cX9_speeches 3 = .ok (.invokevirtual 208, 3) := by decide +kernel
theorem dX9_speeches_6 : decode cX9_speeches 6 = .ok (.ifCond .eq 7, 3) := by decide +kernel
theorem dX9_speeches_9 : decode cX9_speeches 9 = .ok (.iconst 0, 1) := by decide +kernel
theorem dX9_speeches_10 : decode cX9_speeches 10 = .ok (.goto 13, 3) := by decide +kernel
theorem dX9_speeches_23 : decode cX9_speeches 23 = .ok (.ireturn, 1) := by decide +kernel
theorem dX9_average_0 : decode cX9_average 0 = .ok (.aload_n 0, 1) := by decide +kernel
theorem dX9_average_1 : decode cX9_average 1 = .ok (.iload_n 1, 1) := by decide +kernel
theorem dX9_average_2 : decode cX9_average 2 = .ok (.iload_n 2, 1) := by decide +kernel
theorem dX9_average_3 : decode cX9_average 3 = .ok (.invokevirtual 208, 3) := by decide +kernel
theorem dX9_average_6 : decode cX9_average 6 = .ok (.ifCond .eq 5, 3) := by decide +kernel
theorem dX9_average_9 : decode cX9_average 9 = .ok (.fconst 0, 1) := by decide +kernel
theorem dX9_average_10 : decode cX9_average 10 = .ok (.freturn, 1) := by decide +kernel
theorem dX9_averageBits_0 : decode cX9_averageBits 0 = .ok (.aload_n 0, 1) := by decide +kernel
theorem dX9_averageBits_1 : decode cX9_averageBits 1 = .ok (.iload_n 1, 1) := by decide +kernel
theorem dX9_averageBits_2 : decode cX9_averageBits 2 = .ok (.iload_n 2, 1) := by decide +kernel
theorem dX9_averageBits_3 : decode cX9_averageBits 3 = .ok (.invokevirtual 215, 3) := by decide +kernel
theorem dX9_averageBits_6 : decode cX9_averageBits 6 = .ok (.fstore_n 3, 1) := by decide +kernel
theorem dX9_averageBits_7 : decode cX9_averageBits 7 = .ok (.aload_n 0, 1) := by decide +kernel
theorem dX9_averageBits_8 : decode cX9_averageBits 8 = .ok (.getfield 89, 3) := by decide +kernel
theorem dX9_averageBits_11 : decode cX9_averageBits 11 = .ok (.ifCond .le 7, 3) := by decide +kernel
theorem dX9_averageBits_14 : decode cX9_averageBits 14 = .ok (.iconst 0, 1) := by decide +kernel
theorem dX9_averageBits_15 : decode cX9_averageBits 15 = .ok (.goto 7, 3) := by decide +kernel
theorem dX9_averageBits_22 : decode cX9_averageBits 22 = .ok (.ireturn, 1) := by decide +kernel
theorem dX9_averageTenths_0 : decode cX9_averageTenths 0 = .ok (.aload_n 0, 1) := by decide +kernel
theorem dX9_averageTenths_1 : decode cX9_averageTenths 1 = .ok (.iload_n 1, 1) := by decide +kernel
theorem dX9_averageTenths_2 : decode cX9_averageTenths 2 = .ok (.iload_n 2, 1) := by decide +kernel
theorem dX9_averageTenths_3 : decode cX9_averageTenths 3 = .ok (.invokevirtual 215, 3) := by decide +kernel
theorem dX9_averageTenths_6 : decode cX9_averageTenths 6 = .ok (.fstore_n 3, 1) := by decide +kernel
theorem dX9_averageTenths_7 : decode cX9_averageTenths 7 = .ok (.aload_n 0, 1) := by decide +kernel
theorem dX9_averageTenths_8 : decode cX9_averageTenths 8 = .ok (.getfield 89, 3) := by decide +kernel
theorem dX9_averageTenths_11 : decode cX9_averageTenths 11 = .ok (.ifCond .le 7, 3) := by decide +kernel
theorem dX9_averageTenths_14 : decode cX9_averageTenths 14 = .ok (.iconst 0, 1) := by decide +kernel
theorem dX9_averageTenths_15 : decode cX9_averageTenths 15 = .ok (.goto 8, 3) := by decide +kernel
theorem dX9_averageTenths_23 : decode cX9_averageTenths 23 = .ok (.ireturn, 1) := by decide +kernel
theorem dX9_bestSpeaker_0 : decode cX9_bestSpeaker 0 = .ok (.iconst 0, 1) := by decide +kernel
theorem dX9_bestSpeaker_1 : decode cX9_bestSpeaker 1 = .ok (.istore_n 2, 1) := by decide +kernel
theorem dX9_bestSpeaker_2 : decode cX9_bestSpeaker 2 = .ok (.iload_n 2, 1) := by decide +kernel
theorem dX9_bestSpeaker_3 : decode cX9_bestSpeaker 3 = .ok (.iconst 2, 1) := by decide +kernel
theorem dX9_bestSpeaker_4 : decode cX9_bestSpeaker 4 = .ok (.aload_n 0, 1) := by decide +kernel
theorem dX9_bestSpeaker_5 : decode cX9_bestSpeaker 5 = .ok (.getfield 93, 3) := by decide +kernel
theorem dX9_bestSpeaker_8 : decode cX9_bestSpeaker 8 = .ok (.imul, 1) := by decide +kernel
theorem dX9_bestSpeaker_9 : decode cX9_bestSpeaker 9 = .ok (.if_icmp .ge 76, 3) := by decide +kernel
theorem dX9_bestSpeaker_85 : decode cX9_bestSpeaker 85 = .ok (.aload_n 0, 1) := by decide +kernel
theorem dX9_bestSpeaker_86 : decode cX9_bestSpeaker 86 = .ok (.iconst 1, 1) := by decide +kernel
theorem dX9_bestSpeaker_87 : decode cX9_bestSpeaker 87 = .ok (.invokevirtual 175, 3) := by decide +kernel
theorem dX9_bestSpeaker_90 : decode cX9_bestSpeaker 90 = .ok (.ireturn, 1) := by decide +kernel
theorem dX9_breaks_0 : decode cX9_breaks 0 = .ok (.iload_n 2, 1) := by decide +kernel
theorem dX9_breaks_1 : decode cX9_breaks 1 = .ok (.iconst 2, 1) := by decide +kernel
theorem dX9_breaks_2 : decode cX9_breaks 2 = .ok (.if_icmp .eq 20, 3) := by decide +kernel
theorem dX9_breaks_5 : decode cX9_breaks 5 = .ok (.iload_n 2, 1) := by decide +kernel
theorem dX9_breaks_6 : decode cX9_breaks 6 = .ok (.iconst 4, 1) := by decide +kernel
theorem dX9_breaks_7 : decode cX9_breaks 7 = .ok (.if_icmp .eq 15, 3) := by decide +kernel
theorem dX9_breaks_10 : decode cX9_breaks 10 = .ok (.iload_n 2, 1) := by decide +kernel
theorem dX9_breaks_11 : decode cX9_breaks 11 = .ok (.bipush 8, 2) := by decide +kernel
theorem dX9_breaks_13 : decode cX9_breaks 13 = .ok (.if_icmp .eq 9, 3) := by decide +kernel
theorem dX9_breaks_16 : decode cX9_breaks 16 = .ok (.aload_n 0, 1) := by decide +kernel
theorem dX9_breaks_17 : decode cX9_breaks 17 = .ok (.iconst 1, 1) := by decide +kernel
theorem dX9_breaks_18 : decode cX9_breaks 18 = .ok (.invokevirtual 175, 3) := by decide +kernel
theorem dX9_breaks_21 : decode cX9_breaks 21 = .ok (.ireturn, 1) := by decide +kernel
theorem dX9_breaks_22 : decode cX9_breaks 22 = .ok (.bipush 6, 2) := by decide +kernel
theorem dX9_breaks_24 : decode cX9_breaks 24 = .ok (.newarray .int, 2) := by decide +kernel
theorem dX9_breaks_26 : decode cX9_breaks 26 = .ok (.astore_n 3, 1) := by decide +kernel
theorem dX9_breaks_27 : decode cX9_breaks 27 = .ok (.iconst 0, 1) := by decide +kernel
theorem dX9_breaks_28 : decode cX9_breaks 28 = .ok (.istore 4, 2) := by decide +kernel
theorem dX9_breaks_30 : decode cX9_breaks 30 = .ok (.iconst 0, 1) := by decide +kernel
theorem dX9_breaks_31 : decode cX9_breaks 31 = .ok (.istore 5, 2) := by decide +kernel
theorem dX9_breaks_33 : decode cX9_breaks 33 = .ok (.iload 5, 2) := by decide +kernel
theorem dX9_breaks_35 : decode cX9_breaks 35 = .ok (.aload_n 0, 1) := by decide +kernel
theorem dX9_breaks_36 : decode cX9_breaks 36 = .ok (.getfield 93, 3) := by decide +kernel
theorem dX9_breaks_39 : decode cX9_breaks 39 = .ok (.if_icmp .ge 72, 3) := by decide +kernel
theorem dX9_breaks_111 : decode cX9_breaks 111 = .ok (.aload_n 0, 1) := by decide +kernel
theorem dX9_breaks_112 : decode cX9_breaks 112 = .ok (.iconst 2, 1) := by decide +kernel
theorem dX9_breaks_113 : decode cX9_breaks 113 = .ok (.invokevirtual 175, 3) := by decide +kernel
theorem dX9_breaks_116 : decode cX9_breaks 116 = .ok (.ireturn, 1) := by decide +kernel
theorem dX9_people_0 : decode cX9_people 0 = .ok (.aload_n 0, 1) := by decide +kernel
theorem dX9_people_1 : decode cX9_people 1 = .ok (.iload_n 1, 1) := by decide +kernel
theorem dX9_people_2 : decode cX9_people 2 = .ok (.bipush 116, 2) := by decide +kernel
theorem dX9_people_4 : decode cX9_people 4 = .ok (.if_icmp .eq 9, 3) := by decide +kernel
theorem dX9_people_7 : decode cX9_people 7 = .ok (.iload_n 1, 1) := by decide +kernel
theorem dX9_people_8 : decode cX9_people 8 = .ok (.bipush 106, 2) := by decide +kernel
theorem dX9_people_10 : decode cX9_people 10 = .ok (.if_icmp .ne 7, 3) := by decide +kernel
theorem dX9_people_13 : decode cX9_people 13 = .ok (.iconst 0, 1) := by decide +kernel
theorem dX9_people_14 : decode cX9_people 14 = .ok (.goto 4, 3) := by decide +kernel
theorem dX9_people_17 : decode cX9_people 17 = .ok (.iconst 1, 1) := by decide +kernel
theorem dX9_people_18 : decode cX9_people 18 = .ok (.putfield 89, 3) := by decide +kernel
theorem dX9_people_21 : decode cX9_people 21 = .ok (.aload_n 0, 1) := by decide +kernel
theorem dX9_people_22 : decode cX9_people 22 = .ok (.getfield 89, 3) := by decide +kernel
theorem dX9_people_25 : decode cX9_people 25 = .ok (.ifCond .le 7, 3) := by decide +kernel
theorem dX9_people_28 : decode cX9_people 28 = .ok (.iconst 0, 1) := by decide +kernel
theorem dX9_people_29 : decode cX9_people 29 = .ok (.goto 20, 3) := by decide +kernel
theorem dX9_people_32 : decode cX9_people 32 = .ok (.iload_n 1, 1) := by decide +kernel
theorem dX9_people_33 : decode cX9_people 33 = .ok (.bipush 116, 2) := by decide +kernel
theorem dX9_people_35 : decode cX9_people 35 = .ok (.if_icmp .ne 10, 3) := by decide +kernel
theorem dX9_people_38 : decode cX9_people 38 = .ok (.aload_n 0, 1) := by decide +kernel
theorem dX9_people_39 : decode cX9_people 39 = .ok (.getfield 93, 3) := by decide +kernel
theorem dX9_people_42 : decode cX9_people 42 = .ok (.goto 7, 3) := by decide +kernel
theorem dX9_people_45 : decode cX9_people 45 = .ok (.aload_n 0, 1) := by decide +kernel
theorem dX9_people_46 : decode cX9_people 46 = .ok (.getfield 100, 3) := by decide +kernel
theorem dX9_people_49 : decode cX9_people 49 = .ok (.ireturn, 1) := by decide +kernel
theorem dX9_scores_0 : decode cX9_scores 0 = .ok (.aload_n 0, 1) := by decide +kernel
theorem dX9_scores_1 : decode cX9_scores 1 = .ok (.iconst 0, 1) := by decide +kernel
theorem dX9_scores_2 : decode cX9_scores 2 = .ok (.putfield 89, 3) := by decide +kernel
theorem dX9_scores_5 : decode cX9_scores 5 = .ok (.aload_n 0, 1) := by decide +kernel
theorem dX9_scores_6 : decode cX9_scores 6 = .ok (.getfield 178, 3) := by decide +kernel
theorem dX9_scores_9 : decode cX9_scores 9 = .ok (.lreturn, 1) := by decide +kernel
theorem dX9_meanPenalty_0 : decode cX9_meanPenalty 0 = .ok (.iconst 0, 1) := by decide +kernel
theorem dX9_meanPenalty_1 : decode cX9_meanPenalty 1 = .ok (.istore_n 1, 1) := by decide +kernel
theorem dX9_meanPenalty_2 : decode cX9_meanPenalty 2 = .ok (.iconst 0, 1) := by decide +kernel
theorem dX9_meanPenalty_3 : decode cX9_meanPenalty 3 = .ok (.istore_n 2, 1) := by decide +kernel
theorem dX9_meanPenalty_4 : decode cX9_meanPenalty 4 = .ok (.iconst 0, 1) := by decide +kernel
theorem dX9_meanPenalty_5 : decode cX9_meanPenalty 5 = .ok (.istore_n 3, 1) := by decide +kernel
theorem dX9_meanPenalty_6 : decode cX9_meanPenalty 6 = .ok (.iload_n 3, 1) := by decide +kernel
theorem dX9_meanPenalty_7 : decode cX9_meanPenalty 7 = .ok (.aload_n 0, 1) := by decide +kernel
theorem dX9_meanPenalty_8 : decode cX9_meanPenalty 8 = .ok (.getfield 114, 3) := by decide +kernel
theorem dX9_meanPenalty_11 : decode cX9_meanPenalty 11 = .ok (.if_icmp .ge 44, 3) := by decide +kernel
theorem dX9_meanPenalty_55 : decode cX9_meanPenalty 55 = .ok (.aload_n 0, 1) := by decide +kernel
theorem dX9_meanPenalty_56 : decode cX9_meanPenalty 56 = .ok (.iload_n 2, 1) := by decide +kernel
theorem dX9_meanPenalty_57 : decode cX9_meanPenalty 57 = .ok (.ifCond .ne 7, 3) := by decide +kernel
theorem dX9_meanPenalty_60 : decode cX9_meanPenalty 60 = .ok (.iconst 1, 1) := by decide +kernel
theorem dX9_meanPenalty_61 : decode cX9_meanPenalty 61 = .ok (.goto 4, 3) := by decide +kernel
theorem dX9_meanPenalty_65 : decode cX9_meanPenalty 65 = .ok (.putfield 89, 3) := by decide +kernel
theorem dX9_meanPenalty_68 : decode cX9_meanPenalty 68 = .ok (.aload_n 0, 1) := by decide +kernel
theorem dX9_meanPenalty_69 : decode cX9_meanPenalty 69 = .ok (.getfield 89, 3) := by decide +kernel
theorem dX9_meanPenalty_72 : decode cX9_meanPenalty 72 = .ok (.ifCond .le 7, 3) := by decide +kernel
theorem dX9_meanPenalty_75 : decode cX9_meanPenalty 75 = .ok (.dconst 0, 1) := by decide +kernel
theorem dX9_meanPenalty_76 : decode cX9_meanPenalty 76 = .ok (.goto 8, 3) := by decide +kernel
theorem dX9_meanPenalty_84 : decode cX9_meanPenalty 84 = .ok (.dreturn, 1) := by decide +kernel
theorem dJ7_fill_53178_0 : decode cJ7_fill_53178 0 = .ok (.iconst 0, 1) := by decide +kernel
theorem dJ7_fill_53178_1 : decode cJ7_fill_53178 1 = .ok (.istore_n 2, 1) := by decide +kernel
theorem dJ7_fill_53178_2 : decode cJ7_fill_53178 2 = .ok (.aload_n 0, 1) := by decide +kernel
theorem dJ7_fill_53178_3 : decode cJ7_fill_53178 3 = .ok (.arraylength, 1) := by decide +kernel
theorem dJ7_fill_53178_4 : decode cJ7_fill_53178 4 = .ok (.istore_n 3, 1) := by decide +kernel
theorem dJ7_fill_53178_5 : decode cJ7_fill_53178 5 = .ok (.iload_n 2, 1) := by decide +kernel
theorem dJ7_fill_53178_6 : decode cJ7_fill_53178 6 = .ok (.iload_n 3, 1) := by decide +kernel
theorem dJ7_fill_53178_7 : decode cJ7_fill_53178 7 = .ok (.if_icmp .ge 13, 3) := by decide +kernel
theorem dJ7_fill_53178_10 : decode cJ7_fill_53178 10 = .ok (.aload_n 0, 1) := by decide +kernel
theorem dJ7_fill_53178_11 : decode cJ7_fill_53178 11 = .ok (.iload_n 2, 1) := by decide +kernel
theorem dJ7_fill_53178_12 : decode cJ7_fill_53178 12 = .ok (.iload_n 1, 1) := by decide +kernel
theorem dJ7_fill_53178_13 : decode cJ7_fill_53178 13 = .ok (.iastore, 1) := by decide +kernel
theorem dJ7_fill_53178_14 : decode cJ7_fill_53178 14 = .ok (.iinc 2 1, 3) := by decide +kernel
theorem dJ7_fill_53178_17 : decode cJ7_fill_53178 17 = .ok (.goto (-12), 3) := by decide +kernel
theorem dJ7_fill_53178_20 : decode cJ7_fill_53178 20 = .ok (.return_, 1) := by decide +kernel
theorem dL_addTeam_0 : decode cL_addTeam 0 = .ok (.aload_n 2, 1) := by decide +kernel
theorem dL_addTeam_1 : decode cL_addTeam 1 = .ok (.iconst 0, 1) := by decide +kernel
theorem dL_addTeam_2 : decode cL_addTeam 2 = .ok (.aload_n 0, 1) := by decide +kernel
theorem dL_addTeam_3 : decode cL_addTeam 3 = .ok (.iload_n 1, 1) := by decide +kernel
theorem dL_addTeam_4 : decode cL_addTeam 4 = .ok (.invokevirtual 7, 3) := by decide +kernel
theorem dL_addTeam_7 : decode cL_addTeam 7 = .ok (.i2l, 1) := by decide +kernel
theorem dL_addTeam_8 : decode cL_addTeam 8 = .ok (.lastore, 1) := by decide +kernel
theorem dL_addTeam_9 : decode cL_addTeam 9 = .ok (.goto 9, 3) := by decide +kernel
theorem dL_addTeam_12 : decode cL_addTeam 12 = .ok (.astore_n 3, 1) := by decide +kernel
theorem dL_addTeam_13 : decode cL_addTeam 13 = .ok (.iconst 1, 1) := by decide +kernel
theorem dL_addTeam_14 : decode cL_addTeam 14 = .ok (.ireturn, 1) := by decide +kernel
theorem dL_addTeam_18 : decode cL_addTeam 18 = .ok (.iconst 0, 1) := by decide +kernel
theorem dL_addTeam_19 : decode cL_addTeam 19 = .ok (.ireturn, 1) := by decide +kernel
theorem dL_addJudge_0 : decode cL_addJudge 0 = .ok (.aload_n 3, 1) := by decide +kernel
theorem dL_addJudge_1 : decode cL_addJudge 1 = .ok (.iconst 0, 1) := by decide +kernel
theorem dL_addJudge_2 : decode cL_addJudge 2 = .ok (.aload_n 0, 1) := by decide +kernel
theorem dL_addJudge_3 : decode cL_addJudge 3 = .ok (.iload_n 1, 1) := by decide +kernel
theorem dL_addJudge_4 : decode cL_addJudge 4 = .ok (.iload_n 2, 1) := by decide +kernel
theorem dL_addJudge_5 : decode cL_addJudge 5 = .ok (.invokevirtual 17, 3) := by decide +kernel
theorem dL_addJudge_8 : decode cL_addJudge 8 = .ok (.i2l, 1) := by decide +kernel
theorem dL_addJudge_9 : decode cL_addJudge 9 = .ok (.lastore, 1) := by decide +kernel
theorem dL_addJudge_10 : decode cL_addJudge 10 = .ok (.goto 11, 3) := by decide +kernel
theorem dL_addJudge_13 : decode cL_addJudge 13 = .ok (.astore 4, 2) := by decide +kernel
theorem dL_addJudge_15 : decode cL_addJudge 15 = .ok (.iconst 1, 1) := by decide +kernel
theorem dL_addJudge_16 : decode cL_addJudge 16 = .ok (.ireturn, 1) := by decide +kernel
theorem dL_addJudge_21 : decode cL_addJudge 21 = .ok (.iconst 0, 1) := by decide +kernel
theorem dL_addJudge_22 : decode cL_addJudge 22 = .ok (.ireturn, 1) := by decide +kernel
theorem dL_addConflict_0 : decode cL_addConflict 0 = .ok (.aload_n 3, 1) := by decide +kernel
theorem dL_addConflict_1 : decode cL_addConflict 1 = .ok (.iconst 0, 1) := by decide +kernel
theorem dL_addConflict_2 : decode cL_addConflict 2 = .ok (.aload_n 0, 1) := by decide +kernel
theorem dL_addConflict_3 : decode cL_addConflict 3 = .ok (.iload_n 1, 1) := by decide +kernel
theorem dL_addConflict_4 : decode cL_addConflict 4 = .ok (.iload_n 2, 1) := by decide +kernel
theorem dL_addConflict_5 : decode cL_addConflict 5 = .ok (.invokevirtual 21, 3) := by decide +kernel
theorem dL_addConflict_13 : decode cL_addConflict 13 = .ok (.astore 4, 2) := by decide +kernel
theorem dL_addConflict_15 : decode cL_addConflict 15 = .ok (.iconst 1, 1) := by decide +kernel
theorem dL_addConflict_16 : decode cL_addConflict 16 = .ok (.ireturn, 1) := by decide +kernel
theorem dL_setPresent_0 : decode cL_setPresent 0 = .ok (.aload_n 3, 1) := by decide +kernel
theorem dL_setPresent_1 : decode cL_setPresent 1 = .ok (.iconst 0, 1) := by decide +kernel
theorem dL_setPresent_2 : decode cL_setPresent 2 = .ok (.aload_n 0, 1) := by decide +kernel
theorem dL_setPresent_3 : decode cL_setPresent 3 = .ok (.iload_n 1, 1) := by decide +kernel
theorem dL_setPresent_4 : decode cL_setPresent 4 = .ok (.iload_n 2, 1) := by decide +kernel
theorem dL_setPresent_5 : decode cL_setPresent 5 = .ok (.invokevirtual 26, 3) := by decide +kernel
theorem dL_setPresent_20 : decode cL_setPresent 20 = .ok (.astore 4, 2) := by decide +kernel
theorem dL_setPresent_22 : decode cL_setPresent 22 = .ok (.iconst 1, 1) := by decide +kernel
theorem dL_setPresent_23 : decode cL_setPresent 23 = .ok (.ireturn, 1) := by decide +kernel
theorem dL_setIron_0 : decode cL_setIron 0 = .ok (.aload_n 3, 1) := by decide +kernel
theorem dL_setIron_1 : decode cL_setIron 1 = .ok (.iconst 0, 1) := by decide +kernel
theorem dL_setIron_2 : decode cL_setIron 2 = .ok (.aload_n 0, 1) := by decide +kernel
theorem dL_setIron_3 : decode cL_setIron 3 = .ok (.iload_n 1, 1) := by decide +kernel
theorem dL_setIron_4 : decode cL_setIron 4 = .ok (.iload_n 2, 1) := by decide +kernel
theorem dL_setIron_5 : decode cL_setIron 5 = .ok (.invokevirtual 30, 3) := by decide +kernel
theorem dL_setIron_13 : decode cL_setIron 13 = .ok (.astore 4, 2) := by decide +kernel
theorem dL_setIron_15 : decode cL_setIron 15 = .ok (.iconst 1, 1) := by decide +kernel
theorem dL_setIron_16 : decode cL_setIron 16 = .ok (.ireturn, 1) := by decide +kernel
theorem dL_draw_0 : decode cL_draw 0 = .ok (.aload_n 1, 1) := by decide +kernel
theorem dL_draw_1 : decode cL_draw 1 = .ok (.iconst 0, 1) := by decide +kernel
theorem dL_draw_2 : decode cL_draw 2 = .ok (.aload_n 0, 1) := by decide +kernel
theorem dL_draw_3 : decode cL_draw 3 = .ok (.invokevirtual 33, 3) := by decide +kernel
theorem dL_draw_11 : decode cL_draw 11 = .ok (.astore_n 2, 1) := by decide +kernel
theorem dL_draw_12 : decode cL_draw 12 = .ok (.iconst 1, 1) := by decide +kernel
theorem dL_draw_13 : decode cL_draw 13 = .ok (.ireturn, 1) := by decide +kernel
theorem dL_ballot_0 : decode cL_ballot 0 = .ok (.aload 6, 2) := by decide +kernel
theorem dL_ballot_2 : decode cL_ballot 2 = .ok (.iconst 0, 1) := by decide +kernel
theorem dL_ballot_3 : decode cL_ballot 3 = .ok (.aload_n 0, 1) := by decide +kernel
theorem dL_ballot_4 : decode cL_ballot 4 = .ok (.iload_n 1, 1) := by decide +kernel
theorem dL_ballot_5 : decode cL_ballot 5 = .ok (.iload_n 2, 1) := by decide +kernel
theorem dL_ballot_6 : decode cL_ballot 6 = .ok (.iload_n 3, 1) := by decide +kernel
theorem dL_ballot_7 : decode cL_ballot 7 = .ok (.iload 4, 2) := by decide +kernel
theorem dL_ballot_9 : decode cL_ballot 9 = .ok (.iload 5, 2) := by decide +kernel
theorem dL_ballot_11 : decode cL_ballot 11 = .ok (.invokevirtual 39, 3) := by decide +kernel
theorem dL_ballot_19 : decode cL_ballot 19 = .ok (.astore 7, 2) := by decide +kernel
theorem dL_ballot_21 : decode cL_ballot 21 = .ok (.iconst 1, 1) := by decide +kernel
theorem dL_ballot_22 : decode cL_ballot 22 = .ok (.ireturn, 1) := by decide +kernel
theorem dL_swap_0 : decode cL_swap 0 = .ok (.aload_n 3, 1) := by decide +kernel
theorem dL_swap_1 : decode cL_swap 1 = .ok (.iconst 0, 1) := by decide +kernel
theorem dL_swap_2 : decode cL_swap 2 = .ok (.aload_n 0, 1) := by decide +kernel
theorem dL_swap_3 : decode cL_swap 3 = .ok (.iload_n 1, 1) := by decide +kernel
theorem dL_swap_4 : decode cL_swap 4 = .ok (.iload_n 2, 1) := by decide +kernel
theorem dL_swap_5 : decode cL_swap 5 = .ok (.invokevirtual 43, 3) := by decide +kernel
theorem dL_swap_13 : decode cL_swap 13 = .ok (.astore 4, 2) := by decide +kernel
theorem dL_swap_15 : decode cL_swap 15 = .ok (.iconst 1, 1) := by decide +kernel
theorem dL_swap_16 : decode cL_swap 16 = .ok (.ireturn, 1) := by decide +kernel
theorem dL_schoolOf_0 : decode cL_schoolOf 0 = .ok (.aload_n 2, 1) := by decide +kernel
theorem dL_schoolOf_1 : decode cL_schoolOf 1 = .ok (.iconst 0, 1) := by decide +kernel
theorem dL_schoolOf_2 : decode cL_schoolOf 2 = .ok (.aload_n 0, 1) := by decide +kernel
theorem dL_schoolOf_3 : decode cL_schoolOf 3 = .ok (.iload_n 1, 1) := by decide +kernel
theorem dL_schoolOf_4 : decode cL_schoolOf 4 = .ok (.invokevirtual 46, 3) := by decide +kernel
theorem dL_schoolOf_12 : decode cL_schoolOf 12 = .ok (.astore_n 3, 1) := by decide +kernel
theorem dL_schoolOf_13 : decode cL_schoolOf 13 = .ok (.iconst 1, 1) := by decide +kernel
theorem dL_schoolOf_14 : decode cL_schoolOf 14 = .ok (.ireturn, 1) := by decide +kernel
theorem dL_isPresent_0 : decode cL_isPresent 0 = .ok (.aload_n 2, 1) := by decide +kernel
theorem dL_isPresent_1 : decode cL_isPresent 1 = .ok (.iconst 0, 1) := by decide +kernel
theorem dL_isPresent_2 : decode cL_isPresent 2 = .ok (.aload_n 0, 1) := by decide +kernel
theorem dL_isPresent_3 : decode cL_isPresent 3 = .ok (.iload_n 1, 1) := by decide +kernel
theorem dL_isPresent_4 : decode cL_isPresent 4 = .ok (.invokevirtual 49, 3) := by decide +kernel
theorem dL_isPresent_19 : decode cL_isPresent 19 = .ok (.astore_n 3, 1) := by decide +kernel
theorem dL_isPresent_20 : decode cL_isPresent 20 = .ok (.iconst 1, 1) := by decide +kernel
theorem dL_isPresent_21 : decode cL_isPresent 21 = .ok (.ireturn, 1) := by decide +kernel
theorem dL_mayJudge_0 : decode cL_mayJudge 0 = .ok (.aload_n 3, 1) := by decide +kernel
theorem dL_mayJudge_1 : decode cL_mayJudge 1 = .ok (.iconst 0, 1) := by decide +kernel
theorem dL_mayJudge_2 : decode cL_mayJudge 2 = .ok (.aload_n 0, 1) := by decide +kernel
theorem dL_mayJudge_3 : decode cL_mayJudge 3 = .ok (.iload_n 1, 1) := by decide +kernel
theorem dL_mayJudge_4 : decode cL_mayJudge 4 = .ok (.iload_n 2, 1) := by decide +kernel
theorem dL_mayJudge_5 : decode cL_mayJudge 5 = .ok (.invokevirtual 53, 3) := by decide +kernel
theorem dL_mayJudge_20 : decode cL_mayJudge 20 = .ok (.astore 4, 2) := by decide +kernel
theorem dL_mayJudge_22 : decode cL_mayJudge 22 = .ok (.iconst 1, 1) := by decide +kernel
theorem dL_mayJudge_23 : decode cL_mayJudge 23 = .ok (.ireturn, 1) := by decide +kernel
theorem dL_conflicts_0 : decode cL_conflicts 0 = .ok (.aload_n 2, 1) := by decide +kernel
theorem dL_conflicts_1 : decode cL_conflicts 1 = .ok (.iconst 0, 1) := by decide +kernel
theorem dL_conflicts_2 : decode cL_conflicts 2 = .ok (.aload_n 0, 1) := by decide +kernel
theorem dL_conflicts_3 : decode cL_conflicts 3 = .ok (.iload_n 1, 1) := by decide +kernel
theorem dL_conflicts_4 : decode cL_conflicts 4 = .ok (.invokevirtual 57, 3) := by decide +kernel
theorem dL_conflicts_12 : decode cL_conflicts 12 = .ok (.astore_n 3, 1) := by decide +kernel
theorem dL_conflicts_13 : decode cL_conflicts 13 = .ok (.iconst 1, 1) := by decide +kernel
theorem dL_conflicts_14 : decode cL_conflicts 14 = .ok (.ireturn, 1) := by decide +kernel
theorem dL_wins_0 : decode cL_wins 0 = .ok (.aload_n 2, 1) := by decide +kernel
theorem dL_wins_1 : decode cL_wins 1 = .ok (.iconst 0, 1) := by decide +kernel
theorem dL_wins_2 : decode cL_wins 2 = .ok (.aload_n 0, 1) := by decide +kernel
theorem dL_wins_3 : decode cL_wins 3 = .ok (.iload_n 1, 1) := by decide +kernel
theorem dL_wins_4 : decode cL_wins 4 = .ok (.invokevirtual 60, 3) := by decide +kernel
theorem dL_wins_12 : decode cL_wins 12 = .ok (.astore_n 3, 1) := by decide +kernel
theorem dL_wins_13 : decode cL_wins 13 = .ok (.iconst 1, 1) := by decide +kernel
theorem dL_wins_14 : decode cL_wins 14 = .ok (.ireturn, 1) := by decide +kernel
theorem dL_points_0 : decode cL_points 0 = .ok (.aload_n 2, 1) := by decide +kernel
theorem dL_points_1 : decode cL_points 1 = .ok (.iconst 0, 1) := by decide +kernel
theorem dL_points_2 : decode cL_points 2 = .ok (.aload_n 0, 1) := by decide +kernel
theorem dL_points_3 : decode cL_points 3 = .ok (.iload_n 1, 1) := by decide +kernel
theorem dL_points_4 : decode cL_points 4 = .ok (.invokevirtual 63, 3) := by decide +kernel
theorem dL_points_12 : decode cL_points 12 = .ok (.astore_n 3, 1) := by decide +kernel
theorem dL_points_13 : decode cL_points 13 = .ok (.iconst 1, 1) := by decide +kernel
theorem dL_points_14 : decode cL_points 14 = .ok (.ireturn, 1) := by decide +kernel
theorem dL_strength_0 : decode cL_strength 0 = .ok (.aload_n 2, 1) := by decide +kernel
theorem dL_strength_1 : decode cL_strength 1 = .ok (.iconst 0, 1) := by decide +kernel
theorem dL_strength_2 : decode cL_strength 2 = .ok (.aload_n 0, 1) := by decide +kernel
theorem dL_strength_3 : decode cL_strength 3 = .ok (.iload_n 1, 1) := by decide +kernel
theorem dL_strength_4 : decode cL_strength 4 = .ok (.invokevirtual 66, 3) := by decide +kernel
theorem dL_strength_12 : decode cL_strength 12 = .ok (.astore_n 3, 1) := by decide +kernel
theorem dL_strength_13 : decode cL_strength 13 = .ok (.iconst 1, 1) := by decide +kernel
theorem dL_strength_14 : decode cL_strength 14 = .ok (.ireturn, 1) := by decide +kernel
theorem dL_standing_0 : decode cL_standing 0 = .ok (.aload_n 2, 1) := by decide +kernel
theorem dL_standing_1 : decode cL_standing 1 = .ok (.iconst 0, 1) := by decide +kernel
theorem dL_standing_2 : decode cL_standing 2 = .ok (.aload_n 0, 1) := by decide +kernel
theorem dL_standing_3 : decode cL_standing 3 = .ok (.iload_n 1, 1) := by decide +kernel
theorem dL_standing_4 : decode cL_standing 4 = .ok (.invokevirtual 69, 3) := by decide +kernel
theorem dL_standing_12 : decode cL_standing 12 = .ok (.astore_n 3, 1) := by decide +kernel
theorem dL_standing_13 : decode cL_standing 13 = .ok (.iconst 1, 1) := by decide +kernel
theorem dL_standing_14 : decode cL_standing 14 = .ok (.ireturn, 1) := by decide +kernel
theorem dL_met_0 : decode cL_met 0 = .ok (.aload_n 3, 1) := by decide +kernel
theorem dL_met_1 : decode cL_met 1 = .ok (.iconst 0, 1) := by decide +kernel
theorem dL_met_2 : decode cL_met 2 = .ok (.aload_n 0, 1) := by decide +kernel
theorem dL_met_3 : decode cL_met 3 = .ok (.iload_n 1, 1) := by decide +kernel
theorem dL_met_4 : decode cL_met 4 = .ok (.iload_n 2, 1) := by decide +kernel
theorem dL_met_5 : decode cL_met 5 = .ok (.invokevirtual 74, 3) := by decide +kernel
theorem dL_met_13 : decode cL_met 13 = .ok (.astore 4, 2) := by decide +kernel
theorem dL_met_15 : decode cL_met 15 = .ok (.iconst 1, 1) := by decide +kernel
theorem dL_met_16 : decode cL_met 16 = .ok (.ireturn, 1) := by decide +kernel
theorem dL_proposed_0 : decode cL_proposed 0 = .ok (.aload_n 2, 1) := by decide +kernel
theorem dL_proposed_1 : decode cL_proposed 1 = .ok (.iconst 0, 1) := by decide +kernel
theorem dL_proposed_2 : decode cL_proposed 2 = .ok (.aload_n 0, 1) := by decide +kernel
theorem dL_proposed_3 : decode cL_proposed 3 = .ok (.iload_n 1, 1) := by decide +kernel
theorem dL_proposed_4 : decode cL_proposed 4 = .ok (.invokevirtual 77, 3) := by decide +kernel
theorem dL_proposed_12 : decode cL_proposed 12 = .ok (.astore_n 3, 1) := by decide +kernel
theorem dL_proposed_13 : decode cL_proposed 13 = .ok (.iconst 1, 1) := by decide +kernel
theorem dL_proposed_14 : decode cL_proposed 14 = .ok (.ireturn, 1) := by decide +kernel
theorem dL_bracketSize_0 : decode cL_bracketSize 0 = .ok (.aload_n 2, 1) := by decide +kernel
theorem dL_bracketSize_1 : decode cL_bracketSize 1 = .ok (.iconst 0, 1) := by decide +kernel
theorem dL_bracketSize_2 : decode cL_bracketSize 2 = .ok (.aload_n 0, 1) := by decide +kernel
theorem dL_bracketSize_3 : decode cL_bracketSize 3 = .ok (.iload_n 1, 1) := by decide +kernel
theorem dL_bracketSize_4 : decode cL_bracketSize 4 = .ok (.invokevirtual 80, 3) := by decide +kernel
theorem dL_bracketSize_12 : decode cL_bracketSize 12 = .ok (.astore_n 3, 1) := by decide +kernel
theorem dL_bracketSize_13 : decode cL_bracketSize 13 = .ok (.iconst 1, 1) := by decide +kernel
theorem dL_bracketSize_14 : decode cL_bracketSize 14 = .ok (.ireturn, 1) := by decide +kernel
theorem dL_bracketAt_0 : decode cL_bracketAt 0 = .ok (.aload_n 3, 1) := by decide +kernel
theorem dL_bracketAt_1 : decode cL_bracketAt 1 = .ok (.iconst 0, 1) := by decide +kernel
theorem dL_bracketAt_2 : decode cL_bracketAt 2 = .ok (.aload_n 0, 1) := by decide +kernel
theorem dL_bracketAt_3 : decode cL_bracketAt 3 = .ok (.iload_n 1, 1) := by decide +kernel
theorem dL_bracketAt_4 : decode cL_bracketAt 4 = .ok (.iload_n 2, 1) := by decide +kernel
theorem dL_bracketAt_5 : decode cL_bracketAt 5 = .ok (.invokevirtual 83, 3) := by decide +kernel
theorem dL_bracketAt_13 : decode cL_bracketAt 13 = .ok (.astore 4, 2) := by decide +kernel
theorem dL_bracketAt_15 : decode cL_bracketAt 15 = .ok (.iconst 1, 1) := by decide +kernel
theorem dL_bracketAt_16 : decode cL_bracketAt 16 = .ok (.ireturn, 1) := by decide +kernel
theorem dL_leastPenalty_0 : decode cL_leastPenalty 0 = .ok (.aload_n 2, 1) := by decide +kernel
theorem dL_leastPenalty_1 : decode cL_leastPenalty 1 = .ok (.iconst 0, 1) := by decide +kernel
theorem dL_leastPenalty_2 : decode cL_leastPenalty 2 = .ok (.aload_n 0, 1) := by decide +kernel
theorem dL_leastPenalty_3 : decode cL_leastPenalty 3 = .ok (.iload_n 1, 1) := by decide +kernel
theorem dL_leastPenalty_4 : decode cL_leastPenalty 4 = .ok (.invokevirtual 86, 3) := by decide +kernel
theorem dL_leastPenalty_12 : decode cL_leastPenalty 12 = .ok (.astore_n 3, 1) := by decide +kernel
theorem dL_leastPenalty_13 : decode cL_leastPenalty 13 = .ok (.iconst 1, 1) := by decide +kernel
theorem dL_leastPenalty_14 : decode cL_leastPenalty 14 = .ok (.ireturn, 1) := by decide +kernel
theorem dL_leastByTrying_0 : decode cL_leastByTrying 0 = .ok (.aload_n 2, 1) := by decide +kernel
theorem dL_leastByTrying_1 : decode cL_leastByTrying 1 = .ok (.iconst 0, 1) := by decide +kernel
theorem dL_leastByTrying_2 : decode cL_leastByTrying 2 = .ok (.aload_n 0, 1) := by decide +kernel
theorem dL_leastByTrying_3 : decode cL_leastByTrying 3 = .ok (.iload_n 1, 1) := by decide +kernel
theorem dL_leastByTrying_4 : decode cL_leastByTrying 4 = .ok (.invokevirtual 89, 3) := by decide +kernel
theorem dL_leastByTrying_12 : decode cL_leastByTrying 12 = .ok (.astore_n 3, 1) := by decide +kernel
theorem dL_leastByTrying_13 : decode cL_leastByTrying 13 = .ok (.iconst 1, 1) := by decide +kernel
theorem dL_leastByTrying_14 : decode cL_leastByTrying 14 = .ok (.ireturn, 1) := by decide +kernel
theorem dL_opponent_0 : decode cL_opponent 0 = .ok (.aload_n 3, 1) := by decide +kernel
theorem dL_opponent_1 : decode cL_opponent 1 = .ok (.iconst 0, 1) := by decide +kernel
theorem dL_opponent_2 : decode cL_opponent 2 = .ok (.aload_n 0, 1) := by decide +kernel
theorem dL_opponent_3 : decode cL_opponent 3 = .ok (.iload_n 1, 1) := by decide +kernel
theorem dL_opponent_4 : decode cL_opponent 4 = .ok (.iload_n 2, 1) := by decide +kernel
theorem dL_opponent_5 : decode cL_opponent 5 = .ok (.invokevirtual 92, 3) := by decide +kernel
theorem dL_opponent_13 : decode cL_opponent 13 = .ok (.astore 4, 2) := by decide +kernel
theorem dL_opponent_15 : decode cL_opponent 15 = .ok (.iconst 1, 1) := by decide +kernel
theorem dL_opponent_16 : decode cL_opponent 16 = .ok (.ireturn, 1) := by decide +kernel
theorem dL_rooms_0 : decode cL_rooms 0 = .ok (.aload_n 2, 1) := by decide +kernel
theorem dL_rooms_1 : decode cL_rooms 1 = .ok (.iconst 0, 1) := by decide +kernel
theorem dL_rooms_2 : decode cL_rooms 2 = .ok (.aload_n 0, 1) := by decide +kernel
theorem dL_rooms_3 : decode cL_rooms 3 = .ok (.iload_n 1, 1) := by decide +kernel
theorem dL_rooms_4 : decode cL_rooms 4 = .ok (.invokevirtual 95, 3) := by decide +kernel
theorem dL_rooms_12 : decode cL_rooms 12 = .ok (.astore_n 3, 1) := by decide +kernel
theorem dL_rooms_13 : decode cL_rooms 13 = .ok (.iconst 1, 1) := by decide +kernel
theorem dL_rooms_14 : decode cL_rooms 14 = .ok (.ireturn, 1) := by decide +kernel
theorem dL_teamIn_0 : decode cL_teamIn 0 = .ok (.aload 4, 2) := by decide +kernel
theorem dL_teamIn_2 : decode cL_teamIn 2 = .ok (.iconst 0, 1) := by decide +kernel
theorem dL_teamIn_3 : decode cL_teamIn 3 = .ok (.aload_n 0, 1) := by decide +kernel
theorem dL_teamIn_4 : decode cL_teamIn 4 = .ok (.iload_n 1, 1) := by decide +kernel
theorem dL_teamIn_5 : decode cL_teamIn 5 = .ok (.iload_n 2, 1) := by decide +kernel
theorem dL_teamIn_6 : decode cL_teamIn 6 = .ok (.iload_n 3, 1) := by decide +kernel
theorem dL_teamIn_7 : decode cL_teamIn 7 = .ok (.invokevirtual 98, 3) := by decide +kernel
theorem dL_teamIn_15 : decode cL_teamIn 15 = .ok (.astore 5, 2) := by decide +kernel
theorem dL_teamIn_17 : decode cL_teamIn 17 = .ok (.iconst 1, 1) := by decide +kernel
theorem dL_teamIn_18 : decode cL_teamIn 18 = .ok (.ireturn, 1) := by decide +kernel
theorem dL_judgeIn_0 : decode cL_judgeIn 0 = .ok (.aload_n 3, 1) := by decide +kernel
theorem dL_judgeIn_1 : decode cL_judgeIn 1 = .ok (.iconst 0, 1) := by decide +kernel
theorem dL_judgeIn_2 : decode cL_judgeIn 2 = .ok (.aload_n 0, 1) := by decide +kernel
theorem dL_judgeIn_3 : decode cL_judgeIn 3 = .ok (.iload_n 1, 1) := by decide +kernel
theorem dL_judgeIn_4 : decode cL_judgeIn 4 = .ok (.iload_n 2, 1) := by decide +kernel
theorem dL_judgeIn_5 : decode cL_judgeIn 5 = .ok (.invokevirtual 102, 3) := by decide +kernel
theorem dL_judgeIn_13 : decode cL_judgeIn 13 = .ok (.astore 4, 2) := by decide +kernel
theorem dL_judgeIn_15 : decode cL_judgeIn 15 = .ok (.iconst 1, 1) := by decide +kernel
theorem dL_judgeIn_16 : decode cL_judgeIn 16 = .ok (.ireturn, 1) := by decide +kernel
theorem dL_penaltyOf_0 : decode cL_penaltyOf 0 = .ok (.aload_n 3, 1) := by decide +kernel
theorem dL_penaltyOf_1 : decode cL_penaltyOf 1 = .ok (.iconst 0, 1) := by decide +kernel
theorem dL_penaltyOf_2 : decode cL_penaltyOf 2 = .ok (.aload_n 0, 1) := by decide +kernel
theorem dL_penaltyOf_3 : decode cL_penaltyOf 3 = .ok (.iload_n 1, 1) := by decide +kernel
theorem dL_penaltyOf_4 : decode cL_penaltyOf 4 = .ok (.iload_n 2, 1) := by decide +kernel
theorem dL_penaltyOf_5 : decode cL_penaltyOf 5 = .ok (.invokevirtual 105, 3) := by decide +kernel
theorem dL_penaltyOf_13 : decode cL_penaltyOf 13 = .ok (.astore 4, 2) := by decide +kernel
theorem dL_penaltyOf_15 : decode cL_penaltyOf 15 = .ok (.iconst 1, 1) := by decide +kernel
theorem dL_penaltyOf_16 : decode cL_penaltyOf 16 = .ok (.ireturn, 1) := by decide +kernel
theorem dL_winner_0 : decode cL_winner 0 = .ok (.aload_n 3, 1) := by decide +kernel
theorem dL_winner_1 : decode cL_winner 1 = .ok (.iconst 0, 1) := by decide +kernel
theorem dL_winner_2 : decode cL_winner 2 = .ok (.aload_n 0, 1) := by decide +kernel
theorem dL_winner_3 : decode cL_winner 3 = .ok (.iload_n 1, 1) := by decide +kernel
theorem dL_winner_4 : decode cL_winner 4 = .ok (.iload_n 2, 1) := by decide +kernel
theorem dL_winner_5 : decode cL_winner 5 = .ok (.invokevirtual 108, 3) := by decide +kernel
theorem dL_winner_13 : decode cL_winner 13 = .ok (.astore 4, 2) := by decide +kernel
theorem dL_winner_15 : decode cL_winner 15 = .ok (.iconst 1, 1) := by decide +kernel
theorem dL_winner_16 : decode cL_winner 16 = .ok (.ireturn, 1) := by decide +kernel
theorem dL_missing_0 : decode cL_missing 0 = .ok (.aload_n 1, 1) := by decide +kernel
theorem dL_missing_1 : decode cL_missing 1 = .ok (.iconst 0, 1) := by decide +kernel
theorem dL_missing_2 : decode cL_missing 2 = .ok (.aload_n 0, 1) := by decide +kernel
theorem dL_missing_3 : decode cL_missing 3 = .ok (.invokevirtual 112, 3) := by decide +kernel
theorem dL_missing_11 : decode cL_missing 11 = .ok (.astore_n 2, 1) := by decide +kernel
theorem dL_missing_12 : decode cL_missing 12 = .ok (.iconst 1, 1) := by decide +kernel
theorem dL_missing_13 : decode cL_missing 13 = .ok (.ireturn, 1) := by decide +kernel
theorem dL_nextRoom_0 : decode cL_nextRoom 0 = .ok (.aload_n 1, 1) := by decide +kernel
theorem dL_nextRoom_1 : decode cL_nextRoom 1 = .ok (.iconst 0, 1) := by decide +kernel
theorem dL_nextRoom_2 : decode cL_nextRoom 2 = .ok (.aload_n 0, 1) := by decide +kernel
theorem dL_nextRoom_3 : decode cL_nextRoom 3 = .ok (.invokevirtual 115, 3) := by decide +kernel
theorem dL_nextRoom_11 : decode cL_nextRoom 11 = .ok (.astore_n 2, 1) := by decide +kernel
theorem dL_nextRoom_12 : decode cL_nextRoom 12 = .ok (.iconst 1, 1) := by decide +kernel
theorem dL_nextRoom_13 : decode cL_nextRoom 13 = .ok (.ireturn, 1) := by decide +kernel
theorem dL_speeches_0 : decode cL_speeches 0 = .ok (.aload_n 3, 1) := by decide +kernel
theorem dL_speeches_1 : decode cL_speeches 1 = .ok (.iconst 0, 1) := by decide +kernel
theorem dL_speeches_2 : decode cL_speeches 2 = .ok (.aload_n 0, 1) := by decide +kernel
theorem dL_speeches_3 : decode cL_speeches 3 = .ok (.iload_n 1, 1) := by decide +kernel
theorem dL_speeches_4 : decode cL_speeches 4 = .ok (.iload_n 2, 1) := by decide +kernel
theorem dL_speeches_5 : decode cL_speeches 5 = .ok (.invokevirtual 118, 3) := by decide +kernel
theorem dL_speeches_13 : decode cL_speeches 13 = .ok (.astore 4, 2) := by decide +kernel
theorem dL_speeches_15 : decode cL_speeches 15 = .ok (.iconst 1, 1) := by decide +kernel
theorem dL_speeches_16 : decode cL_speeches 16 = .ok (.ireturn, 1) := by decide +kernel
theorem dL_average_0 : decode cL_average 0 = .ok (.aload_n 3, 1) := by decide +kernel
theorem dL_average_1 : decode cL_average 1 = .ok (.iconst 0, 1) := by decide +kernel
theorem dL_average_2 : decode cL_average 2 = .ok (.aload_n 0, 1) := by decide +kernel
theorem dL_average_3 : decode cL_average 3 = .ok (.iload_n 1, 1) := by decide +kernel
theorem dL_average_4 : decode cL_average 4 = .ok (.iload_n 2, 1) := by decide +kernel
theorem dL_average_5 : decode cL_average 5 = .ok (.invokevirtual 121, 3) := by decide +kernel
theorem dL_average_13 : decode cL_average 13 = .ok (.astore 4, 2) := by decide +kernel
theorem dL_average_15 : decode cL_average 15 = .ok (.iconst 1, 1) := by decide +kernel
theorem dL_average_16 : decode cL_average 16 = .ok (.ireturn, 1) := by decide +kernel
theorem dL_averageBits_0 : decode cL_averageBits 0 = .ok (.aload_n 3, 1) := by decide +kernel
theorem dL_averageBits_1 : decode cL_averageBits 1 = .ok (.iconst 0, 1) := by decide +kernel
theorem dL_averageBits_2 : decode cL_averageBits 2 = .ok (.aload_n 0, 1) := by decide +kernel
theorem dL_averageBits_3 : decode cL_averageBits 3 = .ok (.iload_n 1, 1) := by decide +kernel
theorem dL_averageBits_4 : decode cL_averageBits 4 = .ok (.iload_n 2, 1) := by decide +kernel
theorem dL_averageBits_5 : decode cL_averageBits 5 = .ok (.invokevirtual 127, 3) := by decide +kernel
theorem dL_averageBits_13 : decode cL_averageBits 13 = .ok (.astore 4, 2) := by decide +kernel
theorem dL_averageBits_15 : decode cL_averageBits 15 = .ok (.iconst 1, 1) := by decide +kernel
theorem dL_averageBits_16 : decode cL_averageBits 16 = .ok (.ireturn, 1) := by decide +kernel
theorem dL_averageTenths_0 : decode cL_averageTenths 0 = .ok (.aload_n 3, 1) := by decide +kernel
theorem dL_averageTenths_1 : decode cL_averageTenths 1 = .ok (.iconst 0, 1) := by decide +kernel
theorem dL_averageTenths_2 : decode cL_averageTenths 2 = .ok (.aload_n 0, 1) := by decide +kernel
theorem dL_averageTenths_3 : decode cL_averageTenths 3 = .ok (.iload_n 1, 1) := by decide +kernel
theorem dL_averageTenths_4 : decode cL_averageTenths 4 = .ok (.iload_n 2, 1) := by decide +kernel
theorem dL_averageTenths_5 : decode cL_averageTenths 5 = .ok (.invokevirtual 130, 3) := by decide +kernel
theorem dL_averageTenths_13 : decode cL_averageTenths 13 = .ok (.astore 4, 2) := by decide +kernel
theorem dL_averageTenths_15 : decode cL_averageTenths 15 = .ok (.iconst 1, 1) := by decide +kernel
theorem dL_averageTenths_16 : decode cL_averageTenths 16 = .ok (.ireturn, 1) := by decide +kernel
theorem dL_bestSpeaker_0 : decode cL_bestSpeaker 0 = .ok (.aload_n 2, 1) := by decide +kernel
theorem dL_bestSpeaker_1 : decode cL_bestSpeaker 1 = .ok (.iconst 0, 1) := by decide +kernel
theorem dL_bestSpeaker_2 : decode cL_bestSpeaker 2 = .ok (.aload_n 0, 1) := by decide +kernel
theorem dL_bestSpeaker_3 : decode cL_bestSpeaker 3 = .ok (.iload_n 1, 1) := by decide +kernel
theorem dL_bestSpeaker_4 : decode cL_bestSpeaker 4 = .ok (.invokevirtual 133, 3) := by decide +kernel
theorem dL_bestSpeaker_12 : decode cL_bestSpeaker 12 = .ok (.astore_n 3, 1) := by decide +kernel
theorem dL_bestSpeaker_13 : decode cL_bestSpeaker 13 = .ok (.iconst 1, 1) := by decide +kernel
theorem dL_bestSpeaker_14 : decode cL_bestSpeaker 14 = .ok (.ireturn, 1) := by decide +kernel
theorem dL_breaks_0 : decode cL_breaks 0 = .ok (.aload_n 3, 1) := by decide +kernel
theorem dL_breaks_1 : decode cL_breaks 1 = .ok (.iconst 0, 1) := by decide +kernel
theorem dL_breaks_2 : decode cL_breaks 2 = .ok (.aload_n 0, 1) := by decide +kernel
theorem dL_breaks_3 : decode cL_breaks 3 = .ok (.iload_n 1, 1) := by decide +kernel
theorem dL_breaks_4 : decode cL_breaks 4 = .ok (.iload_n 2, 1) := by decide +kernel
theorem dL_breaks_5 : decode cL_breaks 5 = .ok (.invokevirtual 136, 3) := by decide +kernel
theorem dL_breaks_13 : decode cL_breaks 13 = .ok (.astore 4, 2) := by decide +kernel
theorem dL_breaks_15 : decode cL_breaks 15 = .ok (.iconst 1, 1) := by decide +kernel
theorem dL_breaks_16 : decode cL_breaks 16 = .ok (.ireturn, 1) := by decide +kernel
theorem dL_breaks_17 : decode cL_breaks 17 = .ok (.astore 4, 2) := by decide +kernel
theorem dL_breaks_19 : decode cL_breaks 19 = .ok (.iconst 2, 1) := by decide +kernel
theorem dL_breaks_20 : decode cL_breaks 20 = .ok (.ireturn, 1) := by decide +kernel
theorem dL_people_0 : decode cL_people 0 = .ok (.aload_n 2, 1) := by decide +kernel
theorem dL_people_1 : decode cL_people 1 = .ok (.iconst 0, 1) := by decide +kernel
theorem dL_people_2 : decode cL_people 2 = .ok (.aload_n 0, 1) := by decide +kernel
theorem dL_people_3 : decode cL_people 3 = .ok (.iload_n 1, 1) := by decide +kernel
theorem dL_people_4 : decode cL_people 4 = .ok (.invokevirtual 139, 3) := by decide +kernel
theorem dL_people_7 : decode cL_people 7 = .ok (.i2l, 1) := by decide +kernel
theorem dL_people_8 : decode cL_people 8 = .ok (.lastore, 1) := by decide +kernel
theorem dL_people_9 : decode cL_people 9 = .ok (.goto 6, 3) := by decide +kernel
theorem dL_people_12 : decode cL_people 12 = .ok (.astore_n 3, 1) := by decide +kernel
theorem dL_people_13 : decode cL_people 13 = .ok (.iconst 1, 1) := by decide +kernel
theorem dL_people_14 : decode cL_people 14 = .ok (.ireturn, 1) := by decide +kernel
theorem dL_people_15 : decode cL_people 15 = .ok (.iconst 0, 1) := by decide +kernel
theorem dL_people_16 : decode cL_people 16 = .ok (.ireturn, 1) := by decide +kernel
theorem dL_meanPenalty_0 : decode cL_meanPenalty 0 = .ok (.aload_n 1, 1) := by decide +kernel
theorem dL_meanPenalty_1 : decode cL_meanPenalty 1 = .ok (.iconst 0, 1) := by decide +kernel
theorem dL_meanPenalty_2 : decode cL_meanPenalty 2 = .ok (.aload_n 0, 1) := by decide +kernel
theorem dL_meanPenalty_3 : decode cL_meanPenalty 3 = .ok (.invokevirtual 143, 3) := by decide +kernel
theorem dL_meanPenalty_10 : decode cL_meanPenalty 10 = .ok (.astore_n 2, 1) := by decide +kernel
theorem dL_meanPenalty_11 : decode cL_meanPenalty 11 = .ok (.iconst 1, 1) := by decide +kernel
theorem dL_meanPenalty_12 : decode cL_meanPenalty 12 = .ok (.ireturn, 1) := by decide +kernel
