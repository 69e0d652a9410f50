theorem dX0_init_0 : decode cX0_init 0 = .ok (.aload_n 0, 1) := by decide +kernel
theorem dX0_init_1 : decode cX0_init 1 = .ok (.invokespecial 3, 3) := by decide +kernel
theorem dX0_init_4 : decode cX0_init 4 = .ok (.aload_n 0, 1) := by decide +kernel
theorem dX0_init_5 : decode cX0_init 5 = .ok (.bipush 12, 2) := by decide +kernel
theorem dX0_init_7 : decode cX0_init 7 = .ok (.newarray .int, 2) := by decide +kernel
theorem dX0_init_9 : decode cX0_init 9 = .ok (.putfield 9, 3) := by decide +kernel
theorem dX0_init_12 : decode cX0_init 12 = .ok (.aload_n 0, 1) := by decide +kernel
theorem dX0_init_13 : decode cX0_init 13 = .ok (.bipush 13, 2) := by decide +kernel
theorem dX0_init_15 : decode cX0_init 15 = .ok (.newarray .int, 2) := by decide +kernel
theorem dX0_init_17 : decode cX0_init 17 = .ok (.putfield 15, 3) := by decide +kernel
theorem dX0_init_20 : decode cX0_init 20 = .ok (.aload_n 0, 1) := by decide +kernel
theorem dX0_init_21 : decode cX0_init 21 = .ok (.aload_n 1, 1) := by decide +kernel
theorem dX0_init_22 : decode cX0_init 22 = .ok (.putfield 18, 3) := by decide +kernel
theorem dX0_init_25 : decode cX0_init 25 = .ok (.aload_n 0, 1) := by decide +kernel
theorem dX0_init_26 : decode cX0_init 26 = .ok (.aload_n 2, 1) := by decide +kernel
theorem dX0_init_27 : decode cX0_init 27 = .ok (.putfield 22, 3) := by decide +kernel
theorem dX0_init_30 : decode cX0_init 30 = .ok (.aload_n 0, 1) := by decide +kernel
theorem dX0_init_31 : decode cX0_init 31 = .ok (.aload_n 3, 1) := by decide +kernel
theorem dX0_init_32 : decode cX0_init 32 = .ok (.putfield 26, 3) := by decide +kernel
theorem dX0_init_35 : decode cX0_init 35 = .ok (.return_, 1) := by decide +kernel
theorem dX0_form_0 : decode cX0_form 0 = .ok (.aload_n 0, 1) := by decide +kernel
theorem dX0_form_1 : decode cX0_form 1 = .ok (.getfield 26, 3) := by decide +kernel
theorem dX0_form_4 : decode cX0_form 4 = .ok (.invokevirtual 30, 3) := by decide +kernel
theorem dX0_form_7 : decode cX0_form 7 = .ok (.aload_n 0, 1) := by decide +kernel
theorem dX0_form_8 : decode cX0_form 8 = .ok (.invokevirtual 35, 3) := by decide +kernel
theorem dX0_form_11 : decode cX0_form 11 = .ok (.istore_n 1, 1) := by decide +kernel
theorem dX0_form_12 : decode cX0_form 12 = .ok (.aload_n 0, 1) := by decide +kernel
theorem dX0_form_13 : decode cX0_form 13 = .ok (.iconst 0, 1) := by decide +kernel
theorem dX0_form_14 : decode cX0_form 14 = .ok (.putfield 39, 3) := by decide +kernel
theorem dX0_form_17 : decode cX0_form 17 = .ok (.iconst 1, 1) := by decide +kernel
theorem dX0_form_18 : decode cX0_form 18 = .ok (.istore_n 2, 1) := by decide +kernel
theorem dX0_form_19 : decode cX0_form 19 = .ok (.iload_n 2, 1) := by decide +kernel
theorem dX0_form_20 : decode cX0_form 20 = .ok (.iload_n 1, 1) := by decide +kernel
theorem dX0_form_21 : decode cX0_form 21 = .ok (.if_icmp .ge 37, 3) := by decide +kernel
theorem dX0_form_58 : decode cX0_form 58 = .ok (.iload_n 1, 1) := by decide +kernel
theorem dX0_form_59 : decode cX0_form 59 = .ok (.ifCond .le 23, 3) := by decide +kernel
theorem dX0_form_82 : decode cX0_form 82 = .ok (.return_, 1) := by decide +kernel
theorem dX0_gatherMembers_0 : decode cX0_gatherMembers 0 = .ok (.iconst 0, 1) := by decide +kernel
theorem dX0_gatherMembers_1 : decode cX0_gatherMembers 1 = .ok (.istore_n 1, 1) := by decide +kernel
theorem dX0_gatherMembers_2 : decode cX0_gatherMembers 2 = .ok (.iconst 0, 1) := by decide +kernel
theorem dX0_gatherMembers_3 : decode cX0_gatherMembers 3 = .ok (.istore_n 2, 1) := by decide +kernel
theorem dX0_gatherMembers_4 : decode cX0_gatherMembers 4 = .ok (.iload_n 2, 1) := by decide +kernel
theorem dX0_gatherMembers_5 : decode cX0_gatherMembers 5 = .ok (.aload_n 0, 1) := by decide +kernel
theorem dX0_gatherMembers_6 : decode cX0_gatherMembers 6 = .ok (.getfield 18, 3) := by decide +kernel
theorem dX0_gatherMembers_9 : decode cX0_gatherMembers 9 = .ok (.getfield 47, 3) := by decide +kernel
theorem dX0_gatherMembers_12 : decode cX0_gatherMembers 12 = .ok (.if_icmp .ge 41, 3) := by decide +kernel
theorem dX0_gatherMembers_53 : decode cX0_gatherMembers 53 = .ok (.iload_n 1, 1) := by decide +kernel
theorem dX0_gatherMembers_54 : decode cX0_gatherMembers 54 = .ok (.ireturn, 1) := by decide +kernel
theorem dX1_init_0 : decode cX1_init 0 = .ok (.aload_n 0, 1) := by decide +kernel
theorem dX1_init_1 : decode cX1_init 1 = .ok (.invokespecial 3, 3) := by decide +kernel
theorem dX1_init_4 : decode cX1_init 4 = .ok (.aload_n 0, 1) := by decide +kernel
theorem dX1_init_5 : decode cX1_init 5 = .ok (.bipush 6, 2) := by decide +kernel
theorem dX1_init_7 : decode cX1_init 7 = .ok (.anewarray 9, 3) := by decide +kernel
theorem dX1_init_10 : decode cX1_init 10 = .ok (.putfield 11, 3) := by decide +kernel
theorem dX1_init_13 : decode cX1_init 13 = .ok (.aload_n 0, 1) := by decide +kernel
theorem dX1_init_14 : decode cX1_init 14 = .ok (.aload_n 1, 1) := by decide +kernel
theorem dX1_init_15 : decode cX1_init 15 = .ok (.putfield 17, 3) := by decide +kernel
theorem dX1_init_18 : decode cX1_init 18 = .ok (.iconst 0, 1) := by decide +kernel
theorem dX1_init_19 : decode cX1_init 19 = .ok (.istore_n 2, 1) := by decide +kernel
theorem dX1_init_20 : decode cX1_init 20 = .ok (.iload_n 2, 1) := by decide +kernel
theorem dX1_init_21 : decode cX1_init 21 = .ok (.bipush 6, 2) := by decide +kernel
theorem dX1_init_23 : decode cX1_init 23 = .ok (.if_icmp .ge 22, 3) := by decide +kernel
theorem dX1_init_26 : decode cX1_init 26 = .ok (.aload_n 0, 1) := by decide +kernel
theorem dX1_init_27 : decode cX1_init 27 = .ok (.getfield 11, 3) := by decide +kernel
theorem dX1_init_30 : decode cX1_init 30 = .ok (.iload_n 2, 1) := by decide +kernel
theorem dX1_init_31 : decode cX1_init 31 = .ok (.new 9, 3) := by decide +kernel
theorem dX1_init_34 : decode cX1_init 34 = .ok (.dup, 1) := by decide +kernel
theorem dX1_init_35 : decode cX1_init 35 = .ok (.invokespecial 21, 3) := by decide +kernel
theorem dX1_init_38 : decode cX1_init 38 = .ok (.aastore, 1) := by decide +kernel
theorem dX1_init_39 : decode cX1_init 39 = .ok (.iinc 2 1, 3) := by decide +kernel
theorem dX1_init_42 : decode cX1_init 42 = .ok (.goto (-22), 3) := by decide +kernel
theorem dX1_init_45 : decode cX1_init 45 = .ok (.return_, 1) := by decide +kernel
theorem dX1_roomCount_0 : decode cX1_roomCount 0 = .ok (.iconst 0, 1) := by decide +kernel
theorem dX1_roomCount_1 : decode cX1_roomCount 1 = .ok (.istore_n 1, 1) := by decide +kernel
theorem dX1_roomCount_2 : decode cX1_roomCount 2 = .ok (.iconst 0, 1) := by decide +kernel
theorem dX1_roomCount_3 : decode cX1_roomCount 3 = .ok (.istore_n 2, 1) := by decide +kernel
theorem dX1_roomCount_4 : decode cX1_roomCount 4 = .ok (.iload_n 2, 1) := by decide +kernel
theorem dX1_roomCount_5 : decode cX1_roomCount 5 = .ok (.aload_n 0, 1) := by decide +kernel
theorem dX1_roomCount_6 : decode cX1_roomCount 6 = .ok (.getfield 22, 3) := by decide +kernel
theorem dX1_roomCount_9 : decode cX1_roomCount 9 = .ok (.if_icmp .ge 21, 3) := by decide +kernel
theorem dX1_roomCount_30 : decode cX1_roomCount 30 = .ok (.iload_n 1, 1) := by decide +kernel
theorem dX1_roomCount_31 : decode cX1_roomCount 31 = .ok (.ireturn, 1) := by decide +kernel
theorem dX2_init_0 : decode cX2_init 0 = .ok (.aload_n 0, 1) := by decide +kernel
theorem dX2_init_1 : decode cX2_init 1 = .ok (.invokespecial 3, 3) := by decide +kernel
theorem dX2_init_4 : decode cX2_init 4 = .ok (.aload_n 0, 1) := by decide +kernel
theorem dX2_init_5 : decode cX2_init 5 = .ok (.sipush 144, 3) := by decide +kernel
theorem dX2_init_8 : decode cX2_init 8 = .ok (.newarray .int, 2) := by decide +kernel
theorem dX2_init_10 : decode cX2_init 10 = .ok (.putfield 9, 3) := by decide +kernel
theorem dX2_init_13 : decode cX2_init 13 = .ok (.aload_n 0, 1) := by decide +kernel
theorem dX2_init_14 : decode cX2_init 14 = .ok (.bipush 12, 2) := by decide +kernel
theorem dX2_init_16 : decode cX2_init 16 = .ok (.newarray .int, 2) := by decide +kernel
theorem dX2_init_18 : decode cX2_init 18 = .ok (.putfield 15, 3) := by decide +kernel
theorem dX2_init_21 : decode cX2_init 21 = .ok (.aload_n 0, 1) := by decide +kernel
theorem dX2_init_22 : decode cX2_init 22 = .ok (.bipush 12, 2) := by decide +kernel
theorem dX2_init_24 : decode cX2_init 24 = .ok (.newarray .int, 2) := by decide +kernel
theorem dX2_init_26 : decode cX2_init 26 = .ok (.putfield 18, 3) := by decide +kernel
theorem dX2_init_29 : decode cX2_init 29 = .ok (.return_, 1) := by decide +kernel
theorem dX3_init_0 : decode cX3_init 0 = .ok (.aload_n 0, 1) := by decide +kernel
theorem dX3_init_1 : decode cX3_init 1 = .ok (.invokespecial 3, 3) := by decide +kernel
theorem dX3_init_4 : decode cX3_init 4 = .ok (.aload_n 0, 1) := by decide +kernel
theorem dX3_init_5 : decode cX3_init 5 = .ok (.bipush 8, 2) := by decide +kernel
theorem dX3_init_7 : decode cX3_init 7 = .ok (.newarray .int, 2) := by decide +kernel
theorem dX3_init_9 : decode cX3_init 9 = .ok (.putfield 9, 3) := by decide +kernel
theorem dX3_init_12 : decode cX3_init 12 = .ok (.aload_n 0, 1) := by decide +kernel
theorem dX3_init_13 : decode cX3_init 13 = .ok (.bipush 8, 2) := by decide +kernel
theorem dX3_init_15 : decode cX3_init 15 = .ok (.newarray .boolean, 2) := by decide +kernel
theorem dX3_init_17 : decode cX3_init 17 = .ok (.putfield 15, 3) := by decide +kernel
theorem dX3_init_20 : decode cX3_init 20 = .ok (.aload_n 0, 1) := by decide +kernel
theorem dX3_init_21 : decode cX3_init 21 = .ok (.aload_n 1, 1) := by decide +kernel
theorem dX3_init_22 : decode cX3_init 22 = .ok (.putfield 19, 3) := by decide +kernel
theorem dX3_init_25 : decode cX3_init 25 = .ok (.return_, 1) := by decide +kernel
theorem dX4_init_0 : decode cX4_init 0 = .ok (.aload_n 0, 1) := by decide +kernel
theorem dX4_init_1 : decode cX4_init 1 = .ok (.invokespecial 3, 3) := by decide +kernel
theorem dX4_init_4 : decode cX4_init 4 = .ok (.aload_n 0, 1) := by decide +kernel
theorem dX4_init_5 : decode cX4_init 5 = .ok (.bipush 12, 2) := by decide +kernel
theorem dX4_init_7 : decode cX4_init 7 = .ok (.newarray .int, 2) := by decide +kernel
theorem dX4_init_9 : decode cX4_init 9 = .ok (.putfield 9, 3) := by decide +kernel
theorem dX4_init_12 : decode cX4_init 12 = .ok (.aload_n 0, 1) := by decide +kernel
theorem dX4_init_13 : decode cX4_init 13 = .ok (.bipush 12, 2) := by decide +kernel
theorem dX4_init_15 : decode cX4_init 15 = .ok (.newarray .int, 2) := by decide +kernel
theorem dX4_init_17 : decode cX4_init 17 = .ok (.putfield 15, 3) := by decide +kernel
theorem dX4_init_20 : decode cX4_init 20 = .ok (.aload_n 0, 1) := by decide +kernel
theorem dX4_init_21 : decode cX4_init 21 = .ok (.bipush 6, 2) := by decide +kernel
theorem dX4_init_23 : decode cX4_init 23 = .ok (.newarray .int, 2) := by decide +kernel
theorem dX4_init_25 : decode cX4_init 25 = .ok (.putfield 18, 3) := by decide +kernel
theorem dX4_init_28 : decode cX4_init 28 = .ok (.aload_n 0, 1) := by decide +kernel
theorem dX4_init_29 : decode cX4_init 29 = .ok (.aload_n 1, 1) := by decide +kernel
theorem dX4_init_30 : decode cX4_init 30 = .ok (.putfield 21, 3) := by decide +kernel
theorem dX4_init_33 : decode cX4_init 33 = .ok (.aload_n 0, 1) := by decide +kernel
theorem dX4_init_34 : decode cX4_init 34 = .ok (.aload_n 2, 1) := by decide +kernel
theorem dX4_init_35 : decode cX4_init 35 = .ok (.putfield 25, 3) := by decide +kernel
theorem dX4_init_38 : decode cX4_init 38 = .ok (.aload_n 0, 1) := by decide +kernel
theorem dX4_init_39 : decode cX4_init 39 = .ok (.aload_n 3, 1) := by decide +kernel
theorem dX4_init_40 : decode cX4_init 40 = .ok (.putfield 29, 3) := by decide +kernel
theorem dX4_init_43 : decode cX4_init 43 = .ok (.return_, 1) := by decide +kernel
theorem dX4_sort_0 : decode cX4_sort 0 = .ok (.iconst 0, 1) := by decide +kernel
theorem dX4_sort_1 : decode cX4_sort 1 = .ok (.istore_n 1, 1) := by decide +kernel
theorem dX4_sort_2 : decode cX4_sort 2 = .ok (.iload_n 1, 1) := by decide +kernel
theorem dX4_sort_3 : decode cX4_sort 3 = .ok (.aload_n 0, 1) := by decide +kernel
theorem dX4_sort_4 : decode cX4_sort 4 = .ok (.getfield 21, 3) := by decide +kernel
theorem dX4_sort_7 : decode cX4_sort 7 = .ok (.getfield 33, 3) := by decide +kernel
theorem dX4_sort_10 : decode cX4_sort 10 = .ok (.if_icmp .ge 27, 3) := by decide +kernel
theorem dX4_sort_37 : decode cX4_sort 37 = .ok (.iconst 0, 1) := by decide +kernel
theorem dX4_sort_38 : decode cX4_sort 38 = .ok (.istore_n 1, 1) := by decide +kernel
theorem dX4_sort_39 : decode cX4_sort 39 = .ok (.iload_n 1, 1) := by decide +kernel
theorem dX4_sort_40 : decode cX4_sort 40 = .ok (.aload_n 0, 1) := by decide +kernel
theorem dX4_sort_41 : decode cX4_sort 41 = .ok (.getfield 21, 3) := by decide +kernel
theorem dX4_sort_44 : decode cX4_sort 44 = .ok (.getfield 33, 3) := by decide +kernel
theorem dX4_sort_47 : decode cX4_sort 47 = .ok (.if_icmp .ge 58, 3) := by decide +kernel
theorem dX4_sort_105 : decode cX4_sort 105 = .ok (.return_, 1) := by decide +kernel
theorem dX4_breakingTeam_0 : decode cX4_breakingTeam 0 = .ok (.aload_n 0, 1) := by decide +kernel
theorem dX4_breakingTeam_1 : decode cX4_breakingTeam 1 = .ok (.getfield 18, 3) := by decide +kernel
theorem dX4_breakingTeam_4 : decode cX4_breakingTeam 4 = .ok (.iconst 0, 1) := by decide +kernel
theorem dX4_breakingTeam_5 : decode cX4_breakingTeam 5 = .ok (.invokestatic 57, 3) := by decide +kernel
theorem dX4_breakingTeam_8 : decode cX4_breakingTeam 8 = .ok (.iconst 0, 1) := by decide +kernel
theorem dX4_breakingTeam_9 : decode cX4_breakingTeam 9 = .ok (.istore_n 2, 1) := by decide +kernel
theorem dX4_breakingTeam_10 : decode cX4_breakingTeam 10 = .ok (.iconst 0, 1) := by decide +kernel
theorem dX4_breakingTeam_11 : decode cX4_breakingTeam 11 = .ok (.istore_n 3, 1) := by decide +kernel
theorem dX4_breakingTeam_12 : decode cX4_breakingTeam 12 = .ok (.iload_n 3, 1) := by decide +kernel
theorem dX4_breakingTeam_13 : decode cX4_breakingTeam 13 = .ok (.aload_n 0, 1) := by decide +kernel
theorem dX4_breakingTeam_14 : decode cX4_breakingTeam 14 = .ok (.getfield 21, 3) := by decide +kernel
theorem dX4_breakingTeam_17 : decode cX4_breakingTeam 17 = .ok (.getfield 33, 3) := by decide +kernel
theorem dX4_breakingTeam_20 : decode cX4_breakingTeam 20 = .ok (.if_icmp .ge 62, 3) := by decide +kernel
theorem dX4_breakingTeam_82 : decode cX4_breakingTeam 82 = .ok (.iconst (-1), 1) := by decide +kernel
theorem dX4_breakingTeam_83 : decode cX4_breakingTeam 83 = .ok (.ireturn, 1) := by decide +kernel
theorem dX5_init_0 : decode cX5_init 0 = .ok (.aload_n 0, 1) := by decide +kernel
theorem dX5_init_1 : decode cX5_init 1 = .ok (.invokespecial 3, 3) := by decide +kernel
theorem dX5_init_4 : decode cX5_init 4 = .ok (.aload_n 0, 1) := by decide +kernel
theorem dX5_init_5 : decode cX5_init 5 = .ok (.bipush 12, 2) := by decide +kernel
theorem dX5_init_7 : decode cX5_init 7 = .ok (.newarray .int, 2) := by decide +kernel
theorem dX5_init_9 : decode cX5_init 9 = .ok (.putfield 9, 3) := by decide +kernel
theorem dX5_init_12 : decode cX5_init 12 = .ok (.aload_n 0, 1) := by decide +kernel
theorem dX5_init_13 : decode cX5_init 13 = .ok (.bipush 12, 2) := by decide +kernel
theorem dX5_init_15 : decode cX5_init 15 = .ok (.newarray .boolean, 2) := by decide +kernel
theorem dX5_init_17 : decode cX5_init 17 = .ok (.putfield 15, 3) := by decide +kernel
theorem dX5_init_20 : decode cX5_init 20 = .ok (.aload_n 0, 1) := by decide +kernel
theorem dX5_init_21 : decode cX5_init 21 = .ok (.bipush 12, 2) := by decide +kernel
theorem dX5_init_23 : decode cX5_init 23 = .ok (.newarray .int, 2) := by decide +kernel
theorem dX5_init_25 : decode cX5_init 25 = .ok (.putfield 19, 3) := by decide +kernel
theorem dX5_init_28 : decode cX5_init 28 = .ok (.aload_n 0, 1) := by decide +kernel
theorem dX5_init_29 : decode cX5_init 29 = .ok (.bipush 8, 2) := by decide +kernel
theorem dX5_init_31 : decode cX5_init 31 = .ok (.newarray .int, 2) := by decide +kernel
theorem dX5_init_33 : decode cX5_init 33 = .ok (.putfield 22, 3) := by decide +kernel
theorem dX5_init_36 : decode cX5_init 36 = .ok (.aload_n 0, 1) := by decide +kernel
theorem dX5_init_37 : decode cX5_init 37 = .ok (.bipush 8, 2) := by decide +kernel
theorem dX5_init_39 : decode cX5_init 39 = .ok (.newarray .int, 2) := by decide +kernel
theorem dX5_init_41 : decode cX5_init 41 = .ok (.putfield 25, 3) := by decide +kernel
theorem dX5_init_44 : decode cX5_init 44 = .ok (.aload_n 0, 1) := by decide +kernel
theorem dX5_init_45 : decode cX5_init 45 = .ok (.bipush 8, 2) := by decide +kernel
theorem dX5_init_47 : decode cX5_init 47 = .ok (.newarray .int, 2) := by decide +kernel
theorem dX5_init_49 : decode cX5_init 49 = .ok (.putfield 28, 3) := by decide +kernel
theorem dX5_init_52 : decode cX5_init 52 = .ok (.return_, 1) := by decide +kernel
theorem dX5_hasTeam_0 : decode cX5_hasTeam 0 = .ok (.iload_n 1, 1) := by decide +kernel
theorem dX5_hasTeam_1 : decode cX5_hasTeam 1 = .ok (.ifCond .lt 15, 3) := by decide +kernel
theorem dX5_hasTeam_4 : decode cX5_hasTeam 4 = .ok (.iload_n 1, 1) := by decide +kernel
theorem dX5_hasTeam_5 : decode cX5_hasTeam 5 = .ok (.aload_n 0, 1) := by decide +kernel
theorem dX5_hasTeam_6 : decode cX5_hasTeam 6 = .ok (.getfield 31, 3) := by decide +kernel
theorem dX5_hasTeam_9 : decode cX5_hasTeam 9 = .ok (.if_icmp .ge 7, 3) := by decide +kernel
theorem dX5_hasTeam_16 : decode cX5_hasTeam 16 = .ok (.iconst 0, 1) := by decide +kernel
theorem dX5_hasTeam_17 : decode cX5_hasTeam 17 = .ok (.ireturn, 1) := by decide +kernel
theorem dX5_hasJudge_0 : decode cX5_hasJudge 0 = .ok (.iload_n 1, 1) := by decide +kernel
theorem dX5_hasJudge_1 : decode cX5_hasJudge 1 = .ok (.ifCond .lt 15, 3) := by decide +kernel
theorem dX5_hasJudge_4 : decode cX5_hasJudge 4 = .ok (.iload_n 1, 1) := by decide +kernel
theorem dX5_hasJudge_5 : decode cX5_hasJudge 5 = .ok (.aload_n 0, 1) := by decide +kernel
theorem dX5_hasJudge_6 : decode cX5_hasJudge 6 = .ok (.getfield 35, 3) := by decide +kernel
theorem dX5_hasJudge_9 : decode cX5_hasJudge 9 = .ok (.if_icmp .ge 7, 3) := by decide +kernel
theorem dX5_hasJudge_16 : decode cX5_hasJudge 16 = .ok (.iconst 0, 1) := by decide +kernel
theorem dX5_hasJudge_17 : decode cX5_hasJudge 17 = .ok (.ireturn, 1) := by decide +kernel
theorem dX5_enterTeam_0 : decode cX5_enterTeam 0 = .ok (.aload_n 0, 1) := by decide +kernel
theorem dX5_enterTeam_1 : decode cX5_enterTeam 1 = .ok (.getfield 31, 3) := by decide +kernel
theorem dX5_enterTeam_4 : decode cX5_enterTeam 4 = .ok (.istore_n 2, 1) := by decide +kernel
theorem dX5_enterTeam_5 : decode cX5_enterTeam 5 = .ok (.iload_n 2, 1) := by decide +kernel
theorem dX5_enterTeam_6 : decode cX5_enterTeam 6 = .ok (.bipush 12, 2) := by decide +kernel
theorem dX5_enterTeam_8 : decode cX5_enterTeam 8 = .ok (.if_icmp .ge 34, 3) := by decide +kernel
theorem dX5_enterTeam_11 : decode cX5_enterTeam 11 = .ok (.aload_n 0, 1) := by decide +kernel
theorem dX5_enterTeam_12 : decode cX5_enterTeam 12 = .ok (.getfield 9, 3) := by decide +kernel
theorem dX5_enterTeam_15 : decode cX5_enterTeam 15 = .ok (.iload_n 2, 1) := by decide +kernel
theorem dX5_enterTeam_16 : decode cX5_enterTeam 16 = .ok (.iload_n 1, 1) := by decide +kernel
theorem dX5_enterTeam_17 : decode cX5_enterTeam 17 = .ok (.iastore, 1) := by decide +kernel
theorem dX5_enterTeam_18 : decode cX5_enterTeam 18 = .ok (.aload_n 0, 1) := by decide +kernel
theorem dX5_enterTeam_19 : decode cX5_enterTeam 19 = .ok (.getfield 15, 3) := by decide +kernel
theorem dX5_enterTeam_22 : decode cX5_enterTeam 22 = .ok (.iload_n 2, 1) := by decide +kernel
theorem dX5_enterTeam_23 : decode cX5_enterTeam 23 = .ok (.iconst 1, 1) := by decide +kernel
theorem dX5_enterTeam_24 : decode cX5_enterTeam 24 = .ok (.bastore, 1) := by decide +kernel
theorem dX5_enterTeam_25 : decode cX5_enterTeam 25 = .ok (.aload_n 0, 1) := by decide +kernel
theorem dX5_enterTeam_26 : decode cX5_enterTeam 26 = .ok (.getfield 19, 3) := by decide +kernel
theorem dX5_enterTeam_29 : decode cX5_enterTeam 29 = .ok (.iload_n 2, 1) := by decide +kernel
theorem dX5_enterTeam_30 : decode cX5_enterTeam 30 = .ok (.iconst (-1), 1) := by decide +kernel
theorem dX5_enterTeam_31 : decode cX5_enterTeam 31 = .ok (.iastore, 1) := by decide +kernel
theorem dX5_enterTeam_32 : decode cX5_enterTeam 32 = .ok (.aload_n 0, 1) := by decide +kernel
theorem dX5_enterTeam_33 : decode cX5_enterTeam 33 = .ok (.dup, 1) := by decide +kernel
theorem dX5_enterTeam_34 : decode cX5_enterTeam 34 = .ok (.getfield 31, 3) := by decide +kernel
theorem dX5_enterTeam_37 : decode cX5_enterTeam 37 = .ok (.iconst 1, 1) := by decide +kernel
theorem dX5_enterTeam_38 : decode cX5_enterTeam 38 = .ok (.iadd, 1) := by decide +kernel
theorem dX5_enterTeam_39 : decode cX5_enterTeam 39 = .ok (.putfield 31, 3) := by decide +kernel
theorem dX5_enterTeam_42 : decode cX5_enterTeam 42 = .ok (.iload_n 2, 1) := by decide +kernel
theorem dX5_enterTeam_43 : decode cX5_enterTeam 43 = .ok (.ireturn, 1) := by decide +kernel
theorem dX5_enterJudge_0 : decode cX5_enterJudge 0 = .ok (.aload_n 0, 1) := by decide +kernel
theorem dX5_enterJudge_1 : decode cX5_enterJudge 1 = .ok (.getfield 35, 3) := by decide +kernel
theorem dX5_enterJudge_4 : decode cX5_enterJudge 4 = .ok (.istore_n 3, 1) := by decide +kernel
theorem dX5_enterJudge_5 : decode cX5_enterJudge 5 = .ok (.iload_n 3, 1) := by decide +kernel
theorem dX5_enterJudge_6 : decode cX5_enterJudge 6 = .ok (.bipush 8, 2) := by decide +kernel
theorem dX5_enterJudge_8 : decode cX5_enterJudge 8 = .ok (.if_icmp .ge 27, 3) := by decide +kernel
theorem dX5_enterJudge_11 : decode cX5_enterJudge 11 = .ok (.aload_n 0, 1) := by decide +kernel
theorem dX5_enterJudge_12 : decode cX5_enterJudge 12 = .ok (.getfield 22, 3) := by decide +kernel
theorem dX5_enterJudge_15 : decode cX5_enterJudge 15 = .ok (.iload_n 3, 1) := by decide +kernel
theorem dX5_enterJudge_16 : decode cX5_enterJudge 16 = .ok (.iload_n 1, 1) := by decide +kernel
theorem dX5_enterJudge_17 : decode cX5_enterJudge 17 = .ok (.iastore, 1) := by decide +kernel
theorem dX5_enterJudge_18 : decode cX5_enterJudge 18 = .ok (.aload_n 0, 1) := by decide +kernel
theorem dX5_enterJudge_19 : decode cX5_enterJudge 19 = .ok (.getfield 25, 3) := by decide +kernel
theorem dX5_enterJudge_22 : decode cX5_enterJudge 22 = .ok (.iload_n 3, 1) := by decide +kernel
theorem dX5_enterJudge_23 : decode cX5_enterJudge 23 = .ok (.iload_n 2, 1) := by decide +kernel
theorem dX5_enterJudge_24 : decode cX5_enterJudge 24 = .ok (.iastore, 1) := by decide +kernel
theorem dX5_enterJudge_25 : decode cX5_enterJudge 25 = .ok (.aload_n 0, 1) := by decide +kernel
theorem dX5_enterJudge_26 : decode cX5_enterJudge 26 = .ok (.dup, 1) := by decide +kernel
theorem dX5_enterJudge_27 : decode cX5_enterJudge 27 = .ok (.getfield 35, 3) := by decide +kernel
theorem dX5_enterJudge_30 : decode cX5_enterJudge 30 = .ok (.iconst 1, 1) := by decide +kernel
theorem dX5_enterJudge_31 : decode cX5_enterJudge 31 = .ok (.iadd, 1) := by decide +kernel
theorem dX5_enterJudge_32 : decode cX5_enterJudge 32 = .ok (.putfield 35, 3) := by decide +kernel
theorem dX5_enterJudge_35 : decode cX5_enterJudge 35 = .ok (.iload_n 3, 1) := by decide +kernel
theorem dX5_enterJudge_36 : decode cX5_enterJudge 36 = .ok (.ireturn, 1) := by decide +kernel
theorem dX5_presentTeams_0 : decode cX5_presentTeams 0 = .ok (.iconst 0, 1) := by decide +kernel
theorem dX5_presentTeams_1 : decode cX5_presentTeams 1 = .ok (.istore_n 1, 1) := by decide +kernel
theorem dX5_presentTeams_2 : decode cX5_presentTeams 2 = .ok (.iconst 0, 1) := by decide +kernel
theorem dX5_presentTeams_3 : decode cX5_presentTeams 3 = .ok (.istore_n 2, 1) := by decide +kernel
theorem dX5_presentTeams_4 : decode cX5_presentTeams 4 = .ok (.iload_n 2, 1) := by decide +kernel
theorem dX5_presentTeams_5 : decode cX5_presentTeams 5 = .ok (.aload_n 0, 1) := by decide +kernel
theorem dX5_presentTeams_6 : decode cX5_presentTeams 6 = .ok (.getfield 31, 3) := by decide +kernel
theorem dX5_presentTeams_9 : decode cX5_presentTeams 9 = .ok (.if_icmp .ge 21, 3) := by decide +kernel
theorem dX5_presentTeams_30 : decode cX5_presentTeams 30 = .ok (.iload_n 1, 1) := by decide +kernel
theorem dX5_presentTeams_31 : decode cX5_presentTeams 31 = .ok (.ireturn, 1) := by decide +kernel
theorem dX6_init_0 : decode cX6_init 0 = .ok (.aload_n 0, 1) := by decide +kernel
theorem dX6_init_1 : decode cX6_init 1 = .ok (.invokespecial 3, 3) := by decide +kernel
theorem dX6_init_4 : decode cX6_init 4 = .ok (.aload_n 0, 1) := by decide +kernel
theorem dX6_init_5 : decode cX6_init 5 = .ok (.bipush 6, 2) := by decide +kernel
theorem dX6_init_7 : decode cX6_init 7 = .ok (.newarray .int, 2) := by decide +kernel
theorem dX6_init_9 : decode cX6_init 9 = .ok (.putfield 9, 3) := by decide +kernel
theorem dX6_init_12 : decode cX6_init 12 = .ok (.aload_n 0, 1) := by decide +kernel
theorem dX6_init_13 : decode cX6_init 13 = .ok (.bipush 6, 2) := by decide +kernel
theorem dX6_init_15 : decode cX6_init 15 = .ok (.newarray .int, 2) := by decide +kernel
theorem dX6_init_17 : decode cX6_init 17 = .ok (.putfield 15, 3) := by decide +kernel
theorem dX6_init_20 : decode cX6_init 20 = .ok (.aload_n 0, 1) := by decide +kernel
theorem dX6_init_21 : decode cX6_init 21 = .ok (.bipush 6, 2) := by decide +kernel
theorem dX6_init_23 : decode cX6_init 23 = .ok (.newarray .int, 2) := by decide +kernel
theorem dX6_init_25 : decode cX6_init 25 = .ok (.putfield 18, 3) := by decide +kernel
theorem dX6_init_28 : decode cX6_init 28 = .ok (.aload_n 0, 1) := by decide +kernel
theorem dX6_init_29 : decode cX6_init 29 = .ok (.bipush 6, 2) := by decide +kernel
theorem dX6_init_31 : decode cX6_init 31 = .ok (.newarray .int, 2) := by decide +kernel
theorem dX6_init_33 : decode cX6_init 33 = .ok (.putfield 21, 3) := by decide +kernel
theorem dX6_init_36 : decode cX6_init 36 = .ok (.aload_n 0, 1) := by decide +kernel
theorem dX6_init_37 : decode cX6_init 37 = .ok (.bipush 6, 2) := by decide +kernel
theorem dX6_init_39 : decode cX6_init 39 = .ok (.newarray .int, 2) := by decide +kernel
theorem dX6_init_41 : decode cX6_init 41 = .ok (.putfield 24, 3) := by decide +kernel
theorem dX6_init_44 : decode cX6_init 44 = .ok (.aload_n 0, 1) := by decide +kernel
theorem dX6_init_45 : decode cX6_init 45 = .ok (.bipush 6, 2) := by decide +kernel
theorem dX6_init_47 : decode cX6_init 47 = .ok (.newarray .int, 2) := by decide +kernel
theorem dX6_init_49 : decode cX6_init 49 = .ok (.putfield 27, 3) := by decide +kernel
theorem dX6_init_52 : decode cX6_init 52 = .ok (.aload_n 0, 1) := by decide +kernel
theorem dX6_init_53 : decode cX6_init 53 = .ok (.bipush 6, 2) := by decide +kernel
theorem dX6_init_55 : decode cX6_init 55 = .ok (.newarray .char, 2) := by decide +kernel
theorem dX6_init_57 : decode cX6_init 57 = .ok (.putfield 30, 3) := by decide +kernel
theorem dX6_init_60 : decode cX6_init 60 = .ok (.aload_n 0, 1) := by decide +kernel
theorem dX6_init_61 : decode cX6_init 61 = .ok (.bipush 12, 2) := by decide +kernel
theorem dX6_init_63 : decode cX6_init 63 = .ok (.newarray .int, 2) := by decide +kernel
theorem dX6_init_65 : decode cX6_init 65 = .ok (.putfield 34, 3) := by decide +kernel
theorem dX6_init_68 : decode cX6_init 68 = .ok (.return_, 1) := by decide +kernel
theorem dX7_init_0 : decode cX7_init 0 = .ok (.aload_n 0, 1) := by decide +kernel
theorem dX7_init_1 : decode cX7_init 1 = .ok (.invokespecial 3, 3) := by decide +kernel
theorem dX7_init_4 : decode cX7_init 4 = .ok (.aload_n 0, 1) := by decide +kernel
theorem dX7_init_5 : decode cX7_init 5 = .ok (.bipush 12, 2) := by decide +kernel
theorem dX7_init_7 : decode cX7_init 7 = .ok (.newarray .int, 2) := by decide +kernel
theorem dX7_init_9 : decode cX7_init 9 = .ok (.putfield 9, 3) := by decide +kernel
theorem dX7_init_12 : decode cX7_init 12 = .ok (.aload_n 0, 1) := by decide +kernel
theorem dX7_init_13 : decode cX7_init 13 = .ok (.bipush 12, 2) := by decide +kernel
theorem dX7_init_15 : decode cX7_init 15 = .ok (.newarray .int, 2) := by decide +kernel
theorem dX7_init_17 : decode cX7_init 17 = .ok (.putfield 15, 3) := by decide +kernel
theorem dX7_init_20 : decode cX7_init 20 = .ok (.aload_n 0, 1) := by decide +kernel
theorem dX7_init_21 : decode cX7_init 21 = .ok (.bipush 24, 2) := by decide +kernel
theorem dX7_init_23 : decode cX7_init 23 = .ok (.newarray .int, 2) := by decide +kernel
theorem dX7_init_25 : decode cX7_init 25 = .ok (.putfield 18, 3) := by decide +kernel
theorem dX7_init_28 : decode cX7_init 28 = .ok (.aload_n 0, 1) := by decide +kernel
theorem dX7_init_29 : decode cX7_init 29 = .ok (.bipush 24, 2) := by decide +kernel
theorem dX7_init_31 : decode cX7_init 31 = .ok (.newarray .int, 2) := by decide +kernel
theorem dX7_init_33 : decode cX7_init 33 = .ok (.putfield 21, 3) := by decide +kernel
theorem dX7_init_36 : decode cX7_init 36 = .ok (.return_, 1) := by decide +kernel
theorem dX7_speakerAt_0 : decode cX7_speakerAt 0 = .ok (.iconst 0, 1) := by decide +kernel
theorem dX7_speakerAt_1 : decode cX7_speakerAt 1 = .ok (.istore_n 2, 1) := by decide +kernel
theorem dX7_speakerAt_2 : decode cX7_speakerAt 2 = .ok (.iload_n 2, 1) := by decide +kernel
theorem dX7_speakerAt_3 : decode cX7_speakerAt 3 = .ok (.aload_n 0, 1) := by decide +kernel
theorem dX7_speakerAt_4 : decode cX7_speakerAt 4 = .ok (.getfield 18, 3) := by decide +kernel
theorem dX7_speakerAt_7 : decode cX7_speakerAt 7 = .ok (.arraylength, 1) := by decide +kernel
theorem dX7_speakerAt_8 : decode cX7_speakerAt 8 = .ok (.if_icmp .ge 29, 3) := by decide +kernel
theorem dX7_speakerAt_11 : decode cX7_speakerAt 11 = .ok (.aload_n 0, 1) := by decide +kernel
theorem dX7_speakerAt_12 : decode cX7_speakerAt 12 = .ok (.getfield 18, 3) := by decide +kernel
theorem dX7_speakerAt_15 : decode cX7_speakerAt 15 = .ok (.iload_n 2, 1) := by decide +kernel
theorem dX7_speakerAt_16 : decode cX7_speakerAt 16 = .ok (.iaload, 1) := by decide +kernel
theorem dX7_speakerAt_17 : decode cX7_speakerAt 17 = .ok (.ifCond .le 14, 3) := by decide +kernel
theorem dX7_speakerAt_31 : decode cX7_speakerAt 31 = .ok (.iinc 2 1, 3) := by decide +kernel
theorem dX7_speakerAt_34 : decode cX7_speakerAt 34 = .ok (.goto (-32), 3) := by decide +kernel
theorem dX7_speakerAt_37 : decode cX7_speakerAt 37 = .ok (.iconst (-1), 1) := by decide +kernel
theorem dX7_speakerAt_38 : decode cX7_speakerAt 38 = .ok (.ireturn, 1) := by decide +kernel
theorem dX8_init_0 : decode cX8_init 0 = .ok (.aload_n 0, 1) := by decide +kernel
theorem dX8_init_1 : decode cX8_init 1 = .ok (.invokespecial 1, 3) := by decide +kernel
theorem dX8_init_4 : decode cX8_init 4 = .ok (.aload_n 0, 1) := by decide +kernel
theorem dX8_init_5 : decode cX8_init 5 = .ok (.new 7, 3) := by decide +kernel
theorem dX8_init_8 : decode cX8_init 8 = .ok (.dup, 1) := by decide +kernel
theorem dX8_init_9 : decode cX8_init 9 = .ok (.invokespecial 9, 3) := by decide +kernel
theorem dX8_init_12 : decode cX8_init 12 = .ok (.putfield 10, 3) := by decide +kernel
theorem dX8_init_15 : decode cX8_init 15 = .ok (.aload_n 0, 1) := by decide +kernel
theorem dX8_init_16 : decode cX8_init 16 = .ok (.new 16, 3) := by decide +kernel
theorem dX8_init_19 : decode cX8_init 19 = .ok (.dup, 1) := by decide +kernel
theorem dX8_init_20 : decode cX8_init 20 = .ok (.invokespecial 18, 3) := by decide +kernel
theorem dX8_init_23 : decode cX8_init 23 = .ok (.putfield 19, 3) := by decide +kernel
theorem dX8_init_26 : decode cX8_init 26 = .ok (.aload_n 0, 1) := by decide +kernel
theorem dX8_init_27 : decode cX8_init 27 = .ok (.new 23, 3) := by decide +kernel
theorem dX8_init_30 : decode cX8_init 30 = .ok (.dup, 1) := by decide +kernel
theorem dX8_init_31 : decode cX8_init 31 = .ok (.aload_n 0, 1) := by decide +kernel
theorem dX8_init_32 : decode cX8_init 32 = .ok (.getfield 10, 3) := by decide +kernel
theorem dX8_init_35 : decode cX8_init 35 = .ok (.invokespecial 25, 3) := by decide +kernel
theorem dX8_init_38 : decode cX8_init 38 = .ok (.putfield 28, 3) := by decide +kernel
theorem dX8_init_41 : decode cX8_init 41 = .ok (.aload_n 0, 1) := by decide +kernel
theorem dX8_init_42 : decode cX8_init 42 = .ok (.new 32, 3) := by decide +kernel
theorem dX8_init_45 : decode cX8_init 45 = .ok (.dup, 1) := by decide +kernel
theorem dX8_init_46 : decode cX8_init 46 = .ok (.aload_n 0, 1) := by decide +kernel
theorem dX8_init_47 : decode cX8_init 47 = .ok (.getfield 10, 3) := by decide +kernel
theorem dX8_init_50 : decode cX8_init 50 = .ok (.aload_n 0, 1) := by decide +kernel
theorem dX8_init_51 : decode cX8_init 51 = .ok (.getfield 19, 3) := by decide +kernel
theorem dX8_init_54 : decode cX8_init 54 = .ok (.aload_n 0, 1) := by decide +kernel
theorem dX8_init_55 : decode cX8_init 55 = .ok (.getfield 28, 3) := by decide +kernel
theorem dX8_init_58 : decode cX8_init 58 = .ok (.invokespecial 34, 3) := by decide +kernel
theorem dX8_init_61 : decode cX8_init 61 = .ok (.putfield 37, 3) := by decide +kernel
theorem dX8_init_64 : decode cX8_init 64 = .ok (.aload_n 0, 1) := by decide +kernel
theorem dX8_init_65 : decode cX8_init 65 = .ok (.new 41, 3) := by decide +kernel
theorem dX8_init_68 : decode cX8_init 68 = .ok (.dup, 1) := by decide +kernel
theorem dX8_init_69 : decode cX8_init 69 = .ok (.aload_n 0, 1) := by decide +kernel
theorem dX8_init_70 : decode cX8_init 70 = .ok (.getfield 10, 3) := by decide +kernel
theorem dX8_init_73 : decode cX8_init 73 = .ok (.aload_n 0, 1) := by decide +kernel
theorem dX8_init_74 : decode cX8_init 74 = .ok (.getfield 19, 3) := by decide +kernel
theorem dX8_init_77 : decode cX8_init 77 = .ok (.aload_n 0, 1) := by decide +kernel
theorem dX8_init_78 : decode cX8_init 78 = .ok (.getfield 37, 3) := by decide +kernel
theorem dX8_init_81 : decode cX8_init 81 = .ok (.invokespecial 43, 3) := by decide +kernel
theorem dX8_init_84 : decode cX8_init 84 = .ok (.putfield 46, 3) := by decide +kernel
theorem dX8_init_87 : decode cX8_init 87 = .ok (.aload_n 0, 1) := by decide +kernel
theorem dX8_init_88 : decode cX8_init 88 = .ok (.new 50, 3) := by decide +kernel
theorem dX8_init_91 : decode cX8_init 91 = .ok (.dup, 1) := by decide +kernel
theorem dX8_init_92 : decode cX8_init 92 = .ok (.invokespecial 52, 3) := by decide +kernel
theorem dX8_init_95 : decode cX8_init 95 = .ok (.putfield 53, 3) := by decide +kernel
theorem dX8_init_98 : decode cX8_init 98 = .ok (.aload_n 0, 1) := by decide +kernel
theorem dX8_init_99 : decode cX8_init 99 = .ok (.new 57, 3) := by decide +kernel
theorem dX8_init_102 : decode cX8_init 102 = .ok (.dup, 1) := by decide +kernel
theorem dX8_init_103 : decode cX8_init 103 = .ok (.aload_n 0, 1) := by decide +kernel
theorem dX8_init_104 : decode cX8_init 104 = .ok (.getfield 10, 3) := by decide +kernel
theorem dX8_init_107 : decode cX8_init 107 = .ok (.invokespecial 59, 3) := by decide +kernel
theorem dX8_init_110 : decode cX8_init 110 = .ok (.putfield 60, 3) := by decide +kernel
theorem dX8_init_113 : decode cX8_init 113 = .ok (.return_, 1) := by decide +kernel
theorem dX8_addTeam_0 : decode cX8_addTeam 0 = .ok (.iload_n 1, 1) := by decide +kernel
theorem dX8_addTeam_1 : decode cX8_addTeam 1 = .ok (.invokestatic 64, 3) := by decide +kernel
theorem dX8_addTeam_4 : decode cX8_addTeam 4 = .ok (.ifCond .ne 13, 3) := by decide +kernel
theorem dX8_addTeam_7 : decode cX8_addTeam 7 = .ok (.new 68, 3) := by decide +kernel
theorem dX8_addTeam_10 : decode cX8_addTeam 10 = .ok (.dup, 1) := by decide +kernel
theorem dX8_addTeam_11 : decode cX8_addTeam 11 = .ok (.ldc 70, 2) := by decide +kernel
theorem dX8_addTeam_13 : decode cX8_addTeam 13 = .ok (.invokespecial 72, 3) := by decide +kernel
theorem dX8_addTeam_16 : decode cX8_addTeam 16 = .ok (.athrow, 1) := by decide +kernel
theorem dX8_addTeam_17 : decode cX8_addTeam 17 = .ok (.aload_n 0, 1) := by decide +kernel
theorem dX8_addTeam_18 : decode cX8_addTeam 18 = .ok (.getfield 10, 3) := by decide +kernel
theorem dX8_addTeam_21 : decode cX8_addTeam 21 = .ok (.getfield 75, 3) := by decide +kernel
theorem dX8_addTeam_24 : decode cX8_addTeam 24 = .ok (.bipush 12, 2) := by decide +kernel
theorem dX8_addTeam_26 : decode cX8_addTeam 26 = .ok (.if_icmp .lt 13, 3) := by decide +kernel
theorem dX8_addTeam_39 : decode cX8_addTeam 39 = .ok (.aload_n 0, 1) := by decide +kernel
theorem dX8_addTeam_40 : decode cX8_addTeam 40 = .ok (.getfield 10, 3) := by decide +kernel
theorem dX8_addTeam_43 : decode cX8_addTeam 43 = .ok (.iload_n 1, 1) := by decide +kernel
theorem dX8_addTeam_44 : decode cX8_addTeam 44 = .ok (.invokevirtual 84, 3) := by decide +kernel
theorem dX8_addTeam_47 : decode cX8_addTeam 47 = .ok (.ireturn, 1) := by decide +kernel
theorem dX8_addJudge_0 : decode cX8_addJudge 0 = .ok (.iload_n 1, 1) := by decide +kernel
theorem dX8_addJudge_1 : decode cX8_addJudge 1 = .ok (.invokestatic 64, 3) := by decide +kernel
theorem dX8_addJudge_4 : decode cX8_addJudge 4 = .ok (.ifCond .eq 14, 3) := by decide +kernel
theorem dX8_addJudge_7 : decode cX8_addJudge 7 = .ok (.iload_n 2, 1) := by decide +kernel
theorem dX8_addJudge_8 : decode cX8_addJudge 8 = .ok (.iconst 1, 1) := by decide +kernel
theorem dX8_addJudge_9 : decode cX8_addJudge 9 = .ok (.if_icmp .lt 9, 3) := by decide +kernel
theorem dX8_addJudge_12 : decode cX8_addJudge 12 = .ok (.iload_n 2, 1) := by decide +kernel
theorem dX8_addJudge_13 : decode cX8_addJudge 13 = .ok (.bipush 9, 2) := by decide +kernel
theorem dX8_addJudge_15 : decode cX8_addJudge 15 = .ok (.if_icmp .le 13, 3) := by decide +kernel
theorem dX8_addJudge_18 : decode cX8_addJudge 18 = .ok (.new 68, 3) := by decide +kernel
theorem dX8_addJudge_21 : decode cX8_addJudge 21 = .ok (.dup, 1) := by decide +kernel
theorem dX8_addJudge_22 : decode cX8_addJudge 22 = .ok (.ldc 88, 2) := by decide +kernel
theorem dX8_addJudge_24 : decode cX8_addJudge 24 = .ok (.invokespecial 72, 3) := by decide +kernel
theorem dX8_addJudge_27 : decode cX8_addJudge 27 = .ok (.athrow, 1) := by decide +kernel
theorem dX8_addJudge_28 : decode cX8_addJudge 28 = .ok (.aload_n 0, 1) := by decide +kernel
theorem dX8_addJudge_29 : decode cX8_addJudge 29 = .ok (.getfield 10, 3) := by decide +kernel
theorem dX8_addJudge_32 : decode cX8_addJudge 32 = .ok (.getfield 90, 3) := by decide +kernel
theorem dX8_addJudge_35 : decode cX8_addJudge 35 = .ok (.bipush 8, 2) := by decide +kernel
theorem dX8_addJudge_37 : decode cX8_addJudge 37 = .ok (.if_icmp .lt 13, 3) := by decide +kernel
theorem dX8_addJudge_50 : decode cX8_addJudge 50 = .ok (.aload_n 0, 1) := by decide +kernel
theorem dX8_addJudge_51 : decode cX8_addJudge 51 = .ok (.getfield 10, 3) := by decide +kernel
theorem dX8_addJudge_54 : decode cX8_addJudge 54 = .ok (.iload_n 1, 1) := by decide +kernel
theorem dX8_addJudge_55 : decode cX8_addJudge 55 = .ok (.iload_n 2, 1) := by decide +kernel
theorem dX8_addJudge_56 : decode cX8_addJudge 56 = .ok (.invokevirtual 95, 3) := by decide +kernel
theorem dX8_addJudge_59 : decode cX8_addJudge 59 = .ok (.ireturn, 1) := by decide +kernel
theorem dX8_addConflict_0 : decode cX8_addConflict 0 = .ok (.aload_n 0, 1) := by decide +kernel
theorem dX8_addConflict_1 : decode cX8_addConflict 1 = .ok (.iload_n 1, 1) := by decide +kernel
theorem dX8_addConflict_2 : decode cX8_addConflict 2 = .ok (.invokevirtual 99, 3) := by decide +kernel
theorem dX8_setPresent_0 : decode cX8_setPresent 0 = .ok (.aload_n 0, 1) := by decide +kernel
theorem dX8_setPresent_1 : decode cX8_setPresent 1 = .ok (.iload_n 1, 1) := by decide +kernel
theorem dX8_setPresent_2 : decode cX8_setPresent 2 = .ok (.invokevirtual 103, 3) := by decide +kernel
theorem dX8_setIron_0 : decode cX8_setIron 0 = .ok (.aload_n 0, 1) := by decide +kernel
theorem dX8_setIron_1 : decode cX8_setIron 1 = .ok (.iload_n 1, 1) := by decide +kernel
theorem dX8_setIron_2 : decode cX8_setIron 2 = .ok (.invokevirtual 103, 3) := by decide +kernel
theorem dX8_draw_0 : decode cX8_draw 0 = .ok (.aload_n 0, 1) := by decide +kernel
theorem dX8_draw_1 : decode cX8_draw 1 = .ok (.getfield 28, 3) := by decide +kernel
theorem dX8_draw_4 : decode cX8_draw 4 = .ok (.getfield 130, 3) := by decide +kernel
theorem dX8_draw_7 : decode cX8_draw 7 = .ok (.bipush 6, 2) := by decide +kernel
theorem dX8_draw_9 : decode cX8_draw 9 = .ok (.if_icmp .lt 13, 3) := by decide +kernel
theorem dX8_draw_22 : decode cX8_draw 22 = .ok (.aload_n 0, 1) := by decide +kernel
theorem dX8_draw_23 : decode cX8_draw 23 = .ok (.getfield 28, 3) := by decide +kernel
theorem dX8_draw_26 : decode cX8_draw 26 = .ok (.getfield 130, 3) := by decide +kernel
theorem dX8_draw_29 : decode cX8_draw 29 = .ok (.ifCond .le 26, 3) := by decide +kernel
theorem dX8_draw_55 : decode cX8_draw 55 = .ok (.aload_n 0, 1) := by decide +kernel
theorem dX8_draw_56 : decode cX8_draw 56 = .ok (.getfield 10, 3) := by decide +kernel
theorem dX8_draw_59 : decode cX8_draw 59 = .ok (.invokevirtual 147, 3) := by decide +kernel
theorem dX8_draw_62 : decode cX8_draw 62 = .ok (.istore_n 1, 1) := by decide +kernel
theorem dX8_draw_63 : decode cX8_draw 63 = .ok (.iload_n 1, 1) := by decide +kernel
theorem dX8_draw_64 : decode cX8_draw 64 = .ok (.ifCond .eq 9, 3) := by decide +kernel
theorem dX8_draw_73 : decode cX8_draw 73 = .ok (.new 79, 3) := by decide +kernel
theorem dX8_draw_76 : decode cX8_draw 76 = .ok (.dup, 1) := by decide +kernel
theorem dX8_draw_77 : decode cX8_draw 77 = .ok (.ldc 150, 2) := by decide +kernel
theorem dX8_draw_79 : decode cX8_draw 79 = .ok (.invokespecial 83, 3) := by decide +kernel
theorem dX8_draw_82 : decode cX8_draw 82 = .ok (.athrow, 1) := by decide +kernel
theorem dX8_ballot_0 : decode cX8_ballot 0 = .ok (.aload_n 0, 1) := by decide +kernel
theorem dX8_ballot_1 : decode cX8_ballot 1 = .ok (.invokevirtual 171, 3) := by decide +kernel
theorem dX8_swap_0 : decode cX8_swap 0 = .ok (.aload_n 0, 1) := by decide +kernel
theorem dX8_swap_1 : decode cX8_swap 1 = .ok (.invokevirtual 171, 3) := by decide +kernel
theorem dX8_teams_0 : decode cX8_teams 0 = .ok (.aload_n 0, 1) := by decide +kernel
theorem dX8_teams_1 : decode cX8_teams 1 = .ok (.getfield 10, 3) := by decide +kernel
theorem dX8_teams_4 : decode cX8_teams 4 = .ok (.getfield 75, 3) := by decide +kernel
theorem dX8_teams_7 : decode cX8_teams 7 = .ok (.ireturn, 1) := by decide +kernel
theorem dX8_judges_0 : decode cX8_judges 0 = .ok (.aload_n 0, 1) := by decide +kernel
theorem dX8_judges_1 : decode cX8_judges 1 = .ok (.getfield 10, 3) := by decide +kernel
theorem dX8_judges_4 : decode cX8_judges 4 = .ok (.getfield 90, 3) := by decide +kernel
theorem dX8_judges_7 : decode cX8_judges 7 = .ok (.ireturn, 1) := by decide +kernel
theorem dX8_rounds_0 : decode cX8_rounds 0 = .ok (.aload_n 0, 1) := by decide +kernel
theorem dX8_rounds_1 : decode cX8_rounds 1 = .ok (.getfield 28, 3) := by decide +kernel
theorem dX8_rounds_4 : decode cX8_rounds 4 = .ok (.getfield 130, 3) := by decide +kernel
theorem dX8_rounds_7 : decode cX8_rounds 7 = .ok (.ireturn, 1) := by decide +kernel
theorem dX8_schoolOf_0 : decode cX8_schoolOf 0 = .ok (.aload_n 0, 1) := by decide +kernel
theorem dX8_schoolOf_1 : decode cX8_schoolOf 1 = .ok (.iload_n 1, 1) := by decide +kernel
theorem dX8_schoolOf_2 : decode cX8_schoolOf 2 = .ok (.invokevirtual 103, 3) := by decide +kernel
theorem dX8_isPresent_0 : decode cX8_isPresent 0 = .ok (.aload_n 0, 1) := by decide +kernel
theorem dX8_isPresent_1 : decode cX8_isPresent 1 = .ok (.iload_n 1, 1) := by decide +kernel
theorem dX8_isPresent_2 : decode cX8_isPresent 2 = .ok (.invokevirtual 103, 3) := by decide +kernel
theorem dX8_mayJudge_0 : decode cX8_mayJudge 0 = .ok (.aload_n 0, 1) := by decide +kernel
theorem dX8_mayJudge_1 : decode cX8_mayJudge 1 = .ok (.iload_n 1, 1) := by decide +kernel
theorem dX8_mayJudge_2 : decode cX8_mayJudge 2 = .ok (.invokevirtual 99, 3) := by decide +kernel
theorem dX8_conflicts_0 : decode cX8_conflicts 0 = .ok (.aload_n 0, 1) := by decide +kernel
theorem dX8_conflicts_1 : decode cX8_conflicts 1 = .ok (.iload_n 1, 1) := by decide +kernel
theorem dX8_conflicts_2 : decode cX8_conflicts 2 = .ok (.invokevirtual 99, 3) := by decide +kernel
theorem dX8_wins_0 : decode cX8_wins 0 = .ok (.aload_n 0, 1) := by decide +kernel
theorem dX8_wins_1 : decode cX8_wins 1 = .ok (.iload_n 1, 1) := by decide +kernel
theorem dX8_wins_2 : decode cX8_wins 2 = .ok (.invokevirtual 103, 3) := by decide +kernel
theorem dX8_points_0 : decode cX8_points 0 = .ok (.aload_n 0, 1) := by decide +kernel
theorem dX8_points_1 : decode cX8_points 1 = .ok (.iload_n 1, 1) := by decide +kernel
theorem dX8_points_2 : decode cX8_points 2 = .ok (.invokevirtual 103, 3) := by decide +kernel
theorem dX8_strength_0 : decode cX8_strength 0 = .ok (.aload_n 0, 1) := by decide +kernel
theorem dX8_strength_1 : decode cX8_strength 1 = .ok (.iload_n 1, 1) := by decide +kernel
theorem dX8_strength_2 : decode cX8_strength 2 = .ok (.invokevirtual 103, 3) := by decide +kernel
theorem dX8_standing_0 : decode cX8_standing 0 = .ok (.iload_n 1, 1) := by decide +kernel
theorem dX8_standing_1 : decode cX8_standing 1 = .ok (.ifCond .lt 14, 3) := by decide +kernel
theorem dX8_standing_4 : decode cX8_standing 4 = .ok (.iload_n 1, 1) := by decide +kernel
theorem dX8_standing_5 : decode cX8_standing 5 = .ok (.aload_n 0, 1) := by decide +kernel
theorem dX8_standing_6 : decode cX8_standing 6 = .ok (.getfield 10, 3) := by decide +kernel
theorem dX8_standing_9 : decode cX8_standing 9 = .ok (.getfield 75, 3) := by decide +kernel
theorem dX8_standing_12 : decode cX8_standing 12 = .ok (.if_icmp .lt 13, 3) := by decide +kernel
theorem dX8_standing_15 : decode cX8_standing 15 = .ok (.new 251, 3) := by decide +kernel
theorem dX8_standing_18 : decode cX8_standing 18 = .ok (.dup, 1) := by decide +kernel
theorem dX8_standing_19 : decode cX8_standing 19 = .ok (.ldc 253, 2) := by decide +kernel
theorem dX8_standing_21 : decode cX8_standing 21 = .ok (.invokespecial 255, 3) := by decide +kernel
theorem dX8_standing_24 : decode cX8_standing 24 = .ok (.athrow, 1) := by decide +kernel
theorem dX8_met_0 : decode cX8_met 0 = .ok (.aload_n 0, 1) := by decide +kernel
theorem dX8_met_1 : decode cX8_met 1 = .ok (.iload_n 1, 1) := by decide +kernel
theorem dX8_met_2 : decode cX8_met 2 = .ok (.invokevirtual 103, 3) := by decide +kernel
theorem dX8_proposed_0 : decode cX8_proposed 0 = .ok (.aload_n 0, 1) := by decide +kernel
theorem dX8_proposed_1 : decode cX8_proposed 1 = .ok (.iload_n 1, 1) := by decide +kernel
theorem dX8_proposed_2 : decode cX8_proposed 2 = .ok (.invokevirtual 103, 3) := by decide +kernel
theorem dX8_brackets_0 : decode cX8_brackets 0 = .ok (.aload_n 0, 1) := by decide +kernel
theorem dX8_brackets_1 : decode cX8_brackets 1 = .ok (.getfield 46, 3) := by decide +kernel
theorem dX8_brackets_4 : decode cX8_brackets 4 = .ok (.invokevirtual 155, 3) := by decide +kernel
theorem dX8_brackets_7 : decode cX8_brackets 7 = .ok (.aload_n 0, 1) := by decide +kernel
theorem dX8_brackets_8 : decode cX8_brackets 8 = .ok (.getfield 46, 3) := by decide +kernel
theorem dX8_brackets_11 : decode cX8_brackets 11 = .ok (.getfield 271, 3) := by decide +kernel
theorem dX8_brackets_14 : decode cX8_brackets 14 = .ok (.ireturn, 1) := by decide +kernel
theorem dX8_bracketSize_0 : decode cX8_bracketSize 0 = .ok (.aload_n 0, 1) := by decide +kernel
theorem dX8_bracketSize_1 : decode cX8_bracketSize 1 = .ok (.iload_n 1, 1) := by decide +kernel
theorem dX8_bracketSize_2 : decode cX8_bracketSize 2 = .ok (.invokevirtual 272, 3) := by decide +kernel
theorem dX8_bracketAt_0 : decode cX8_bracketAt 0 = .ok (.aload_n 0, 1) := by decide +kernel
theorem dX8_bracketAt_1 : decode cX8_bracketAt 1 = .ok (.iload_n 1, 1) := by decide +kernel
theorem dX8_bracketAt_2 : decode cX8_bracketAt 2 = .ok (.invokevirtual 272, 3) := by decide +kernel
theorem dX8_leastPenalty_0 : decode cX8_leastPenalty 0 = .ok (.aload_n 0, 1) := by decide +kernel
theorem dX8_leastPenalty_1 : decode cX8_leastPenalty 1 = .ok (.iload_n 1, 1) := by decide +kernel
theorem dX8_leastPenalty_2 : decode cX8_leastPenalty 2 = .ok (.invokevirtual 272, 3) := by decide +kernel
theorem dX8_leastByTrying_0 : decode cX8_leastByTrying 0 = .ok (.aload_n 0, 1) := by decide +kernel
theorem dX8_leastByTrying_1 : decode cX8_leastByTrying 1 = .ok (.iload_n 1, 1) := by decide +kernel
theorem dX8_leastByTrying_2 : decode cX8_leastByTrying 2 = .ok (.invokevirtual 272, 3) := by decide +kernel
theorem dX8_opponent_0 : decode cX8_opponent 0 = .ok (.aload_n 0, 1) := by decide +kernel
theorem dX8_opponent_1 : decode cX8_opponent 1 = .ok (.iload_n 1, 1) := by decide +kernel
theorem dX8_opponent_2 : decode cX8_opponent 2 = .ok (.invokevirtual 272, 3) := by decide +kernel
theorem dX8_rooms_0 : decode cX8_rooms 0 = .ok (.aload_n 0, 1) := by decide +kernel
theorem dX8_rooms_1 : decode cX8_rooms 1 = .ok (.iload_n 1, 1) := by decide +kernel
theorem dX8_rooms_2 : decode cX8_rooms 2 = .ok (.invokevirtual 304, 3) := by decide +kernel
theorem dX8_teamIn_0 : decode cX8_teamIn 0 = .ok (.aload_n 0, 1) := by decide +kernel
theorem dX8_teamIn_1 : decode cX8_teamIn 1 = .ok (.iload_n 1, 1) := by decide +kernel
theorem dX8_teamIn_2 : decode cX8_teamIn 2 = .ok (.invokevirtual 304, 3) := by decide +kernel
theorem dX8_judgeIn_0 : decode cX8_judgeIn 0 = .ok (.aload_n 0, 1) := by decide +kernel
theorem dX8_judgeIn_1 : decode cX8_judgeIn 1 = .ok (.iload_n 1, 1) := by decide +kernel
theorem dX8_judgeIn_2 : decode cX8_judgeIn 2 = .ok (.invokevirtual 304, 3) := by decide +kernel
theorem dX8_penaltyOf_0 : decode cX8_penaltyOf 0 = .ok (.aload_n 0, 1) := by decide +kernel
theorem dX8_penaltyOf_1 : decode cX8_penaltyOf 1 = .ok (.iload_n 1, 1) := by decide +kernel
theorem dX8_penaltyOf_2 : decode cX8_penaltyOf 2 = .ok (.invokevirtual 304, 3) := by decide +kernel
theorem dX8_winner_0 : decode cX8_winner 0 = .ok (.aload_n 0, 1) := by decide +kernel
theorem dX8_winner_1 : decode cX8_winner 1 = .ok (.iload_n 1, 1) := by decide +kernel
theorem dX8_winner_2 : decode cX8_winner 2 = .ok (.invokevirtual 304, 3) := by decide +kernel
theorem dX8_missing_0 : decode cX8_missing 0 = .ok (.aload_n 0, 1) := by decide +kernel
theorem dX8_missing_1 : decode cX8_missing 1 = .ok (.invokevirtual 171, 3) := by decide +kernel
theorem dX8_nextRoom_0 : decode cX8_nextRoom 0 = .ok (.aload_n 0, 1) := by decide +kernel
theorem dX8_nextRoom_1 : decode cX8_nextRoom 1 = .ok (.invokevirtual 171, 3) := by decide +kernel
theorem dX8_speeches_0 : decode cX8_speeches 0 = .ok (.aload_n 0, 1) := by decide +kernel
theorem dX8_speeches_1 : decode cX8_speeches 1 = .ok (.iload_n 1, 1) := by decide +kernel
theorem dX8_speeches_2 : decode cX8_speeches 2 = .ok (.invokevirtual 103, 3) := by decide +kernel
theorem dX8_average_0 : decode cX8_average 0 = .ok (.aload_n 0, 1) := by decide +kernel
theorem dX8_average_1 : decode cX8_average 1 = .ok (.iload_n 1, 1) := by decide +kernel
theorem dX8_average_2 : decode cX8_average 2 = .ok (.iload_n 2, 1) := by decide +kernel
theorem dX8_average_3 : decode cX8_average 3 = .ok (.invokevirtual 327, 3) := by decide +kernel
theorem dX8_averageBits_0 : decode cX8_averageBits 0 = .ok (.aload_n 0, 1) := by decide +kernel
theorem dX8_averageBits_1 : decode cX8_averageBits 1 = .ok (.iload_n 1, 1) := by decide +kernel
theorem dX8_averageBits_2 : decode cX8_averageBits 2 = .ok (.iload_n 2, 1) := by decide +kernel
theorem dX8_averageBits_3 : decode cX8_averageBits 3 = .ok (.invokevirtual 327, 3) := by decide +kernel
theorem dX8_averageTenths_0 : decode cX8_averageTenths 0 = .ok (.aload_n 0, 1) := by decide +kernel
theorem dX8_averageTenths_1 : decode cX8_averageTenths 1 = .ok (.iload_n 1, 1) := by decide +kernel
theorem dX8_averageTenths_2 : decode cX8_averageTenths 2 = .ok (.iload_n 2, 1) := by decide +kernel
theorem dX8_averageTenths_3 : decode cX8_averageTenths 3 = .ok (.invokevirtual 327, 3) := by decide +kernel
theorem dX8_bestSpeaker_0 : decode cX8_bestSpeaker 0 = .ok (.aload_n 0, 1) := by decide +kernel
theorem dX8_bestSpeaker_1 : decode cX8_bestSpeaker 1 = .ok (.getfield 19, 3) := by decide +kernel
theorem dX8_bestSpeaker_4 : decode cX8_bestSpeaker 4 = .ok (.iload_n 1, 1) := by decide +kernel
theorem dX8_bestSpeaker_5 : decode cX8_bestSpeaker 5 = .ok (.invokevirtual 336, 3) := by decide +kernel
theorem dX8_bestSpeaker_8 : decode cX8_bestSpeaker 8 = .ok (.istore_n 2, 1) := by decide +kernel
theorem dX8_bestSpeaker_9 : decode cX8_bestSpeaker 9 = .ok (.iload_n 2, 1) := by decide +kernel
theorem dX8_bestSpeaker_10 : decode cX8_bestSpeaker 10 = .ok (.iconst (-1), 1) := by decide +kernel
theorem dX8_bestSpeaker_11 : decode cX8_bestSpeaker 11 = .ok (.if_icmp .ne 13, 3) := by decide +kernel
theorem dX8_bestSpeaker_14 : decode cX8_bestSpeaker 14 = .ok (.new 251, 3) := by decide +kernel
theorem dX8_bestSpeaker_17 : decode cX8_bestSpeaker 17 = .ok (.dup, 1) := by decide +kernel
theorem dX8_bestSpeaker_18 : decode cX8_bestSpeaker 18 = .ok (.ldc 253, 2) := by decide +kernel
theorem dX8_bestSpeaker_20 : decode cX8_bestSpeaker 20 = .ok (.invokespecial 255, 3) := by decide +kernel
theorem dX8_bestSpeaker_23 : decode cX8_bestSpeaker 23 = .ok (.athrow, 1) := by decide +kernel
theorem dX8_breaks_0 : decode cX8_breaks 0 = .ok (.iload_n 2, 1) := by decide +kernel
theorem dX8_breaks_1 : decode cX8_breaks 1 = .ok (.iconst 2, 1) := by decide +kernel
theorem dX8_breaks_2 : decode cX8_breaks 2 = .ok (.if_icmp .eq 25, 3) := by decide +kernel
theorem dX8_breaks_5 : decode cX8_breaks 5 = .ok (.iload_n 2, 1) := by decide +kernel
theorem dX8_breaks_6 : decode cX8_breaks 6 = .ok (.iconst 4, 1) := by decide +kernel
theorem dX8_breaks_7 : decode cX8_breaks 7 = .ok (.if_icmp .eq 20, 3) := by decide +kernel
theorem dX8_breaks_10 : decode cX8_breaks 10 = .ok (.iload_n 2, 1) := by decide +kernel
theorem dX8_breaks_11 : decode cX8_breaks 11 = .ok (.bipush 8, 2) := by decide +kernel
theorem dX8_breaks_13 : decode cX8_breaks 13 = .ok (.if_icmp .eq 14, 3) := by decide +kernel
theorem dX8_breaks_16 : decode cX8_breaks 16 = .ok (.new 68, 3) := by decide +kernel
theorem dX8_breaks_19 : decode cX8_breaks 19 = .ok (.dup, 1) := by decide +kernel
theorem dX8_breaks_20 : decode cX8_breaks 20 = .ok (.ldc_w 339, 3) := by decide +kernel
theorem dX8_breaks_23 : decode cX8_breaks 23 = .ok (.invokespecial 72, 3) := by decide +kernel
theorem dX8_breaks_26 : decode cX8_breaks 26 = .ok (.athrow, 1) := by decide +kernel
theorem dX8_breaks_27 : decode cX8_breaks 27 = .ok (.iload_n 1, 1) := by decide +kernel
theorem dX8_breaks_28 : decode cX8_breaks 28 = .ok (.ifCond .lt 8, 3) := by decide +kernel
theorem dX8_breaks_31 : decode cX8_breaks 31 = .ok (.iload_n 1, 1) := by decide +kernel
theorem dX8_breaks_32 : decode cX8_breaks 32 = .ok (.iload_n 2, 1) := by decide +kernel
theorem dX8_breaks_33 : decode cX8_breaks 33 = .ok (.if_icmp .lt 14, 3) := by decide +kernel
theorem dX8_breaks_36 : decode cX8_breaks 36 = .ok (.new 251, 3) := by decide +kernel
theorem dX8_breaks_39 : decode cX8_breaks 39 = .ok (.dup, 1) := by decide +kernel
theorem dX8_breaks_40 : decode cX8_breaks 40 = .ok (.ldc_w 341, 3) := by decide +kernel
theorem dX8_breaks_43 : decode cX8_breaks 43 = .ok (.invokespecial 255, 3) := by decide +kernel
theorem dX8_breaks_46 : decode cX8_breaks 46 = .ok (.athrow, 1) := by decide +kernel
theorem dX8_breaks_47 : decode cX8_breaks 47 = .ok (.aload_n 0, 1) := by decide +kernel
theorem dX8_breaks_48 : decode cX8_breaks 48 = .ok (.getfield 37, 3) := by decide +kernel
theorem dX8_breaks_51 : decode cX8_breaks 51 = .ok (.invokevirtual 256, 3) := by decide +kernel
theorem dX8_breaks_54 : decode cX8_breaks 54 = .ok (.aload_n 0, 1) := by decide +kernel
theorem dX8_breaks_55 : decode cX8_breaks 55 = .ok (.getfield 37, 3) := by decide +kernel
theorem dX8_breaks_58 : decode cX8_breaks 58 = .ok (.iload_n 1, 1) := by decide +kernel
theorem dX8_breaks_59 : decode cX8_breaks 59 = .ok (.invokevirtual 343, 3) := by decide +kernel
theorem dX8_breaks_62 : decode cX8_breaks 62 = .ok (.istore_n 3, 1) := by decide +kernel
theorem dX8_breaks_63 : decode cX8_breaks 63 = .ok (.iload_n 3, 1) := by decide +kernel
theorem dX8_breaks_64 : decode cX8_breaks 64 = .ok (.iconst (-1), 1) := by decide +kernel
theorem dX8_breaks_65 : decode cX8_breaks 65 = .ok (.if_icmp .ne 14, 3) := by decide +kernel
theorem dX8_breaks_68 : decode cX8_breaks 68 = .ok (.new 251, 3) := by decide +kernel
theorem dX8_breaks_71 : decode cX8_breaks 71 = .ok (.dup, 1) := by decide +kernel
theorem dX8_breaks_72 : decode cX8_breaks 72 = .ok (.ldc_w 346, 3) := by decide +kernel
theorem dX8_breaks_75 : decode cX8_breaks 75 = .ok (.invokespecial 255, 3) := by decide +kernel
theorem dX8_breaks_78 : decode cX8_breaks 78 = .ok (.athrow, 1) := by decide +kernel
theorem dX8_people_0 : decode cX8_people 0 = .ok (.iload_n 1, 1) := by decide +kernel
theorem dX8_people_1 : decode cX8_people 1 = .ok (.bipush 116, 2) := by decide +kernel
theorem dX8_people_3 : decode cX8_people 3 = .ok (.if_icmp .eq 20, 3) := by decide +kernel
theorem dX8_people_6 : decode cX8_people 6 = .ok (.iload_n 1, 1) := by decide +kernel
theorem dX8_people_7 : decode cX8_people 7 = .ok (.bipush 106, 2) := by decide +kernel
theorem dX8_people_9 : decode cX8_people 9 = .ok (.if_icmp .eq 14, 3) := by decide +kernel
theorem dX8_people_12 : decode cX8_people 12 = .ok (.new 68, 3) := by decide +kernel
theorem dX8_people_15 : decode cX8_people 15 = .ok (.dup, 1) := by decide +kernel
theorem dX8_people_16 : decode cX8_people 16 = .ok (.ldc_w 348, 3) := by decide +kernel
theorem dX8_people_19 : decode cX8_people 19 = .ok (.invokespecial 72, 3) := by decide +kernel
theorem dX8_people_22 : decode cX8_people 22 = .ok (.athrow, 1) := by decide +kernel
theorem dX8_people_23 : decode cX8_people 23 = .ok (.iload_n 1, 1) := by decide +kernel
theorem dX8_people_24 : decode cX8_people 24 = .ok (.bipush 116, 2) := by decide +kernel
theorem dX8_people_26 : decode cX8_people 26 = .ok (.if_icmp .ne 13, 3) := by decide +kernel
theorem dX8_people_29 : decode cX8_people 29 = .ok (.aload_n 0, 1) := by decide +kernel
theorem dX8_people_30 : decode cX8_people 30 = .ok (.getfield 10, 3) := by decide +kernel
theorem dX8_people_33 : decode cX8_people 33 = .ok (.getfield 75, 3) := by decide +kernel
theorem dX8_people_36 : decode cX8_people 36 = .ok (.goto 10, 3) := by decide +kernel
theorem dX8_people_39 : decode cX8_people 39 = .ok (.aload_n 0, 1) := by decide +kernel
theorem dX8_people_40 : decode cX8_people 40 = .ok (.getfield 10, 3) := by decide +kernel
theorem dX8_people_43 : decode cX8_people 43 = .ok (.getfield 90, 3) := by decide +kernel
theorem dX8_people_46 : decode cX8_people 46 = .ok (.ireturn, 1) := by decide +kernel
theorem dX8_scores_0 : decode cX8_scores 0 = .ok (.aload_n 0, 1) := by decide +kernel
theorem dX8_scores_1 : decode cX8_scores 1 = .ok (.getfield 19, 3) := by decide +kernel
theorem dX8_scores_4 : decode cX8_scores 4 = .ok (.getfield 350, 3) := by decide +kernel
theorem dX8_scores_7 : decode cX8_scores 7 = .ok (.lreturn, 1) := by decide +kernel
theorem dX8_meanPenalty_0 : decode cX8_meanPenalty 0 = .ok (.aload_n 0, 1) := by decide +kernel
theorem dX8_meanPenalty_1 : decode cX8_meanPenalty 1 = .ok (.getfield 28, 3) := by decide +kernel
theorem dX8_meanPenalty_4 : decode cX8_meanPenalty 4 = .ok (.invokevirtual 354, 3) := by decide +kernel
theorem dX8_meanPenalty_7 : decode cX8_meanPenalty 7 = .ok (.istore_n 1, 1) := by decide +kernel
theorem dX8_meanPenalty_8 : decode cX8_meanPenalty 8 = .ok (.iload_n 1, 1) := by decide +kernel
theorem dX8_meanPenalty_9 : decode cX8_meanPenalty 9 = .ok (.ifCond .ne 14, 3) := by decide +kernel
theorem dX8_meanPenalty_12 : decode cX8_meanPenalty 12 = .ok (.new 357, 3) := by decide +kernel
theorem dX8_meanPenalty_15 : decode cX8_meanPenalty 15 = .ok (.dup, 1) := by decide +kernel
theorem dX8_meanPenalty_16 : decode cX8_meanPenalty 16 = .ok (.ldc_w 359, 3) := by decide +kernel
theorem dX8_meanPenalty_19 : decode cX8_meanPenalty 19 = .ok (.invokespecial 361, 3) := by decide +kernel
theorem dX8_meanPenalty_22 : decode cX8_meanPenalty 22 = .ok (.athrow, 1) := by decide +kernel
theorem dX8_isSchool_0 : decode cX8_isSchool 0 = .ok (.iload_n 0, 1) := by decide +kernel
theorem dX8_isSchool_1 : decode cX8_isSchool 1 = .ok (.ifCond .lt 13, 3) := by decide +kernel
theorem dX8_isSchool_4 : decode cX8_isSchool 4 = .ok (.iload_n 0, 1) := by decide +kernel
theorem dX8_isSchool_5 : decode cX8_isSchool 5 = .ok (.bipush 6, 2) := by decide +kernel
theorem dX8_isSchool_7 : decode cX8_isSchool 7 = .ok (.if_icmp .ge 7, 3) := by decide +kernel
theorem dX8_isSchool_10 : decode cX8_isSchool 10 = .ok (.iconst 1, 1) := by decide +kernel
theorem dX8_isSchool_11 : decode cX8_isSchool 11 = .ok (.goto 4, 3) := by decide +kernel
theorem dX8_isSchool_14 : decode cX8_isSchool 14 = .ok (.iconst 0, 1) := by decide +kernel
theorem dX8_isSchool_15 : decode cX8_isSchool 15 = .ok (.ireturn, 1) := by decide +kernel
theorem dX8_needTeam_0 : decode cX8_needTeam 0 = .ok (.aload_n 0, 1) := by decide +kernel
theorem dX8_needTeam_1 : decode cX8_needTeam 1 = .ok (.getfield 10, 3) := by decide +kernel
theorem dX8_needTeam_4 : decode cX8_needTeam 4 = .ok (.iload_n 1, 1) := by decide +kernel
theorem dX8_needTeam_5 : decode cX8_needTeam 5 = .ok (.invokevirtual 365, 3) := by decide +kernel
theorem dX8_needTeam_8 : decode cX8_needTeam 8 = .ok (.ifCond .ne 14, 3) := by decide +kernel
theorem dX8_needTeam_11 : decode cX8_needTeam 11 = .ok (.new 206, 3) := by decide +kernel
theorem dX8_needTeam_14 : decode cX8_needTeam 14 = .ok (.dup, 1) := by decide +kernel
theorem dX8_needTeam_15 : decode cX8_needTeam 15 = .ok (.ldc_w 368, 3) := by decide +kernel
theorem dX8_needTeam_18 : decode cX8_needTeam 18 = .ok (.invokespecial 210, 3) := by decide +kernel
theorem dX8_needTeam_21 : decode cX8_needTeam 21 = .ok (.athrow, 1) := by decide +kernel
theorem dX8_needJudge_0 : decode cX8_needJudge 0 = .ok (.aload_n 0, 1) := by decide +kernel
theorem dX8_needJudge_1 : decode cX8_needJudge 1 = .ok (.getfield 10, 3) := by decide +kernel
theorem dX8_needJudge_4 : decode cX8_needJudge 4 = .ok (.iload_n 1, 1) := by decide +kernel
theorem dX8_needJudge_5 : decode cX8_needJudge 5 = .ok (.invokevirtual 370, 3) := by decide +kernel
theorem dX8_needJudge_8 : decode cX8_needJudge 8 = .ok (.ifCond .ne 14, 3) := by decide +kernel
theorem dX8_needJudge_11 : decode cX8_needJudge 11 = .ok (.new 206, 3) := by decide +kernel
theorem dX8_needJudge_14 : decode cX8_needJudge 14 = .ok (.dup, 1) := by decide +kernel
theorem dX8_needJudge_15 : decode cX8_needJudge 15 = .ok (.ldc_w 373, 3) := by decide +kernel
theorem dX8_needJudge_18 : decode cX8_needJudge 18 = .ok (.invokespecial 210, 3) := by decide +kernel
theorem dX8_needJudge_21 : decode cX8_needJudge 21 = .ok (.athrow, 1) := by decide +kernel
theorem dX8_needAnyRound_0 : decode cX8_needAnyRound 0 = .ok (.aload_n 0, 1) := by decide +kernel
theorem dX8_needAnyRound_1 : decode cX8_needAnyRound 1 = .ok (.getfield 28, 3) := by decide +kernel
theorem dX8_needAnyRound_4 : decode cX8_needAnyRound 4 = .ok (.getfield 130, 3) := by decide +kernel
theorem dX8_needAnyRound_7 : decode cX8_needAnyRound 7 = .ok (.ifCond .ne 14, 3) := by decide +kernel
theorem dX8_needAnyRound_10 : decode cX8_needAnyRound 10 = .ok (.new 79, 3) := by decide +kernel
theorem dX8_needAnyRound_13 : decode cX8_needAnyRound 13 = .ok (.dup, 1) := by decide +kernel
theorem dX8_needAnyRound_14 : decode cX8_needAnyRound 14 = .ok (.ldc_w 377, 3) := by decide +kernel
theorem dX8_needAnyRound_17 : decode cX8_needAnyRound 17 = .ok (.invokespecial 83, 3) := by decide +kernel
theorem dX8_needAnyRound_20 : decode cX8_needAnyRound 20 = .ok (.athrow, 1) := by decide +kernel
theorem dX8_needRound_0 : decode cX8_needRound 0 = .ok (.iload_n 1, 1) := by decide +kernel
theorem dX8_needRound_1 : decode cX8_needRound 1 = .ok (.ifCond .lt 14, 3) := by decide +kernel
theorem dX8_needRound_4 : decode cX8_needRound 4 = .ok (.iload_n 1, 1) := by decide +kernel
theorem dX8_needRound_5 : decode cX8_needRound 5 = .ok (.aload_n 0, 1) := by decide +kernel
theorem dX8_needRound_6 : decode cX8_needRound 6 = .ok (.getfield 28, 3) := by decide +kernel
theorem dX8_needRound_9 : decode cX8_needRound 9 = .ok (.getfield 130, 3) := by decide +kernel
theorem dX8_needRound_12 : decode cX8_needRound 12 = .ok (.if_icmp .lt 14, 3) := by decide +kernel
theorem dX8_needRound_15 : decode cX8_needRound 15 = .ok (.new 206, 3) := by decide +kernel
theorem dX8_needRound_18 : decode cX8_needRound 18 = .ok (.dup, 1) := by decide +kernel
theorem dX8_needRound_19 : decode cX8_needRound 19 = .ok (.ldc_w 379, 3) := by decide +kernel
theorem dX8_needRound_22 : decode cX8_needRound 22 = .ok (.invokespecial 210, 3) := by decide +kernel
theorem dX8_needRound_25 : decode cX8_needRound 25 = .ok (.athrow, 1) := by decide +kernel
theorem dX8_formAndNeedBracket_0 : decode cX8_formAndNeedBracket 0 = .ok (.aload_n 0, 1) := by decide +kernel
theorem dX8_formAndNeedBracket_1 : decode cX8_formAndNeedBracket 1 = .ok (.getfield 46, 3) := by decide +kernel
theorem dX8_formAndNeedBracket_4 : decode cX8_formAndNeedBracket 4 = .ok (.invokevirtual 155, 3) := by decide +kernel
theorem dX8_formAndNeedBracket_7 : decode cX8_formAndNeedBracket 7 = .ok (.iload_n 1, 1) := by decide +kernel
theorem dX8_formAndNeedBracket_8 : decode cX8_formAndNeedBracket 8 = .ok (.ifCond .lt 14, 3) := by decide +kernel
theorem dX8_formAndNeedBracket_11 : decode cX8_formAndNeedBracket 11 = .ok (.iload_n 1, 1) := by decide +kernel
theorem dX8_formAndNeedBracket_12 : decode cX8_formAndNeedBracket 12 = .ok (.aload_n 0, 1) := by decide +kernel
theorem dX8_formAndNeedBracket_13 : decode cX8_formAndNeedBracket 13 = .ok (.getfield 46, 3) := by decide +kernel
theorem dX8_formAndNeedBracket_16 : decode cX8_formAndNeedBracket 16 = .ok (.getfield 271, 3) := by decide +kernel
theorem dX8_formAndNeedBracket_19 : decode cX8_formAndNeedBracket 19 = .ok (.if_icmp .lt 14, 3) := by decide +kernel
theorem dX8_formAndNeedBracket_22 : decode cX8_formAndNeedBracket 22 = .ok (.new 251, 3) := by decide +kernel
theorem dX8_formAndNeedBracket_25 : decode cX8_formAndNeedBracket 25 = .ok (.dup, 1) := by decide +kernel
theorem dX8_formAndNeedBracket_26 : decode cX8_formAndNeedBracket 26 = .ok (.ldc_w 383, 3) := by decide +kernel
theorem dX8_formAndNeedBracket_29 : decode cX8_formAndNeedBracket 29 = .ok (.invokespecial 255, 3) := by decide +kernel
theorem dX8_formAndNeedBracket_32 : decode cX8_formAndNeedBracket 32 = .ok (.athrow, 1) := by decide +kernel
theorem dX8_checkedMean_0 : decode cX8_checkedMean 0 = .ok (.aload_n 0, 1) := by decide +kernel
theorem dX8_checkedMean_1 : decode cX8_checkedMean 1 = .ok (.iload_n 1, 1) := by decide +kernel
theorem dX8_checkedMean_2 : decode cX8_checkedMean 2 = .ok (.invokevirtual 103, 3) := by decide +kernel
theorem dX9_init_0 : decode cX9_init 0 = .ok (.aload_n 0, 1) := by decide +kernel
theorem dX9_init_1 : decode cX9_init 1 = .ok (.invokespecial 1, 3) := by decide +kernel
theorem dX9_init_4 : decode cX9_init 4 = .ok (.aload_n 0, 1) := by decide +kernel
theorem dX9_init_5 : decode cX9_init 5 = .ok (.bipush 12, 2) := by decide +kernel
theorem dX9_init_7 : decode cX9_init 7 = .ok (.newarray .int, 2) := by decide +kernel
theorem dX9_init_9 : decode cX9_init 9 = .ok (.putfield 9, 3) := by decide +kernel
theorem dX9_init_12 : decode cX9_init 12 = .ok (.aload_n 0, 1) := by decide +kernel
theorem dX9_init_13 : decode cX9_init 13 = .ok (.bipush 12, 2) := by decide +kernel
theorem dX9_init_15 : decode cX9_init 15 = .ok (.newarray .boolean, 2) := by decide +kernel
theorem dX9_init_17 : decode cX9_init 17 = .ok (.putfield 13, 3) := by decide +kernel
theorem dX9_init_20 : decode cX9_init 20 = .ok (.aload_n 0, 1) := by decide +kernel
theorem dX9_init_21 : decode cX9_init 21 = .ok (.bipush 12, 2) := by decide +kernel
theorem dX9_init_23 : decode cX9_init 23 = .ok (.newarray .int, 2) := by decide +kernel
theorem dX9_init_25 : decode cX9_init 25 = .ok (.putfield 17, 3) := by decide +kernel
theorem dX9_init_28 : decode cX9_init 28 = .ok (.aload_n 0, 1) := by decide +kernel
theorem dX9_init_29 : decode cX9_init 29 = .ok (.bipush 12, 2) := by decide +kernel
theorem dX9_init_31 : decode cX9_init 31 = .ok (.newarray .int, 2) := by decide +kernel
theorem dX9_init_33 : decode cX9_init 33 = .ok (.putfield 20, 3) := by decide +kernel
theorem dX9_init_36 : decode cX9_init 36 = .ok (.aload_n 0, 1) := by decide +kernel
theorem dX9_init_37 : decode cX9_init 37 = .ok (.bipush 12, 2) := by decide +kernel
theorem dX9_init_39 : decode cX9_init 39 = .ok (.newarray .int, 2) := by decide +kernel
theorem dX9_init_41 : decode cX9_init 41 = .ok (.putfield 23, 3) := by decide +kernel
theorem dX9_init_44 : decode cX9_init 44 = .ok (.aload_n 0, 1) := by decide +kernel
theorem dX9_init_45 : decode cX9_init 45 = .ok (.bipush 24, 2) := by decide +kernel
theorem dX9_init_47 : decode cX9_init 47 = .ok (.newarray .int, 2) := by decide +kernel
theorem dX9_init_49 : decode cX9_init 49 = .ok (.putfield 26, 3) := by decide +kernel
theorem dX9_init_52 : decode cX9_init 52 = .ok (.aload_n 0, 1) := by decide +kernel
theorem dX9_init_53 : decode cX9_init 53 = .ok (.bipush 24, 2) := by decide +kernel
theorem dX9_init_55 : decode cX9_init 55 = .ok (.newarray .int, 2) := by decide +kernel
theorem dX9_init_57 : decode cX9_init 57 = .ok (.putfield 29, 3) := by decide +kernel
theorem dX9_init_60 : decode cX9_init 60 = .ok (.aload_n 0, 1) := by decide +kernel
theorem dX9_init_61 : decode cX9_init 61 = .ok (.bipush 8, 2) := by decide +kernel
theorem dX9_init_63 : decode cX9_init 63 = .ok (.newarray .int, 2) := by decide +kernel
theorem dX9_init_65 : decode cX9_init 65 = .ok (.putfield 32, 3) := by decide +kernel
theorem dX9_init_68 : decode cX9_init 68 = .ok (.aload_n 0, 1) := by decide +kernel
theorem dX9_init_69 : decode cX9_init 69 = .ok (.bipush 8, 2) := by decide +kernel
theorem dX9_init_71 : decode cX9_init 71 = .ok (.newarray .int, 2) := by decide +kernel
theorem dX9_init_73 : decode cX9_init 73 = .ok (.putfield 35, 3) := by decide +kernel
theorem dX9_init_76 : decode cX9_init 76 = .ok (.aload_n 0, 1) := by decide +kernel
theorem dX9_init_77 : decode cX9_init 77 = .ok (.bipush 8, 2) := by decide +kernel
theorem dX9_init_79 : decode cX9_init 79 = .ok (.bipush 12, 2) := by decide +kernel
theorem dX9_init_81 : decode cX9_init 81 = .ok (.multianewarray 38 2, 4) := by decide +kernel
theorem dX9_init_85 : decode cX9_init 85 = .ok (.putfield 40, 3) := by decide +kernel
theorem dX9_init_88 : decode cX9_init 88 = .ok (.aload_n 0, 1) := by decide +kernel
theorem dX9_init_89 : decode cX9_init 89 = .ok (.bipush 6, 2) := by decide +kernel
theorem dX9_init_91 : decode cX9_init 91 = .ok (.bipush 6, 2) := by decide +kernel
theorem dX9_init_93 : decode cX9_init 93 = .ok (.multianewarray 43 2, 4) := by decide +kernel
theorem dX9_init_97 : decode cX9_init 97 = .ok (.putfield 45, 3) := by decide +kernel
theorem dX9_init_100 : decode cX9_init 100 = .ok (.aload_n 0, 1) := by decide +kernel
theorem dX9_init_101 : decode cX9_init 101 = .ok (.bipush 6, 2) := by decide +kernel
theorem dX9_init_103 : decode cX9_init 103 = .ok (.bipush 6, 2) := by decide +kernel
theorem dX9_init_105 : decode cX9_init 105 = .ok (.multianewarray 43 2, 4) := by decide +kernel
theorem dX9_init_109 : decode cX9_init 109 = .ok (.putfield 48, 3) := by decide +kernel
theorem dX9_init_112 : decode cX9_init 112 = .ok (.aload_n 0, 1) := by decide +kernel
theorem dX9_init_113 : decode cX9_init 113 = .ok (.bipush 6, 2) := by decide +kernel
theorem dX9_init_115 : decode cX9_init 115 = .ok (.bipush 6, 2) := by decide +kernel
theorem dX9_init_117 : decode cX9_init 117 = .ok (.multianewarray 43 2, 4) := by decide +kernel
theorem dX9_init_121 : decode cX9_init 121 = .ok (.putfield 51, 3) := by decide +kernel
theorem dX9_init_124 : decode cX9_init 124 = .ok (.aload_n 0, 1) := by decide +kernel
theorem dX9_init_125 : decode cX9_init 125 = .ok (.bipush 6, 2) := by decide +kernel
theorem dX9_init_127 : decode cX9_init 127 = .ok (.bipush 6, 2) := by decide +kernel
theorem dX9_init_129 : decode cX9_init 129 = .ok (.multianewarray 43 2, 4) := by decide +kernel
theorem dX9_init_133 : decode cX9_init 133 = .ok (.putfield 54, 3) := by decide +kernel
theorem dX9_init_136 : decode cX9_init 136 = .ok (.aload_n 0, 1) := by decide +kernel
theorem dX9_init_137 : decode cX9_init 137 = .ok (.bipush 6, 2) := by decide +kernel
theorem dX9_init_139 : decode cX9_init 139 = .ok (.bipush 6, 2) := by decide +kernel
theorem dX9_init_141 : decode cX9_init 141 = .ok (.multianewarray 57 2, 4) := by decide +kernel
theorem dX9_init_145 : decode cX9_init 145 = .ok (.putfield 59, 3) := by decide +kernel
theorem dX9_init_148 : decode cX9_init 148 = .ok (.aload_n 0, 1) := by decide +kernel
theorem dX9_init_149 : decode cX9_init 149 = .ok (.bipush 6, 2) := by decide +kernel
theorem dX9_init_151 : decode cX9_init 151 = .ok (.newarray .int, 2) := by decide +kernel
theorem dX9_init_153 : decode cX9_init 153 = .ok (.putfield 62, 3) := by decide +kernel
theorem dX9_init_156 : decode cX9_init 156 = .ok (.aload_n 0, 1) := by decide +kernel
theorem dX9_init_157 : decode cX9_init 157 = .ok (.bipush 12, 2) := by decide +kernel
theorem dX9_init_159 : decode cX9_init 159 = .ok (.newarray .int, 2) := by decide +kernel
theorem dX9_init_161 : decode cX9_init 161 = .ok (.putfield 65, 3) := by decide +kernel
theorem dX9_init_164 : decode cX9_init 164 = .ok (.aload_n 0, 1) := by decide +kernel
theorem dX9_init_165 : decode cX9_init 165 = .ok (.bipush 12, 2) := by decide +kernel
theorem dX9_init_167 : decode cX9_init 167 = .ok (.newarray .int, 2) := by decide +kernel
theorem dX9_init_169 : decode cX9_init 169 = .ok (.putfield 68, 3) := by decide +kernel
theorem dX9_init_172 : decode cX9_init 172 = .ok (.aload_n 0, 1) := by decide +kernel
theorem dX9_init_173 : decode cX9_init 173 = .ok (.bipush 12, 2) := by decide +kernel
theorem dX9_init_175 : decode cX9_init 175 = .ok (.newarray .int, 2) := by decide +kernel
theorem dX9_init_177 : decode cX9_init 177 = .ok (.putfield 71, 3) := by decide +kernel
theorem dX9_init_180 : decode cX9_init 180 = .ok (.aload_n 0, 1) := by decide +kernel
theorem dX9_init_181 : decode cX9_init 181 = .ok (.bipush 12, 2) := by decide +kernel
theorem dX9_init_183 : decode cX9_init 183 = .ok (.newarray .int, 2) := by decide +kernel
theorem dX9_init_185 : decode cX9_init 185 = .ok (.putfield 74, 3) := by decide +kernel
theorem dX9_init_188 : decode cX9_init 188 = .ok (.aload_n 0, 1) := by decide +kernel
theorem dX9_init_189 : decode cX9_init 189 = .ok (.bipush 13, 2) := by decide +kernel
theorem dX9_init_191 : decode cX9_init 191 = .ok (.newarray .int, 2) := by decide +kernel
theorem dX9_init_193 : decode cX9_init 193 = .ok (.putfield 77, 3) := by decide +kernel
theorem dX9_init_196 : decode cX9_init 196 = .ok (.aload_n 0, 1) := by decide +kernel
theorem dX9_init_197 : decode cX9_init 197 = .ok (.bipush 12, 2) := by decide +kernel
theorem dX9_init_199 : decode cX9_init 199 = .ok (.newarray .int, 2) := by decide +kernel
theorem dX9_init_201 : decode cX9_init 201 = .ok (.putfield 80, 3) := by decide +kernel
theorem dX9_init_204 : decode cX9_init 204 = .ok (.aload_n 0, 1) := by decide +kernel
theorem dX9_init_205 : decode cX9_init 205 = .ok (.bipush 12, 2) := by decide +kernel
theorem dX9_init_207 : decode cX9_init 207 = .ok (.newarray .int, 2) := by decide +kernel
theorem dX9_init_209 : decode cX9_init 209 = .ok (.putfield 83, 3) := by decide +kernel
theorem dX9_init_212 : decode cX9_init 212 = .ok (.aload_n 0, 1) := by decide +kernel
theorem dX9_init_213 : decode cX9_init 213 = .ok (.bipush 6, 2) := by decide +kernel
theorem dX9_init_215 : decode cX9_init 215 = .ok (.newarray .int, 2) := by decide +kernel
theorem dX9_init_217 : decode cX9_init 217 = .ok (.putfield 86, 3) := by decide +kernel
theorem dX9_init_220 : decode cX9_init 220 = .ok (.return_, 1) := by decide +kernel
theorem dX9_thrown_0 : decode cX9_thrown 0 = .ok (.aload_n 0, 1) := by decide +kernel
theorem dX9_thrown_1 : decode cX9_thrown 1 = .ok (.getfield 89, 3) := by decide +kernel
theorem dX9_thrown_4 : decode cX9_thrown 4 = .ok (.ireturn, 1) := by decide +kernel
theorem dX9_raises_0 : decode cX9_raises 0 = .ok (.aload_n 0, 1) := by decide +kernel
theorem dX9_raises_1 : decode cX9_raises 1 = .ok (.iload_n 1, 1) := by decide +kernel
theorem dX9_raises_2 : decode cX9_raises 2 = .ok (.putfield 89, 3) := by decide +kernel
theorem dX9_raises_5 : decode cX9_raises 5 = .ok (.iconst 0, 1) := by decide +kernel
theorem dX9_raises_6 : decode cX9_raises 6 = .ok (.ireturn, 1) := by decide +kernel
theorem dX9_in_0 : decode cX9_in 0 = .ok (.iload_n 0, 1) := by decide +kernel
theorem dX9_in_1 : decode cX9_in 1 = .ok (.iload_n 1, 1) := by decide +kernel
theorem dX9_in_2 : decode cX9_in 2 = .ok (.if_icmp .lt 12, 3) := by decide +kernel
theorem dX9_in_5 : decode cX9_in 5 = .ok (.iload_n 0, 1) := by decide +kernel
theorem dX9_in_6 : decode cX9_in 6 = .ok (.iload_n 2, 1) := by decide +kernel
theorem dX9_in_7 : decode cX9_in 7 = .ok (.if_icmp .gt 7, 3) := by decide +kernel
theorem dX9_in_10 : decode cX9_in 10 = .ok (.iconst 1, 1) := by decide +kernel
theorem dX9_in_11 : decode cX9_in 11 = .ok (.goto 4, 3) := by decide +kernel
theorem dX9_in_14 : decode cX9_in 14 = .ok (.iconst 0, 1) := by decide +kernel
theorem dX9_in_15 : decode cX9_in 15 = .ok (.ireturn, 1) := by decide +kernel
theorem dX9_isTeam_0 : decode cX9_isTeam 0 = .ok (.iload_n 1, 1) := by decide +kernel
theorem dX9_isTeam_1 : decode cX9_isTeam 1 = .ok (.iconst 0, 1) := by decide +kernel
theorem dX9_isTeam_2 : decode cX9_isTeam 2 = .ok (.aload_n 0, 1) := by decide +kernel
theorem dX9_isTeam_3 : decode cX9_isTeam 3 = .ok (.getfield 93, 3) := by decide +kernel
theorem dX9_isTeam_6 : decode cX9_isTeam 6 = .ok (.iconst 1, 1) := by decide +kernel
theorem dX9_isTeam_7 : decode cX9_isTeam 7 = .ok (.isub, 1) := by decide +kernel
theorem dX9_isTeam_8 : decode cX9_isTeam 8 = .ok (.invokestatic 96, 3) := by decide +kernel
theorem dX9_isTeam_11 : decode cX9_isTeam 11 = .ok (.ireturn, 1) := by decide +kernel
theorem dX9_isJudge_0 : decode cX9_isJudge 0 = .ok (.iload_n 1, 1) := by decide +kernel
theorem dX9_isJudge_1 : decode cX9_isJudge 1 = .ok (.iconst 0, 1) := by decide +kernel
theorem dX9_isJudge_2 : decode cX9_isJudge 2 = .ok (.aload_n 0, 1) := by decide +kernel
theorem dX9_isJudge_3 : decode cX9_isJudge 3 = .ok (.getfield 100, 3) := by decide +kernel
theorem dX9_isJudge_6 : decode cX9_isJudge 6 = .ok (.iconst 1, 1) := by decide +kernel
theorem dX9_isJudge_7 : decode cX9_isJudge 7 = .ok (.isub, 1) := by decide +kernel
theorem dX9_isJudge_8 : decode cX9_isJudge 8 = .ok (.invokestatic 96, 3) := by decide +kernel
theorem dX9_isJudge_11 : decode cX9_isJudge 11 = .ok (.ireturn, 1) := by decide +kernel
theorem dX9_addTeam_0 : decode cX9_addTeam 0 = .ok (.aload_n 0, 1) := by decide +kernel
theorem dX9_addTeam_1 : decode cX9_addTeam 1 = .ok (.iload_n 1, 1) := by decide +kernel
theorem dX9_addTeam_2 : decode cX9_addTeam 2 = .ok (.iconst 0, 1) := by decide +kernel
theorem dX9_addTeam_3 : decode cX9_addTeam 3 = .ok (.iconst 5, 1) := by decide +kernel
theorem dX9_addTeam_4 : decode cX9_addTeam 4 = .ok (.invokestatic 96, 3) := by decide +kernel
theorem dX9_addTeam_7 : decode cX9_addTeam 7 = .ok (.ifCond .ne 7, 3) := by decide +kernel
theorem dX9_addTeam_10 : decode cX9_addTeam 10 = .ok (.iconst 1, 1) := by decide +kernel
theorem dX9_addTeam_11 : decode cX9_addTeam 11 = .ok (.goto 17, 3) := by decide +kernel
theorem dX9_addTeam_14 : decode cX9_addTeam 14 = .ok (.aload_n 0, 1) := by decide +kernel
theorem dX9_addTeam_15 : decode cX9_addTeam 15 = .ok (.getfield 93, 3) := by decide +kernel
theorem dX9_addTeam_18 : decode cX9_addTeam 18 = .ok (.bipush 12, 2) := by decide +kernel
theorem dX9_addTeam_20 : decode cX9_addTeam 20 = .ok (.if_icmp .ne 7, 3) := by decide +kernel
theorem dX9_addTeam_27 : decode cX9_addTeam 27 = .ok (.iconst 0, 1) := by decide +kernel
theorem dX9_addTeam_28 : decode cX9_addTeam 28 = .ok (.putfield 89, 3) := by decide +kernel
theorem dX9_addTeam_31 : decode cX9_addTeam 31 = .ok (.aload_n 0, 1) := by decide +kernel
theorem dX9_addTeam_32 : decode cX9_addTeam 32 = .ok (.getfield 89, 3) := by decide +kernel
theorem dX9_addTeam_35 : decode cX9_addTeam 35 = .ok (.ifCond .le 5, 3) := by decide +kernel
theorem dX9_addTeam_38 : decode cX9_addTeam 38 = .ok (.iconst 0, 1) := by decide +kernel
theorem dX9_addTeam_39 : decode cX9_addTeam 39 = .ok (.ireturn, 1) := by decide +kernel
theorem dX9_addTeam_40 : decode cX9_addTeam 40 = .ok (.aload_n 0, 1) := by decide +kernel
theorem dX9_addTeam_41 : decode cX9_addTeam 41 = .ok (.getfield 9, 3) := by decide +kernel
theorem dX9_addTeam_44 : decode cX9_addTeam 44 = .ok (.aload_n 0, 1) := by decide +kernel
theorem dX9_addTeam_45 : decode cX9_addTeam 45 = .ok (.getfield 93, 3) := by decide +kernel
theorem dX9_addTeam_48 : decode cX9_addTeam 48 = .ok (.iload_n 1, 1) := by decide +kernel
theorem dX9_addTeam_49 : decode cX9_addTeam 49 = .ok (.iastore, 1) := by decide +kernel
theorem dX9_addTeam_50 : decode cX9_addTeam 50 = .ok (.aload_n 0, 1) := by decide +kernel
theorem dX9_addTeam_51 : decode cX9_addTeam 51 = .ok (.getfield 13, 3) := by decide +kernel
theorem dX9_addTeam_54 : decode cX9_addTeam 54 = .ok (.aload_n 0, 1) := by decide +kernel
theorem dX9_addTeam_55 : decode cX9_addTeam 55 = .ok (.getfield 93, 3) := by decide +kernel
theorem dX9_addTeam_58 : decode cX9_addTeam 58 = .ok (.iconst 1, 1) := by decide +kernel
theorem dX9_addTeam_59 : decode cX9_addTeam 59 = .ok (.bastore, 1) := by decide +kernel
theorem dX9_addTeam_60 : decode cX9_addTeam 60 = .ok (.aload_n 0, 1) := by decide +kernel
theorem dX9_addTeam_61 : decode cX9_addTeam 61 = .ok (.getfield 17, 3) := by decide +kernel
theorem dX9_addTeam_64 : decode cX9_addTeam 64 = .ok (.aload_n 0, 1) := by decide +kernel
theorem dX9_addTeam_65 : decode cX9_addTeam 65 = .ok (.getfield 93, 3) := by decide +kernel
theorem dX9_addTeam_68 : decode cX9_addTeam 68 = .ok (.iconst (-1), 1) := by decide +kernel
theorem dX9_addTeam_69 : decode cX9_addTeam 69 = .ok (.iastore, 1) := by decide +kernel
theorem dX9_addTeam_70 : decode cX9_addTeam 70 = .ok (.aload_n 0, 1) := by decide +kernel
theorem dX9_addTeam_71 : decode cX9_addTeam 71 = .ok (.dup, 1) := by decide +kernel
theorem dX9_addTeam_72 : decode cX9_addTeam 72 = .ok (.getfield 93, 3) := by decide +kernel
theorem dX9_addTeam_75 : decode cX9_addTeam 75 = .ok (.iconst 1, 1) := by decide +kernel
theorem dX9_addTeam_76 : decode cX9_addTeam 76 = .ok (.iadd, 1) := by decide +kernel
theorem dX9_addTeam_77 : decode cX9_addTeam 77 = .ok (.putfield 93, 3) := by decide +kernel
theorem dX9_addTeam_80 : decode cX9_addTeam 80 = .ok (.aload_n 0, 1) := by decide +kernel
theorem dX9_addTeam_81 : decode cX9_addTeam 81 = .ok (.getfield 93, 3) := by decide +kernel
theorem dX9_addTeam_84 : decode cX9_addTeam 84 = .ok (.iconst 1, 1) := by decide +kernel
theorem dX9_addTeam_85 : decode cX9_addTeam 85 = .ok (.isub, 1) := by decide +kernel
theorem dX9_addTeam_86 : decode cX9_addTeam 86 = .ok (.ireturn, 1) := by decide +kernel
theorem dX9_addJudge_0 : decode cX9_addJudge 0 = .ok (.aload_n 0, 1) := by decide +kernel
theorem dX9_addJudge_1 : decode cX9_addJudge 1 = .ok (.iload_n 1, 1) := by decide +kernel
theorem dX9_addJudge_2 : decode cX9_addJudge 2 = .ok (.iconst 0, 1) := by decide +kernel
theorem dX9_addJudge_3 : decode cX9_addJudge 3 = .ok (.iconst 5, 1) := by decide +kernel
theorem dX9_addJudge_4 : decode cX9_addJudge 4 = .ok (.invokestatic 96, 3) := by decide +kernel
theorem dX9_addJudge_7 : decode cX9_addJudge 7 = .ok (.ifCond .eq 13, 3) := by decide +kernel
theorem dX9_addJudge_10 : decode cX9_addJudge 10 = .ok (.iload_n 2, 1) := by decide +kernel
theorem dX9_addJudge_11 : decode cX9_addJudge 11 = .ok (.iconst 1, 1) := by decide +kernel
theorem dX9_addJudge_12 : decode cX9_addJudge 12 = .ok (.bipush 9, 2) := by decide +kernel
theorem dX9_addJudge_14 : decode cX9_addJudge 14 = .ok (.invokestatic 96, 3) := by decide +kernel
theorem dX9_addJudge_17 : decode cX9_addJudge 17 = .ok (.ifCond .ne 7, 3) := by decide +kernel
theorem dX9_addJudge_20 : decode cX9_addJudge 20 = .ok (.iconst 1, 1) := by decide +kernel
theorem dX9_addJudge_21 : decode cX9_addJudge 21 = .ok (.goto 17, 3) := by decide +kernel
theorem dX9_addJudge_24 : decode cX9_addJudge 24 = .ok (.aload_n 0, 1) := by decide +kernel
theorem dX9_addJudge_25 : decode cX9_addJudge 25 = .ok (.getfield 100, 3) := by decide +kernel
theorem dX9_addJudge_28 : decode cX9_addJudge 28 = .ok (.bipush 8, 2) := by decide +kernel
theorem dX9_addJudge_30 : decode cX9_addJudge 30 = .ok (.if_icmp .ne 7, 3) := by decide +kernel
theorem dX9_addJudge_37 : decode cX9_addJudge 37 = .ok (.iconst 0, 1) := by decide +kernel
theorem dX9_addJudge_38 : decode cX9_addJudge 38 = .ok (.putfield 89, 3) := by decide +kernel
theorem dX9_addJudge_41 : decode cX9_addJudge 41 = .ok (.aload_n 0, 1) := by decide +kernel
theorem dX9_addJudge_42 : decode cX9_addJudge 42 = .ok (.getfield 89, 3) := by decide +kernel
theorem dX9_addJudge_45 : decode cX9_addJudge 45 = .ok (.ifCond .le 5, 3) := by decide +kernel
theorem dX9_addJudge_48 : decode cX9_addJudge 48 = .ok (.iconst 0, 1) := by decide +kernel
theorem dX9_addJudge_49 : decode cX9_addJudge 49 = .ok (.ireturn, 1) := by decide +kernel
theorem dX9_addJudge_50 : decode cX9_addJudge 50 = .ok (.aload_n 0, 1) := by decide +kernel
theorem dX9_addJudge_51 : decode cX9_addJudge 51 = .ok (.getfield 32, 3) := by decide +kernel
theorem dX9_addJudge_54 : decode cX9_addJudge 54 = .ok (.aload_n 0, 1) := by decide +kernel
theorem dX9_addJudge_55 : decode cX9_addJudge 55 = .ok (.getfield 100, 3) := by decide +kernel
theorem dX9_addJudge_58 : decode cX9_addJudge 58 = .ok (.iload_n 1, 1) := by decide +kernel
theorem dX9_addJudge_59 : decode cX9_addJudge 59 = .ok (.iastore, 1) := by decide +kernel
theorem dX9_addJudge_60 : decode cX9_addJudge 60 = .ok (.aload_n 0, 1) := by decide +kernel
theorem dX9_addJudge_61 : decode cX9_addJudge 61 = .ok (.getfield 35, 3) := by decide +kernel
theorem dX9_addJudge_64 : decode cX9_addJudge 64 = .ok (.aload_n 0, 1) := by decide +kernel
theorem dX9_addJudge_65 : decode cX9_addJudge 65 = .ok (.getfield 100, 3) := by decide +kernel
theorem dX9_addJudge_68 : decode cX9_addJudge 68 = .ok (.iload_n 2, 1) := by decide +kernel
theorem dX9_addJudge_69 : decode cX9_addJudge 69 = .ok (.iastore, 1) := by decide +kernel
theorem dX9_addJudge_70 : decode cX9_addJudge 70 = .ok (.aload_n 0, 1) := by decide +kernel
theorem dX9_addJudge_71 : decode cX9_addJudge 71 = .ok (.dup, 1) := by decide +kernel
theorem dX9_addJudge_72 : decode cX9_addJudge 72 = .ok (.getfield 100, 3) := by decide +kernel
theorem dX9_addJudge_75 : decode cX9_addJudge 75 = .ok (.iconst 1, 1) := by decide +kernel
theorem dX9_addJudge_76 : decode cX9_addJudge 76 = .ok (.iadd, 1) := by decide +kernel
theorem dX9_addJudge_77 : decode cX9_addJudge 77 = .ok (.putfield 100, 3) := by decide +kernel
theorem dX9_addJudge_80 : decode cX9_addJudge 80 = .ok (.aload_n 0, 1) := by decide +kernel
theorem dX9_addJudge_81 : decode cX9_addJudge 81 = .ok (.getfield 100, 3) := by decide +kernel
theorem dX9_addJudge_84 : decode cX9_addJudge 84 = .ok (.iconst 1, 1) := by decide +kernel
theorem dX9_addJudge_85 : decode cX9_addJudge 85 = .ok (.isub, 1) := by decide +kernel
theorem dX9_addJudge_86 : decode cX9_addJudge 86 = .ok (.ireturn, 1) := by decide +kernel
theorem dX9_addConflict_0 : decode cX9_addConflict 0 = .ok (.aload_n 0, 1) := by decide +kernel
theorem dX9_addConflict_1 : decode cX9_addConflict 1 = .ok (.aload_n 0, 1) := by decide +kernel
theorem dX9_addConflict_2 : decode cX9_addConflict 2 = .ok (.iload_n 1, 1) := by decide +kernel
theorem dX9_addConflict_3 : decode cX9_addConflict 3 = .ok (.invokevirtual 103, 3) := by decide +kernel
theorem dX9_addConflict_6 : decode cX9_addConflict 6 = .ok (.ifCond .eq 11, 3) := by decide +kernel
theorem dX9_addConflict_17 : decode cX9_addConflict 17 = .ok (.iconst 1, 1) := by decide +kernel
theorem dX9_addConflict_18 : decode cX9_addConflict 18 = .ok (.goto 19, 3) := by decide +kernel
theorem dX9_addConflict_37 : decode cX9_addConflict 37 = .ok (.putfield 89, 3) := by decide +kernel
theorem dX9_addConflict_40 : decode cX9_addConflict 40 = .ok (.aload_n 0, 1) := by decide +kernel
theorem dX9_addConflict_41 : decode cX9_addConflict 41 = .ok (.getfield 89, 3) := by decide +kernel
theorem dX9_addConflict_44 : decode cX9_addConflict 44 = .ok (.ifCond .le 5, 3) := by decide +kernel
theorem dX9_addConflict_47 : decode cX9_addConflict 47 = .ok (.iconst 0, 1) := by decide +kernel
theorem dX9_addConflict_48 : decode cX9_addConflict 48 = .ok (.ireturn, 1) := by decide +kernel
theorem dX9_setPresent_0 : decode cX9_setPresent 0 = .ok (.aload_n 0, 1) := by decide +kernel
theorem dX9_setPresent_1 : decode cX9_setPresent 1 = .ok (.aload_n 0, 1) := by decide +kernel
theorem dX9_setPresent_2 : decode cX9_setPresent 2 = .ok (.iload_n 1, 1) := by decide +kernel
theorem dX9_setPresent_3 : decode cX9_setPresent 3 = .ok (.invokevirtual 107, 3) := by decide +kernel
theorem dX9_setPresent_6 : decode cX9_setPresent 6 = .ok (.ifCond .eq 7, 3) := by decide +kernel
theorem dX9_setPresent_13 : decode cX9_setPresent 13 = .ok (.iconst 1, 1) := by decide +kernel
theorem dX9_setPresent_14 : decode cX9_setPresent 14 = .ok (.putfield 89, 3) := by decide +kernel
theorem dX9_setPresent_17 : decode cX9_setPresent 17 = .ok (.aload_n 0, 1) := by decide +kernel
theorem dX9_setPresent_18 : decode cX9_setPresent 18 = .ok (.getfield 89, 3) := by decide +kernel
theorem dX9_setPresent_21 : decode cX9_setPresent 21 = .ok (.ifCond .le 5, 3) := by decide +kernel
theorem dX9_setPresent_24 : decode cX9_setPresent 24 = .ok (.iconst 0, 1) := by decide +kernel
theorem dX9_setPresent_25 : decode cX9_setPresent 25 = .ok (.ireturn, 1) := by decide +kernel
theorem dX9_setIron_0 : decode cX9_setIron 0 = .ok (.aload_n 0, 1) := by decide +kernel
theorem dX9_setIron_1 : decode cX9_setIron 1 = .ok (.aload_n 0, 1) := by decide +kernel
theorem dX9_setIron_2 : decode cX9_setIron 2 = .ok (.iload_n 1, 1) := by decide +kernel
theorem dX9_setIron_3 : decode cX9_setIron 3 = .ok (.invokevirtual 107, 3) := by decide +kernel
theorem dX9_setIron_6 : decode cX9_setIron 6 = .ok (.ifCond .ne 7, 3) := by decide +kernel
theorem dX9_setIron_9 : decode cX9_setIron 9 = .ok (.iconst 1, 1) := by decide +kernel
theorem dX9_setIron_10 : decode cX9_setIron 10 = .ok (.goto 17, 3) := by decide +kernel
theorem dX9_setIron_27 : decode cX9_setIron 27 = .ok (.putfield 89, 3) := by decide +kernel
theorem dX9_setIron_30 : decode cX9_setIron 30 = .ok (.aload_n 0, 1) := by decide +kernel
theorem dX9_setIron_31 : decode cX9_setIron 31 = .ok (.getfield 89, 3) := by decide +kernel
theorem dX9_setIron_34 : decode cX9_setIron 34 = .ok (.ifCond .le 5, 3) := by decide +kernel
theorem dX9_setIron_37 : decode cX9_setIron 37 = .ok (.iconst 0, 1) := by decide +kernel
theorem dX9_setIron_38 : decode cX9_setIron 38 = .ok (.ireturn, 1) := by decide +kernel
theorem dX9_stands_0 : decode cX9_stands 0 = .ok (.iconst 0, 1) := by decide +kernel
theorem dX9_stands_1 : decode cX9_stands 1 = .ok (.istore_n 3, 1) := by decide +kernel
theorem dX9_stands_2 : decode cX9_stands 2 = .ok (.iload_n 3, 1) := by decide +kernel
theorem dX9_stands_3 : decode cX9_stands 3 = .ok (.aload_n 0, 1) := by decide +kernel
theorem dX9_stands_4 : decode cX9_stands 4 = .ok (.getfield 93, 3) := by decide +kernel
theorem dX9_stands_7 : decode cX9_stands 7 = .ok (.if_icmp .ge 91, 3) := by decide +kernel
theorem dX9_stands_98 : decode cX9_stands 98 = .ok (.iconst (-1), 1) := by decide +kernel
theorem dX9_stands_99 : decode cX9_stands 99 = .ok (.ireturn, 1) := by decide +kernel
theorem dX9_brackets_0 : decode cX9_brackets 0 = .ok (.aload_n 0, 1) := by decide +kernel
theorem dX9_brackets_1 : decode cX9_brackets 1 = .ok (.iconst 0, 1) := by decide +kernel
theorem dX9_brackets_2 : decode cX9_brackets 2 = .ok (.putfield 124, 3) := by decide +kernel
theorem dX9_brackets_5 : decode cX9_brackets 5 = .ok (.aload_n 0, 1) := by decide +kernel
theorem dX9_brackets_6 : decode cX9_brackets 6 = .ok (.iconst 0, 1) := by decide +kernel
theorem dX9_brackets_7 : decode cX9_brackets 7 = .ok (.iconst 0, 1) := by decide +kernel
theorem dX9_brackets_8 : decode cX9_brackets 8 = .ok (.invokevirtual 127, 3) := by decide +kernel
theorem dX9_brackets_11 : decode cX9_brackets 11 = .ok (.istore_n 2, 1) := by decide +kernel
theorem dX9_brackets_12 : decode cX9_brackets 12 = .ok (.iload_n 2, 1) := by decide +kernel
theorem dX9_brackets_13 : decode cX9_brackets 13 = .ok (.iconst (-1), 1) := by decide +kernel
theorem dX9_brackets_14 : decode cX9_brackets 14 = .ok (.if_icmp .eq 36, 3) := by decide +kernel
theorem dX9_brackets_50 : decode cX9_brackets 50 = .ok (.aload_n 0, 1) := by decide +kernel
theorem dX9_brackets_51 : decode cX9_brackets 51 = .ok (.iconst 0, 1) := by decide +kernel
theorem dX9_brackets_52 : decode cX9_brackets 52 = .ok (.putfield 131, 3) := by decide +kernel
theorem dX9_brackets_55 : decode cX9_brackets 55 = .ok (.iconst 0, 1) := by decide +kernel
theorem dX9_brackets_56 : decode cX9_brackets 56 = .ok (.istore_n 3, 1) := by decide +kernel
theorem dX9_brackets_57 : decode cX9_brackets 57 = .ok (.iload_n 3, 1) := by decide +kernel
theorem dX9_brackets_58 : decode cX9_brackets 58 = .ok (.aload_n 0, 1) := by decide +kernel
theorem dX9_brackets_59 : decode cX9_brackets 59 = .ok (.getfield 124, 3) := by decide +kernel
theorem dX9_brackets_62 : decode cX9_brackets 62 = .ok (.if_icmp .ge 103, 3) := by decide +kernel
theorem dX9_brackets_165 : decode cX9_brackets 165 = .ok (.aload_n 0, 1) := by decide +kernel
theorem dX9_brackets_166 : decode cX9_brackets 166 = .ok (.getfield 77, 3) := by decide +kernel
theorem dX9_brackets_169 : decode cX9_brackets 169 = .ok (.aload_n 0, 1) := by decide +kernel
theorem dX9_brackets_170 : decode cX9_brackets 170 = .ok (.getfield 131, 3) := by decide +kernel
theorem dX9_brackets_173 : decode cX9_brackets 173 = .ok (.aload_n 0, 1) := by decide +kernel
theorem dX9_brackets_174 : decode cX9_brackets 174 = .ok (.getfield 124, 3) := by decide +kernel
theorem dX9_brackets_177 : decode cX9_brackets 177 = .ok (.iastore, 1) := by decide +kernel
theorem dX9_brackets_178 : decode cX9_brackets 178 = .ok (.return_, 1) := by decide +kernel
theorem dX9_draw_0 : decode cX9_draw 0 = .ok (.aload_n 0, 1) := by decide +kernel
theorem dX9_draw_1 : decode cX9_draw 1 = .ok (.iconst 0, 1) := by decide +kernel
theorem dX9_draw_2 : decode cX9_draw 2 = .ok (.invokevirtual 160, 3) := by decide +kernel
theorem dX9_draw_5 : decode cX9_draw 5 = .ok (.aload_n 0, 1) := by decide +kernel
theorem dX9_draw_6 : decode cX9_draw 6 = .ok (.aload_n 0, 1) := by decide +kernel
theorem dX9_draw_7 : decode cX9_draw 7 = .ok (.getfield 114, 3) := by decide +kernel
theorem dX9_draw_10 : decode cX9_draw 10 = .ok (.bipush 6, 2) := by decide +kernel
theorem dX9_draw_12 : decode cX9_draw 12 = .ok (.if_icmp .eq 40, 3) := by decide +kernel
theorem dX9_draw_15 : decode cX9_draw 15 = .ok (.aload_n 0, 1) := by decide +kernel
theorem dX9_draw_16 : decode cX9_draw 16 = .ok (.getfield 114, 3) := by decide +kernel
theorem dX9_draw_19 : decode cX9_draw 19 = .ok (.ifCond .le 16, 3) := by decide +kernel
theorem dX9_draw_35 : decode cX9_draw 35 = .ok (.aload_n 0, 1) := by decide +kernel
theorem dX9_draw_36 : decode cX9_draw 36 = .ok (.getfield 124, 3) := by decide +kernel
theorem dX9_draw_39 : decode cX9_draw 39 = .ok (.iconst 2, 1) := by decide +kernel
theorem dX9_draw_40 : decode cX9_draw 40 = .ok (.irem, 1) := by decide +kernel
theorem dX9_draw_41 : decode cX9_draw 41 = .ok (.iconst 1, 1) := by decide +kernel
theorem dX9_draw_42 : decode cX9_draw 42 = .ok (.if_icmp .eq 10, 3) := by decide +kernel
theorem dX9_draw_45 : decode cX9_draw 45 = .ok (.aload_n 0, 1) := by decide +kernel
theorem dX9_draw_46 : decode cX9_draw 46 = .ok (.getfield 124, 3) := by decide +kernel
theorem dX9_draw_49 : decode cX9_draw 49 = .ok (.ifCond .ne 7, 3) := by decide +kernel
theorem dX9_draw_52 : decode cX9_draw 52 = .ok (.iconst 1, 1) := by decide +kernel
theorem dX9_draw_53 : decode cX9_draw 53 = .ok (.goto 4, 3) := by decide +kernel
theorem dX9_draw_57 : decode cX9_draw 57 = .ok (.putfield 89, 3) := by decide +kernel
theorem dX9_draw_60 : decode cX9_draw 60 = .ok (.aload_n 0, 1) := by decide +kernel
theorem dX9_draw_61 : decode cX9_draw 61 = .ok (.getfield 89, 3) := by decide +kernel
theorem dX9_draw_64 : decode cX9_draw 64 = .ok (.ifCond .le 5, 3) := by decide +kernel
theorem dX9_draw_67 : decode cX9_draw 67 = .ok (.iconst 0, 1) := by decide +kernel
theorem dX9_draw_68 : decode cX9_draw 68 = .ok (.ireturn, 1) := by decide +kernel
theorem dX9_ballot_0 : decode cX9_ballot 0 = .ok (.aload_n 0, 1) := by decide +kernel
theorem dX9_ballot_1 : decode cX9_ballot 1 = .ok (.getfield 114, 3) := by decide +kernel
theorem dX9_ballot_4 : decode cX9_ballot 4 = .ok (.iconst 1, 1) := by decide +kernel
theorem dX9_ballot_5 : decode cX9_ballot 5 = .ok (.isub, 1) := by decide +kernel
theorem dX9_ballot_6 : decode cX9_ballot 6 = .ok (.istore 6, 2) := by decide +kernel
theorem dX9_ballot_8 : decode cX9_ballot 8 = .ok (.iload_n 2, 1) := by decide +kernel
theorem dX9_ballot_9 : decode cX9_ballot 9 = .ok (.bipush 60, 2) := by decide +kernel
theorem dX9_ballot_11 : decode cX9_ballot 11 = .ok (.bipush 80, 2) := by decide +kernel
theorem dX9_ballot_13 : decode cX9_ballot 13 = .ok (.invokestatic 96, 3) := by decide +kernel
theorem dX9_ballot_16 : decode cX9_ballot 16 = .ok (.ifCond .eq 53, 3) := by decide +kernel
theorem dX9_ballot_19 : decode cX9_ballot 19 = .ok (.iload_n 3, 1) := by decide +kernel
theorem dX9_ballot_20 : decode cX9_ballot 20 = .ok (.bipush 60, 2) := by decide +kernel
theorem dX9_ballot_22 : decode cX9_ballot 22 = .ok (.bipush 80, 2) := by decide +kernel
theorem dX9_ballot_24 : decode cX9_ballot 24 = .ok (.invokestatic 96, 3) := by decide +kernel
theorem dX9_ballot_27 : decode cX9_ballot 27 = .ok (.ifCond .eq 42, 3) := by decide +kernel
theorem dX9_ballot_30 : decode cX9_ballot 30 = .ok (.iload 4, 2) := by decide +kernel
theorem dX9_ballot_32 : decode cX9_ballot 32 = .ok (.bipush 60, 2) := by decide +kernel
theorem dX9_ballot_34 : decode cX9_ballot 34 = .ok (.bipush 80, 2) := by decide +kernel
theorem dX9_ballot_36 : decode cX9_ballot 36 = .ok (.invokestatic 96, 3) := by decide +kernel
theorem dX9_ballot_39 : decode cX9_ballot 39 = .ok (.ifCond .eq 30, 3) := by decide +kernel
theorem dX9_ballot_42 : decode cX9_ballot 42 = .ok (.iload 5, 2) := by decide +kernel
theorem dX9_ballot_44 : decode cX9_ballot 44 = .ok (.bipush 60, 2) := by decide +kernel
theorem dX9_ballot_46 : decode cX9_ballot 46 = .ok (.bipush 80, 2) := by decide +kernel
theorem dX9_ballot_48 : decode cX9_ballot 48 = .ok (.invokestatic 96, 3) := by decide +kernel
theorem dX9_ballot_51 : decode cX9_ballot 51 = .ok (.ifCond .eq 18, 3) := by decide +kernel
theorem dX9_ballot_54 : decode cX9_ballot 54 = .ok (.iload_n 2, 1) := by decide +kernel
theorem dX9_ballot_55 : decode cX9_ballot 55 = .ok (.iload_n 3, 1) := by decide +kernel
theorem dX9_ballot_56 : decode cX9_ballot 56 = .ok (.iadd, 1) := by decide +kernel
theorem dX9_ballot_57 : decode cX9_ballot 57 = .ok (.iload 4, 2) := by decide +kernel
theorem dX9_ballot_59 : decode cX9_ballot 59 = .ok (.iload 5, 2) := by decide +kernel
theorem dX9_ballot_61 : decode cX9_ballot 61 = .ok (.iadd, 1) := by decide +kernel
theorem dX9_ballot_62 : decode cX9_ballot 62 = .ok (.if_icmp .eq 7, 3) := by decide +kernel
theorem dX9_ballot_65 : decode cX9_ballot 65 = .ok (.iconst 1, 1) := by decide +kernel
theorem dX9_ballot_66 : decode cX9_ballot 66 = .ok (.goto 4, 3) := by decide +kernel
theorem dX9_ballot_69 : decode cX9_ballot 69 = .ok (.iconst 0, 1) := by decide +kernel
theorem dX9_ballot_70 : decode cX9_ballot 70 = .ok (.istore 7, 2) := by decide +kernel
theorem dX9_ballot_72 : decode cX9_ballot 72 = .ok (.aload_n 0, 1) := by decide +kernel
theorem dX9_ballot_73 : decode cX9_ballot 73 = .ok (.aload_n 0, 1) := by decide +kernel
theorem dX9_ballot_74 : decode cX9_ballot 74 = .ok (.getfield 114, 3) := by decide +kernel
theorem dX9_ballot_77 : decode cX9_ballot 77 = .ok (.ifCond .ne 7, 3) := by decide +kernel
theorem dX9_ballot_80 : decode cX9_ballot 80 = .ok (.iconst 1, 1) := by decide +kernel
theorem dX9_ballot_81 : decode cX9_ballot 81 = .ok (.goto 52, 3) := by decide +kernel
theorem dX9_ballot_133 : decode cX9_ballot 133 = .ok (.putfield 89, 3) := by decide +kernel
theorem dX9_ballot_136 : decode cX9_ballot 136 = .ok (.aload_n 0, 1) := by decide +kernel
theorem dX9_ballot_137 : decode cX9_ballot 137 = .ok (.getfield 89, 3) := by decide +kernel
theorem dX9_ballot_140 : decode cX9_ballot 140 = .ok (.ifCond .le 5, 3) := by decide +kernel
theorem dX9_ballot_143 : decode cX9_ballot 143 = .ok (.iconst 0, 1) := by decide +kernel
theorem dX9_ballot_144 : decode cX9_ballot 144 = .ok (.ireturn, 1) := by decide +kernel
theorem dX9_swap_0 : decode cX9_swap 0 = .ok (.aload_n 0, 1) := by decide +kernel
theorem dX9_swap_1 : decode cX9_swap 1 = .ok (.getfield 114, 3) := by decide +kernel
theorem dX9_swap_4 : decode cX9_swap 4 = .ok (.ifCond .ne 9, 3) := by decide +kernel
theorem dX9_swap_7 : decode cX9_swap 7 = .ok (.aload_n 0, 1) := by decide +kernel
theorem dX9_swap_8 : decode cX9_swap 8 = .ok (.iconst 1, 1) := by decide +kernel
theorem dX9_swap_9 : decode cX9_swap 9 = .ok (.invokevirtual 175, 3) := by decide +kernel
theorem dX9_swap_12 : decode cX9_swap 12 = .ok (.ireturn, 1) := by decide +kernel
theorem dX9_teams_0 : decode cX9_teams 0 = .ok (.aload_n 0, 1) := by decide +kernel
theorem dX9_teams_1 : decode cX9_teams 1 = .ok (.iconst 0, 1) := by decide +kernel
theorem dX9_teams_2 : decode cX9_teams 2 = .ok (.putfield 89, 3) := by decide +kernel
theorem dX9_teams_5 : decode cX9_teams 5 = .ok (.aload_n 0, 1) := by decide +kernel
theorem dX9_teams_6 : decode cX9_teams 6 = .ok (.getfield 93, 3) := by decide +kernel
theorem dX9_teams_9 : decode cX9_teams 9 = .ok (.ireturn, 1) := by decide +kernel
theorem dX9_judges__0 : decode cX9_judges_ 0 = .ok (.aload_n 0, 1) := by decide +kernel
theorem dX9_judges__1 : decode cX9_judges_ 1 = .ok (.iconst 0, 1) := by decide +kernel
theorem dX9_judges__2 : decode cX9_judges_ 2 = .ok (.putfield 89, 3) := by decide +kernel
theorem dX9_judges__5 : decode cX9_judges_ 5 = .ok (.aload_n 0, 1) := by decide +kernel
theorem dX9_judges__6 : decode cX9_judges_ 6 = .ok (.getfield 100, 3) := by decide +kernel
theorem dX9_judges__9 : decode cX9_judges_ 9 = .ok (.ireturn, 1) := by decide +kernel
theorem dX9_rounds_0 : decode cX9_rounds 0 = .ok (.aload_n 0, 1) := by decide +kernel
theorem dX9_rounds_1 : decode cX9_rounds 1 = .ok (.iconst 0, 1) := by decide +kernel
theorem dX9_rounds_2 : decode cX9_rounds 2 = .ok (.putfield 89, 3) := by decide +kernel
theorem dX9_rounds_5 : decode cX9_rounds 5 = .ok (.aload_n 0, 1) := by decide +kernel
theorem dX9_rounds_6 : decode cX9_rounds 6 = .ok (.getfield 114, 3) := by decide +kernel
theorem dX9_rounds_9 : decode cX9_rounds 9 = .ok (.ireturn, 1) := by decide +kernel
theorem dX9_lacks_0 : decode cX9_lacks 0 = .ok (.aload_n 0, 1) := by decide +kernel
theorem dX9_lacks_1 : decode cX9_lacks 1 = .ok (.aload_n 0, 1) := by decide +kernel
theorem dX9_lacks_2 : decode cX9_lacks 2 = .ok (.iload_n 1, 1) := by decide +kernel
theorem dX9_lacks_3 : decode cX9_lacks 3 = .ok (.invokevirtual 107, 3) := by decide +kernel
theorem dX9_lacks_6 : decode cX9_lacks 6 = .ok (.ifCond .eq 7, 3) := by decide +kernel
theorem dX9_lacks_13 : decode cX9_lacks 13 = .ok (.iconst 1, 1) := by decide +kernel
theorem dX9_lacks_14 : decode cX9_lacks 14 = .ok (.putfield 89, 3) := by decide +kernel
theorem dX9_lacks_17 : decode cX9_lacks 17 = .ok (.aload_n 0, 1) := by decide +kernel
theorem dX9_lacks_18 : decode cX9_lacks 18 = .ok (.getfield 89, 3) := by decide +kernel
theorem dX9_lacks_21 : decode cX9_lacks 21 = .ok (.ifCond .le 7, 3) := by decide +kernel
theorem dX9_lacks_24 : decode cX9_lacks 24 = .ok (.iconst 1, 1) := by decide +kernel
theorem dX9_lacks_25 : decode cX9_lacks 25 = .ok (.goto 4, 3) := by decide +kernel
theorem dX9_lacks_29 : decode cX9_lacks 29 = .ok (.ireturn, 1) := by decide +kernel
theorem dX9_schoolOf_0 : decode cX9_schoolOf 0 = .ok (.aload_n 0, 1) := by decide +kernel
theorem dX9_schoolOf_1 : decode cX9_schoolOf 1 = .ok (.iload_n 1, 1) := by decide +kernel
theorem dX9_schoolOf_2 : decode cX9_schoolOf 2 = .ok (.invokevirtual 194, 3) := by decide +kernel
theorem dX9_schoolOf_5 : decode cX9_schoolOf 5 = .ok (.ifCond .eq 7, 3) := by decide +kernel
theorem dX9_schoolOf_8 : decode cX9_schoolOf 8 = .ok (.iconst 0, 1) := by decide +kernel
theorem dX9_schoolOf_9 : decode cX9_schoolOf 9 = .ok (.goto 9, 3) := by decide +kernel
theorem dX9_schoolOf_18 : decode cX9_schoolOf 18 = .ok (.ireturn, 1) := by decide +kernel
theorem dX9_isPresent_0 : decode cX9_isPresent 0 = .ok (.aload_n 0, 1) := by decide +kernel
theorem dX9_isPresent_1 : decode cX9_isPresent 1 = .ok (.iload_n 1, 1) := by decide +kernel
theorem dX9_isPresent_2 : decode cX9_isPresent 2 = .ok (.invokevirtual 194, 3) := by decide +kernel
theorem dX9_isPresent_5 : decode cX9_isPresent 5 = .ok (.ifCond .ne 16, 3) := by decide +kernel
theorem dX9_isPresent_21 : decode cX9_isPresent 21 = .ok (.iconst 0, 1) := by decide +kernel
theorem dX9_isPresent_22 : decode cX9_isPresent 22 = .ok (.ireturn, 1) := by decide +kernel
theorem dX9_mayJudge_0 : decode cX9_mayJudge 0 = .ok (.aload_n 0, 1) := by decide +kernel
theorem dX9_mayJudge_1 : decode cX9_mayJudge 1 = .ok (.aload_n 0, 1) := by decide +kernel
theorem dX9_mayJudge_2 : decode cX9_mayJudge 2 = .ok (.iload_n 1, 1) := by decide +kernel
theorem dX9_mayJudge_3 : decode cX9_mayJudge 3 = .ok (.invokevirtual 103, 3) := by decide +kernel
theorem dX9_mayJudge_6 : decode cX9_mayJudge 6 = .ok (.ifCond .eq 15, 3) := by decide +kernel
theorem dX9_mayJudge_21 : decode cX9_mayJudge 21 = .ok (.iconst 1, 1) := by decide +kernel
theorem dX9_mayJudge_22 : decode cX9_mayJudge 22 = .ok (.putfield 89, 3) := by decide +kernel
theorem dX9_mayJudge_25 : decode cX9_mayJudge 25 = .ok (.aload_n 0, 1) := by decide +kernel
theorem dX9_mayJudge_26 : decode cX9_mayJudge 26 = .ok (.getfield 89, 3) := by decide +kernel
theorem dX9_mayJudge_29 : decode cX9_mayJudge 29 = .ok (.ifCond .ne 16, 3) := by decide +kernel
theorem dX9_mayJudge_45 : decode cX9_mayJudge 45 = .ok (.iconst 0, 1) := by decide +kernel
theorem dX9_mayJudge_46 : decode cX9_mayJudge 46 = .ok (.ireturn, 1) := by decide +kernel
theorem dX9_conflicts_0 : decode cX9_conflicts 0 = .ok (.aload_n 0, 1) := by decide +kernel
theorem dX9_conflicts_1 : decode cX9_conflicts 1 = .ok (.aload_n 0, 1) := by decide +kernel
theorem dX9_conflicts_2 : decode cX9_conflicts 2 = .ok (.iload_n 1, 1) := by decide +kernel
theorem dX9_conflicts_3 : decode cX9_conflicts 3 = .ok (.invokevirtual 103, 3) := by decide +kernel
theorem dX9_conflicts_6 : decode cX9_conflicts 6 = .ok (.ifCond .eq 7, 3) := by decide +kernel
theorem dX9_conflicts_13 : decode cX9_conflicts 13 = .ok (.iconst 1, 1) := by decide +kernel
theorem dX9_conflicts_14 : decode cX9_conflicts 14 = .ok (.putfield 89, 3) := by decide +kernel
theorem dX9_conflicts_17 : decode cX9_conflicts 17 = .ok (.aload_n 0, 1) := by decide +kernel
theorem dX9_conflicts_18 : decode cX9_conflicts 18 = .ok (.getfield 89, 3) := by decide +kernel
theorem dX9_conflicts_21 : decode cX9_conflicts 21 = .ok (.ifCond .le 7, 3) := by decide +kernel
theorem dX9_conflicts_24 : decode cX9_conflicts 24 = .ok (.iconst 0, 1) := by decide +kernel
theorem dX9_conflicts_25 : decode cX9_conflicts 25 = .ok (.goto 8, 3) := by decide +kernel
theorem dX9_conflicts_33 : decode cX9_conflicts 33 = .ok (.ireturn, 1) := by decide +kernel
theorem dX9_wins_0 : decode cX9_wins 0 = .ok (.aload_n 0, 1) := by decide +kernel
theorem dX9_wins_1 : decode cX9_wins 1 = .ok (.iload_n 1, 1) := by decide +kernel
theorem dX9_wins_2 : decode cX9_wins 2 = .ok (.invokevirtual 194, 3) := by decide +kernel
theorem dX9_wins_5 : decode cX9_wins 5 = .ok (.ifCond .eq 7, 3) := by decide +kernel
theorem dX9_wins_8 : decode cX9_wins 8 = .ok (.iconst 0, 1) := by decide +kernel
theorem dX9_wins_9 : decode cX9_wins 9 = .ok (.goto 9, 3) := by decide +kernel
theorem dX9_wins_18 : decode cX9_wins 18 = .ok (.ireturn, 1) := by decide +kernel
theorem dX9_points_0 : decode cX9_points 0 = .ok (.aload_n 0, 1) := by decide +kernel
theorem dX9_points_1 : decode cX9_points 1 = .ok (.iload_n 1, 1) := by decide +kernel
theorem dX9_points_2 : decode cX9_points 2 = .ok (.invokevirtual 194, 3) := by decide +kernel
theorem dX9_points_5 : decode cX9_points 5 = .ok (.ifCond .eq 7, 3) := by decide +kernel
theorem dX9_points_8 : decode cX9_points 8 = .ok (.iconst 0, 1) := by decide +kernel
theorem dX9_points_9 : decode cX9_points 9 = .ok (.goto 9, 3) := by decide +kernel
theorem dX9_points_18 : decode cX9_points 18 = .ok (.ireturn, 1) := by decide +kernel
theorem dX9_strength_0 : decode cX9_strength 0 = .ok (.aload_n 0, 1) := by decide +kernel
theorem dX9_strength_1 : decode cX9_strength 1 = .ok (.iload_n 1, 1) := by decide +kernel
theorem dX9_strength_2 : decode cX9_strength 2 = .ok (.invokevirtual 194, 3) := by decide +kernel
theorem dX9_strength_5 : decode cX9_strength 5 = .ok (.ifCond .eq 7, 3) := by decide +kernel
theorem dX9_strength_8 : decode cX9_strength 8 = .ok (.iconst 0, 1) := by decide +kernel
theorem dX9_strength_9 : decode cX9_strength 9 = .ok (.goto 8, 3) := by decide +kernel
theorem dX9_strength_17 : decode cX9_strength 17 = .ok (.ireturn, 1) := by decide +kernel
theorem dX9_standing_0 : decode cX9_standing 0 = .ok (.aload_n 0, 1) := by decide +kernel
theorem dX9_standing_1 : decode cX9_standing 1 = .ok (.iload_n 1, 1) := by decide +kernel
theorem dX9_standing_2 : decode cX9_standing 2 = .ok (.iconst 0, 1) := by decide +kernel
theorem dX9_standing_3 : decode cX9_standing 3 = .ok (.aload_n 0, 1) := by decide +kernel
theorem dX9_standing_4 : decode cX9_standing 4 = .ok (.getfield 93, 3) := by decide +kernel
theorem dX9_standing_7 : decode cX9_standing 7 = .ok (.iconst 1, 1) := by decide +kernel
theorem dX9_standing_8 : decode cX9_standing 8 = .ok (.isub, 1) := by decide +kernel
theorem dX9_standing_9 : decode cX9_standing 9 = .ok (.invokestatic 96, 3) := by decide +kernel
theorem dX9_standing_12 : decode cX9_standing 12 = .ok (.ifCond .eq 7, 3) := by decide +kernel
theorem dX9_standing_19 : decode cX9_standing 19 = .ok (.iconst 1, 1) := by decide +kernel
theorem dX9_standing_20 : decode cX9_standing 20 = .ok (.putfield 89, 3) := by decide +kernel
theorem dX9_standing_23 : decode cX9_standing 23 = .ok (.aload_n 0, 1) := by decide +kernel
theorem dX9_standing_24 : decode cX9_standing 24 = .ok (.getfield 89, 3) := by decide +kernel
theorem dX9_standing_27 : decode cX9_standing 27 = .ok (.ifCond .le 7, 3) := by decide +kernel
theorem dX9_standing_30 : decode cX9_standing 30 = .ok (.iconst 0, 1) := by decide +kernel
theorem dX9_standing_31 : decode cX9_standing 31 = .ok (.goto 9, 3) := by decide +kernel
theorem dX9_standing_40 : decode cX9_standing 40 = .ok (.ireturn, 1) := by decide +kernel
theorem dX9_met_0 : decode cX9_met 0 = .ok (.aload_n 0, 1) := by decide +kernel
theorem dX9_met_1 : decode cX9_met 1 = .ok (.aload_n 0, 1) := by decide +kernel
theorem dX9_met_2 : decode cX9_met 2 = .ok (.iload_n 1, 1) := by decide +kernel
theorem dX9_met_3 : decode cX9_met 3 = .ok (.invokevirtual 107, 3) := by decide +kernel
theorem dX9_met_6 : decode cX9_met 6 = .ok (.ifCond .eq 11, 3) := by decide +kernel
theorem dX9_met_17 : decode cX9_met 17 = .ok (.iconst 1, 1) := by decide +kernel
theorem dX9_met_18 : decode cX9_met 18 = .ok (.goto 13, 3) := by decide +kernel
theorem dX9_met_31 : decode cX9_met 31 = .ok (.putfield 89, 3) := by decide +kernel
theorem dX9_met_34 : decode cX9_met 34 = .ok (.aload_n 0, 1) := by decide +kernel
theorem dX9_met_35 : decode cX9_met 35 = .ok (.getfield 89, 3) := by decide +kernel
theorem dX9_met_38 : decode cX9_met 38 = .ok (.ifCond .le 7, 3) := by decide +kernel
theorem dX9_met_41 : decode cX9_met 41 = .ok (.iconst 0, 1) := by decide +kernel
theorem dX9_met_42 : decode cX9_met 42 = .ok (.goto 13, 3) := by decide +kernel
theorem dX9_met_55 : decode cX9_met 55 = .ok (.ireturn, 1) := by decide +kernel
theorem dX9_proposed_0 : decode cX9_proposed 0 = .ok (.aload_n 0, 1) := by decide +kernel
theorem dX9_proposed_1 : decode cX9_proposed 1 = .ok (.iload_n 1, 1) := by decide +kernel
theorem dX9_proposed_2 : decode cX9_proposed 2 = .ok (.invokevirtual 194, 3) := by decide +kernel
theorem dX9_proposed_5 : decode cX9_proposed 5 = .ok (.ifCond .eq 7, 3) := by decide +kernel
theorem dX9_proposed_8 : decode cX9_proposed 8 = .ok (.iconst 0, 1) := by decide +kernel
theorem dX9_proposed_9 : decode cX9_proposed 9 = .ok (.goto 12, 3) := by decide +kernel
theorem dX9_proposed_21 : decode cX9_proposed 21 = .ok (.ireturn, 1) := by decide +kernel
theorem dX9_brackets__0 : decode cX9_brackets_ 0 = .ok (.aload_n 0, 1) := by decide +kernel
theorem dX9_brackets__1 : decode cX9_brackets_ 1 = .ok (.iconst 0, 1) := by decide +kernel
theorem dX9_brackets__2 : decode cX9_brackets_ 2 = .ok (.putfield 89, 3) := by decide +kernel
theorem dX9_brackets__5 : decode cX9_brackets_ 5 = .ok (.aload_n 0, 1) := by decide +kernel
theorem dX9_brackets__6 : decode cX9_brackets_ 6 = .ok (.iconst 1, 1) := by decide +kernel
theorem dX9_brackets__7 : decode cX9_brackets_ 7 = .ok (.invokevirtual 160, 3) := by decide +kernel
theorem dX9_brackets__10 : decode cX9_brackets_ 10 = .ok (.aload_n 0, 1) := by decide +kernel
theorem dX9_brackets__11 : decode cX9_brackets_ 11 = .ok (.getfield 131, 3) := by decide +kernel
theorem dX9_brackets__14 : decode cX9_brackets_ 14 = .ok (.ireturn, 1) := by decide +kernel
theorem dX9_noBracket_0 : decode cX9_noBracket 0 = .ok (.aload_n 0, 1) := by decide +kernel
theorem dX9_noBracket_1 : decode cX9_noBracket 1 = .ok (.iconst 1, 1) := by decide +kernel
theorem dX9_noBracket_2 : decode cX9_noBracket 2 = .ok (.invokevirtual 160, 3) := by decide +kernel
theorem dX9_noBracket_5 : decode cX9_noBracket 5 = .ok (.aload_n 0, 1) := by decide +kernel
theorem dX9_noBracket_6 : decode cX9_noBracket 6 = .ok (.iload_n 1, 1) := by decide +kernel
theorem dX9_noBracket_7 : decode cX9_noBracket 7 = .ok (.iconst 0, 1) := by decide +kernel
theorem dX9_noBracket_8 : decode cX9_noBracket 8 = .ok (.aload_n 0, 1) := by decide +kernel
theorem dX9_noBracket_9 : decode cX9_noBracket 9 = .ok (.getfield 131, 3) := by decide +kernel
theorem dX9_noBracket_12 : decode cX9_noBracket 12 = .ok (.iconst 1, 1) := by decide +kernel
theorem dX9_noBracket_13 : decode cX9_noBracket 13 = .ok (.isub, 1) := by decide +kernel
theorem dX9_noBracket_14 : decode cX9_noBracket 14 = .ok (.invokestatic 96, 3) := by decide +kernel
theorem dX9_noBracket_17 : decode cX9_noBracket 17 = .ok (.ifCond .eq 7, 3) := by decide +kernel
theorem dX9_noBracket_24 : decode cX9_noBracket 24 = .ok (.iconst 1, 1) := by decide +kernel
theorem dX9_noBracket_25 : decode cX9_noBracket 25 = .ok (.putfield 89, 3) := by decide +kernel
theorem dX9_noBracket_28 : decode cX9_noBracket 28 = .ok (.aload_n 0, 1) := by decide +kernel
theorem dX9_noBracket_29 : decode cX9_noBracket 29 = .ok (.getfield 89, 3) := by decide +kernel
theorem dX9_noBracket_32 : decode cX9_noBracket 32 = .ok (.ifCond .le 7, 3) := by decide +kernel
theorem dX9_noBracket_35 : decode cX9_noBracket 35 = .ok (.iconst 1, 1) := by decide +kernel
theorem dX9_noBracket_36 : decode cX9_noBracket 36 = .ok (.goto 4, 3) := by decide +kernel
theorem dX9_noBracket_40 : decode cX9_noBracket 40 = .ok (.ireturn, 1) := by decide +kernel
theorem dX9_bracketSize_0 : decode cX9_bracketSize 0 = .ok (.aload_n 0, 1) := by decide +kernel
theorem dX9_bracketSize_1 : decode cX9_bracketSize 1 = .ok (.iload_n 1, 1) := by decide +kernel
theorem dX9_bracketSize_2 : decode cX9_bracketSize 2 = .ok (.invokevirtual 197, 3) := by decide +kernel
theorem dX9_bracketSize_5 : decode cX9_bracketSize 5 = .ok (.ifCond .eq 7, 3) := by decide +kernel
theorem dX9_bracketSize_8 : decode cX9_bracketSize 8 = .ok (.iconst 0, 1) := by decide +kernel
theorem dX9_bracketSize_9 : decode cX9_bracketSize 9 = .ok (.goto 8, 3) := by decide +kernel
theorem dX9_bracketSize_17 : decode cX9_bracketSize 17 = .ok (.ireturn, 1) := by decide +kernel
theorem dX9_bracketAt_0 : decode cX9_bracketAt 0 = .ok (.aload_n 0, 1) := by decide +kernel
theorem dX9_bracketAt_1 : decode cX9_bracketAt 1 = .ok (.iload_n 1, 1) := by decide +kernel
theorem dX9_bracketAt_2 : decode cX9_bracketAt 2 = .ok (.invokevirtual 197, 3) := by decide +kernel
theorem dX9_bracketAt_5 : decode cX9_bracketAt 5 = .ok (.ifCond .eq 5, 3) := by decide +kernel
theorem dX9_bracketAt_8 : decode cX9_bracketAt 8 = .ok (.iconst 0, 1) := by decide +kernel
theorem dX9_bracketAt_9 : decode cX9_bracketAt 9 = .ok (.ireturn, 1) := by decide +kernel
theorem dX9_leastPenalty_0 : decode cX9_leastPenalty 0 = .ok (.aload_n 0, 1) := by decide +kernel
theorem dX9_leastPenalty_1 : decode cX9_leastPenalty 1 = .ok (.iload_n 1, 1) := by decide +kernel
theorem dX9_leastPenalty_2 : decode cX9_leastPenalty 2 = .ok (.invokevirtual 197, 3) := by decide +kernel
theorem dX9_leastPenalty_5 : decode cX9_leastPenalty 5 = .ok (.ifCond .eq 5, 3) := by decide +kernel
theorem dX9_leastPenalty_8 : decode cX9_leastPenalty 8 = .ok (.iconst 0, 1) := by decide +kernel
theorem dX9_leastPenalty_9 : decode cX9_leastPenalty 9 = .ok (.ireturn, 1) := by decide +kernel
theorem dX9_leastByTrying_0 : decode cX9_leastByTrying 0 = .ok (.aload_n 0, 1) := by decide +kernel
theorem dX9_leastByTrying_1 : decode cX9_leastByTrying 1 = .ok (.iload_n 1, 1) := by decide +kernel
theorem dX9_leastByTrying_2 : decode cX9_leastByTrying 2 = .ok (.invokevirtual 202, 3) := by decide +kernel
theorem dX9_leastByTrying_5 : decode cX9_leastByTrying 5 = .ok (.istore_n 2, 1) := by decide +kernel
theorem dX9_leastByTrying_6 : decode cX9_leastByTrying 6 = .ok (.aload_n 0, 1) := by decide +kernel
theorem dX9_leastByTrying_7 : decode cX9_leastByTrying 7 = .ok (.getfield 89, 3) := by decide +kernel
theorem dX9_leastByTrying_10 : decode cX9_leastByTrying 10 = .ok (.ifCond .le 5, 3) := by decide +kernel
theorem dX9_leastByTrying_13 : decode cX9_leastByTrying 13 = .ok (.iconst 0, 1) := by decide +kernel
theorem dX9_leastByTrying_14 : decode cX9_leastByTrying 14 = .ok (.ireturn, 1) := by decide +kernel
theorem dX9_opponent_0 : decode cX9_opponent 0 = .ok (.aload_n 0, 1) := by decide +kernel
theorem dX9_opponent_1 : decode cX9_opponent 1 = .ok (.iload_n 1, 1) := by decide +kernel
theorem dX9_opponent_2 : decode cX9_opponent 2 = .ok (.invokevirtual 197, 3) := by decide +kernel
theorem dX9_opponent_5 : decode cX9_opponent 5 = .ok (.ifCond .eq 5, 3) := by decide +kernel
theorem dX9_opponent_8 : decode cX9_opponent 8 = .ok (.iconst 0, 1) := by decide +kernel
theorem dX9_opponent_9 : decode cX9_opponent 9 = .ok (.ireturn, 1) := by decide +kernel
theorem dX9_rooms_0 : decode cX9_rooms 0 = .ok (.aload_n 0, 1) := by decide +kernel
theorem dX9_rooms_1 : decode cX9_rooms 1 = .ok (.iload_n 1, 1) := by decide +kernel
theorem dX9_rooms_2 : decode cX9_rooms 2 = .ok (.iconst 0, 1) := by decide +kernel
theorem dX9_rooms_3 : decode cX9_rooms 3 = .ok (.aload_n 0, 1) := by decide +kernel
theorem dX9_rooms_4 : decode cX9_rooms 4 = .ok (.getfield 114, 3) := by decide +kernel
theorem dX9_rooms_7 : decode cX9_rooms 7 = .ok (.iconst 1, 1) := by decide +kernel
theorem dX9_rooms_8 : decode cX9_rooms 8 = .ok (.isub, 1) := by decide +kernel
theorem dX9_rooms_9 : decode cX9_rooms 9 = .ok (.invokestatic 96, 3) := by decide +kernel
theorem dX9_rooms_12 : decode cX9_rooms 12 = .ok (.ifCond .eq 7, 3) := by decide +kernel
theorem dX9_rooms_19 : decode cX9_rooms 19 = .ok (.iconst 1, 1) := by decide +kernel
theorem dX9_rooms_20 : decode cX9_rooms 20 = .ok (.putfield 89, 3) := by decide +kernel
theorem dX9_rooms_23 : decode cX9_rooms 23 = .ok (.aload_n 0, 1) := by decide +kernel
theorem dX9_rooms_24 : decode cX9_rooms 24 = .ok (.getfield 89, 3) := by decide +kernel
theorem dX9_rooms_27 : decode cX9_rooms 27 = .ok (.ifCond .le 7, 3) := by decide +kernel
theorem dX9_rooms_30 : decode cX9_rooms 30 = .ok (.iconst 0, 1) := by decide +kernel
theorem dX9_rooms_31 : decode cX9_rooms 31 = .ok (.goto 9, 3) := by decide +kernel
theorem dX9_rooms_40 : decode cX9_rooms 40 = .ok (.ireturn, 1) := by decide +kernel
theorem dX9_noRoom_0 : decode cX9_noRoom 0 = .ok (.aload_n 0, 1) := by decide +kernel
theorem dX9_noRoom_1 : decode cX9_noRoom 1 = .ok (.iload_n 1, 1) := by decide +kernel
theorem dX9_noRoom_2 : decode cX9_noRoom 2 = .ok (.iconst 0, 1) := by decide +kernel
theorem dX9_noRoom_3 : decode cX9_noRoom 3 = .ok (.aload_n 0, 1) := by decide +kernel
theorem dX9_noRoom_4 : decode cX9_noRoom 4 = .ok (.getfield 114, 3) := by decide +kernel
theorem dX9_noRoom_7 : decode cX9_noRoom 7 = .ok (.iconst 1, 1) := by decide +kernel
theorem dX9_noRoom_8 : decode cX9_noRoom 8 = .ok (.isub, 1) := by decide +kernel
theorem dX9_noRoom_9 : decode cX9_noRoom 9 = .ok (.invokestatic 96, 3) := by decide +kernel
theorem dX9_noRoom_12 : decode cX9_noRoom 12 = .ok (.ifCond .eq 23, 3) := by decide +kernel
theorem dX9_noRoom_35 : decode cX9_noRoom 35 = .ok (.iconst 1, 1) := by decide +kernel
theorem dX9_noRoom_36 : decode cX9_noRoom 36 = .ok (.putfield 89, 3) := by decide +kernel
theorem dX9_noRoom_39 : decode cX9_noRoom 39 = .ok (.aload_n 0, 1) := by decide +kernel
theorem dX9_noRoom_40 : decode cX9_noRoom 40 = .ok (.getfield 89, 3) := by decide +kernel
theorem dX9_noRoom_43 : decode cX9_noRoom 43 = .ok (.ifCond .le 7, 3) := by decide +kernel
theorem dX9_noRoom_46 : decode cX9_noRoom 46 = .ok (.iconst 1, 1) := by decide +kernel
theorem dX9_noRoom_47 : decode cX9_noRoom 47 = .ok (.goto 4, 3) := by decide +kernel
theorem dX9_noRoom_51 : decode cX9_noRoom 51 = .ok (.ireturn, 1) := by decide +kernel
theorem dX9_teamIn_0 : decode cX9_teamIn 0 = .ok (.aload_n 0, 1) := by decide +kernel
theorem dX9_teamIn_1 : decode cX9_teamIn 1 = .ok (.iload_n 1, 1) := by decide +kernel
theorem dX9_teamIn_2 : decode cX9_teamIn 2 = .ok (.iload_n 2, 1) := by decide +kernel
theorem dX9_teamIn_3 : decode cX9_teamIn 3 = .ok (.invokevirtual 205, 3) := by decide +kernel
theorem dX9_teamIn_6 : decode cX9_teamIn 6 = .ok (.ifCond .eq 5, 3) := by decide +kernel
theorem dX9_teamIn_9 : decode cX9_teamIn 9 = .ok (.iconst 0, 1) := by decide +kernel
theorem dX9_teamIn_10 : decode cX9_teamIn 10 = .ok (.ireturn, 1) := by decide +kernel
theorem dX9_judgeIn_0 : decode cX9_judgeIn 0 = .ok (.aload_n 0, 1) := by decide +kernel
theorem dX9_judgeIn_1 : decode cX9_judgeIn 1 = .ok (.iload_n 1, 1) := by decide +kernel
theorem dX9_judgeIn_2 : decode cX9_judgeIn 2 = .ok (.iload_n 2, 1) := by decide +kernel
theorem dX9_judgeIn_3 : decode cX9_judgeIn 3 = .ok (.invokevirtual 205, 3) := by decide +kernel
theorem dX9_judgeIn_6 : decode cX9_judgeIn 6 = .ok (.ifCond .eq 7, 3) := by decide +kernel
theorem dX9_judgeIn_9 : decode cX9_judgeIn 9 = .ok (.iconst 0, 1) := by decide +kernel
theorem dX9_judgeIn_10 : decode cX9_judgeIn 10 = .ok (.goto 11, 3) := by decide +kernel
theorem dX9_judgeIn_21 : decode cX9_judgeIn 21 = .ok (.ireturn, 1) := by decide +kernel
theorem dX9_penaltyOf_0 : decode cX9_penaltyOf 0 = .ok (.aload_n 0, 1) := by decide +kernel
theorem dX9_penaltyOf_1 : decode cX9_penaltyOf 1 = .ok (.iload_n 1, 1) := by decide +kernel
theorem dX9_penaltyOf_2 : decode cX9_penaltyOf 2 = .ok (.iload_n 2, 1) := by decide +kernel
theorem dX9_penaltyOf_3 : decode cX9_penaltyOf 3 = .ok (.invokevirtual 205, 3) := by decide +kernel
theorem dX9_penaltyOf_6 : decode cX9_penaltyOf 6 = .ok (.ifCond .eq 7, 3) := by decide +kernel
theorem dX9_penaltyOf_9 : decode cX9_penaltyOf 9 = .ok (.iconst 0, 1) := by decide +kernel
theorem dX9_penaltyOf_10 : decode cX9_penaltyOf 10 = .ok (.goto 11, 3) := by decide +kernel
theorem dX9_penaltyOf_21 : decode cX9_penaltyOf 21 = .ok (.ireturn, 1) := by decide +kernel
theorem dX9_winner_0 : decode cX9_winner 0 = .ok (.aload_n 0, 1) := by decide +kernel
theorem dX9_winner_1 : decode cX9_winner 1 = .ok (.iload_n 1, 1) := by decide +kernel
theorem dX9_winner_2 : decode cX9_winner 2 = .ok (.iload_n 2, 1) := by decide +kernel
theorem dX9_winner_3 : decode cX9_winner 3 = .ok (.invokevirtual 205, 3) := by decide +kernel
theorem dX9_winner_6 : decode cX9_winner 6 = .ok (.ifCond .eq 8, 3) := by decide +kernel
theorem dX9_winner_9 : decode cX9_winner 9 = .ok (.bipush 32, 2) := by decide +kernel
theorem dX9_winner_11 : decode cX9_winner 11 = .ok (.goto 11, 3) := by decide +kernel
theorem dX9_winner_22 : decode cX9_winner 22 = .ok (.ireturn, 1) := by decide +kernel
theorem dX9_missing_0 : decode cX9_missing 0 = .ok (.aload_n 0, 1) := by decide +kernel
theorem dX9_missing_1 : decode cX9_missing 1 = .ok (.aload_n 0, 1) := by decide +kernel
theorem dX9_missing_2 : decode cX9_missing 2 = .ok (.getfield 114, 3) := by decide +kernel
theorem dX9_missing_5 : decode cX9_missing 5 = .ok (.ifCond .ne 7, 3) := by decide +kernel
theorem dX9_missing_8 : decode cX9_missing 8 = .ok (.iconst 1, 1) := by decide +kernel
theorem dX9_missing_9 : decode cX9_missing 9 = .ok (.goto 4, 3) := by decide +kernel
theorem dX9_missing_13 : decode cX9_missing 13 = .ok (.putfield 89, 3) := by decide +kernel
theorem dX9_missing_16 : decode cX9_missing 16 = .ok (.aload_n 0, 1) := by decide +kernel
theorem dX9_missing_17 : decode cX9_missing 17 = .ok (.getfield 89, 3) := by decide +kernel
theorem dX9_missing_20 : decode cX9_missing 20 = .ok (.ifCond .le 7, 3) := by decide +kernel
theorem dX9_missing_23 : decode cX9_missing 23 = .ok (.iconst 0, 1) := by decide +kernel
theorem dX9_missing_24 : decode cX9_missing 24 = .ok (.goto 13, 3) := by decide +kernel
theorem dX9_missing_37 : decode cX9_missing 37 = .ok (.ireturn, 1) := by decide +kernel
theorem dX9_nextRoom_0 : decode cX9_nextRoom 0 = .ok (.aload_n 0, 1) := by decide +kernel
theorem dX9_nextRoom_1 : decode cX9_nextRoom 1 = .ok (.aload_n 0, 1) := by decide +kernel
theorem dX9_nextRoom_2 : decode cX9_nextRoom 2 = .ok (.getfield 114, 3) := by decide +kernel
theorem dX9_nextRoom_5 : decode cX9_nextRoom 5 = .ok (.ifCond .ne 7, 3) := by decide +kernel
theorem dX9_nextRoom_8 : decode cX9_nextRoom 8 = .ok (.iconst 1, 1) := by decide +kernel
theorem dX9_nextRoom_9 : decode cX9_nextRoom 9 = .ok (.goto 4, 3) := by decide +kernel
theorem dX9_nextRoom_13 : decode cX9_nextRoom 13 = .ok (.putfield 89, 3) := by decide +kernel
theorem dX9_nextRoom_16 : decode cX9_nextRoom 16 = .ok (.aload_n 0, 1) := by decide +kernel
theorem dX9_nextRoom_17 : decode cX9_nextRoom 17 = .ok (.getfield 89, 3) := by decide +kernel
theorem dX9_nextRoom_20 : decode cX9_nextRoom 20 = .ok (.ifCond .le 5, 3) := by decide +kernel
theorem dX9_nextRoom_23 : decode cX9_nextRoom 23 = .ok (.iconst 0, 1) := by decide +kernel
theorem dX9_nextRoom_24 : decode cX9_nextRoom 24 = .ok (.ireturn, 1) := by decide +kernel
theorem dX9_noSpeaker_0 : decode cX9_noSpeaker 0 = .ok (.aload_n 0, 1) := by decide +kernel
theorem dX9_noSpeaker_1 : decode cX9_noSpeaker 1 = .ok (.aload_n 0, 1) := by decide +kernel
theorem dX9_noSpeaker_2 : decode cX9_noSpeaker 2 = .ok (.iload_n 1, 1) := by decide +kernel
theorem dX9_noSpeaker_3 : decode cX9_noSpeaker 3 = .ok (.invokevirtual 107, 3) := by decide +kernel
theorem dX9_noSpeaker_6 : decode cX9_noSpeaker 6 = .ok (.ifCond .ne 7, 3) := by decide +kernel
theorem dX9_noSpeaker_9 : decode cX9_noSpeaker 9 = .ok (.iconst 1, 1) := by decide +kernel
theorem dX9_noSpeaker_10 : decode cX9_noSpeaker 10 = .ok (.goto 17, 3) := by decide +kernel
theorem dX9_noSpeaker_27 : decode cX9_noSpeaker 27 = .ok (.putfield 89, 3) := by decide +kernel
theorem dX9_noSpeaker_30 : decode cX9_noSpeaker 30 = .ok (.aload_n 0, 1) := by decide +kernel
theorem dX9_noSpeaker_31 : decode cX9_noSpeaker 31 = .ok (.getfield 89, 3) := by decide +kernel
theorem dX9_noSpeaker_34 : decode cX9_noSpeaker 34 = .ok (.ifCond .le 7, 3) := by decide +kernel
theorem dX9_noSpeaker_37 : decode cX9_noSpeaker 37 = .ok (.iconst 1, 1) := by decide +kernel
theorem dX9_noSpeaker_38 : decode cX9_noSpeaker 38 = .ok (.goto 4, 3) := by decide +kernel
theorem dX9_noSpeaker_42 : decode cX9_noSpeaker 42 = .ok (.ireturn, 1) := by decide +kernel
theorem dX9_speeches_0 : decode cX9_speeches 0 = .ok (.aload_n 0, 1) := by decide +kernel
theorem dX9_speeches_1 : decode cX9_speeches 1 = .ok (.iload_n 1, 1) := by decide +kernel
theorem dX9_speeches_2 : decode cX9_speeches 2 = .ok (.iload_n 2, 1) := by decide +kernel
theorem dX9_speeches_3 : decode cX9_speeches 3 = .ok (.invokevirtual 208, 3) := by decide +kernel
theorem dX9_speeches_6 : decode cX9_speeches 6 = .ok (.ifCond .eq 7, 3) := by decide +kernel
theorem dX9_speeches_9 : decode cX9_speeches 9 = .ok (.iconst 0, 1) := by decide +kernel
theorem dX9_speeches_10 : decode cX9_speeches 10 = .ok (.goto 13, 3) := by decide +kernel
theorem dX9_speeches_23 : decode cX9_speeches 23 = .ok (.ireturn, 1) := by decide +kernel
theorem dX9_average_0 : decode cX9_average 0 = .ok (.aload_n 0, 1) := by decide +kernel
theorem dX9_average_1 : decode cX9_average 1 = .ok (.iload_n 1, 1) := by decide +kernel
theorem dX9_average_2 : decode cX9_average 2 = .ok (.iload_n 2, 1) := by decide +kernel
theorem dX9_average_3 : decode cX9_average 3 = .ok (.invokevirtual 208, 3) := by decide +kernel
theorem dX9_average_6 : decode cX9_average 6 = .ok (.ifCond .eq 5, 3) := by decide +kernel
theorem dX9_average_9 : decode cX9_average 9 = .ok (.fconst 0, 1) := by decide +kernel
theorem dX9_average_10 : decode cX9_average 10 = .ok (.freturn, 1) := by decide +kernel
theorem dX9_averageBits_0 : decode cX9_averageBits 0 = .ok (.aload_n 0, 1) := by decide +kernel
theorem dX9_averageBits_1 : decode cX9_averageBits 1 = .ok (.iload_n 1, 1) := by decide +kernel
theorem dX9_averageBits_2 : decode cX9_averageBits 2 = .ok (.iload_n 2, 1) := by decide +kernel
theorem dX9_averageBits_3 : decode cX9_averageBits 3 = .ok (.invokevirtual 215, 3) := by decide +kernel
theorem dX9_averageBits_6 : decode cX9_averageBits 6 = .ok (.fstore_n 3, 1) := by decide +kernel
theorem dX9_averageBits_7 : decode cX9_averageBits 7 = .ok (.aload_n 0, 1) := by decide +kernel
theorem dX9_averageBits_8 : decode cX9_averageBits 8 = .ok (.getfield 89, 3) := by decide +kernel
theorem dX9_averageBits_11 : decode cX9_averageBits 11 = .ok (.ifCond .le 7, 3) := by decide +kernel
theorem dX9_averageBits_14 : decode cX9_averageBits 14 = .ok (.iconst 0, 1) := by decide +kernel
theorem dX9_averageBits_15 : decode cX9_averageBits 15 = .ok (.goto 7, 3) := by decide +kernel
theorem dX9_averageBits_22 : decode cX9_averageBits 22 = .ok (.ireturn, 1) := by decide +kernel
theorem dX9_averageTenths_0 : decode cX9_averageTenths 0 = .ok (.aload_n 0, 1) := by decide +kernel
theorem dX9_averageTenths_1 : decode cX9_averageTenths 1 = .ok (.iload_n 1, 1) := by decide +kernel
theorem dX9_averageTenths_2 : decode cX9_averageTenths 2 = .ok (.iload_n 2, 1) := by decide +kernel
theorem dX9_averageTenths_3 : decode cX9_averageTenths 3 = .ok (.invokevirtual 215, 3) := by decide +kernel
theorem dX9_averageTenths_6 : decode cX9_averageTenths 6 = .ok (.fstore_n 3, 1) := by decide +kernel
theorem dX9_averageTenths_7 : decode cX9_averageTenths 7 = .ok (.aload_n 0, 1) := by decide +kernel
theorem dX9_averageTenths_8 : decode cX9_averageTenths 8 = .ok (.getfield 89, 3) := by decide +kernel
theorem dX9_averageTenths_11 : decode cX9_averageTenths 11 = .ok (.ifCond .le 7, 3) := by decide +kernel
theorem dX9_averageTenths_14 : decode cX9_averageTenths 14 = .ok (.iconst 0, 1) := by decide +kernel
theorem dX9_averageTenths_15 : decode cX9_averageTenths 15 = .ok (.goto 8, 3) := by decide +kernel
theorem dX9_averageTenths_23 : decode cX9_averageTenths 23 = .ok (.ireturn, 1) := by decide +kernel
theorem dX9_bestSpeaker_0 : decode cX9_bestSpeaker 0 = .ok (.iconst 0, 1) := by decide +kernel
theorem dX9_bestSpeaker_1 : decode cX9_bestSpeaker 1 = .ok (.istore_n 2, 1) := by decide +kernel
theorem dX9_bestSpeaker_2 : decode cX9_bestSpeaker 2 = .ok (.iload_n 2, 1) := by decide +kernel
theorem dX9_bestSpeaker_3 : decode cX9_bestSpeaker 3 = .ok (.iconst 2, 1) := by decide +kernel
theorem dX9_bestSpeaker_4 : decode cX9_bestSpeaker 4 = .ok (.aload_n 0, 1) := by decide +kernel
theorem dX9_bestSpeaker_5 : decode cX9_bestSpeaker 5 = .ok (.getfield 93, 3) := by decide +kernel
theorem dX9_bestSpeaker_8 : decode cX9_bestSpeaker 8 = .ok (.imul, 1) := by decide +kernel
theorem dX9_bestSpeaker_9 : decode cX9_bestSpeaker 9 = .ok (.if_icmp .ge 76, 3) := by decide +kernel
theorem dX9_bestSpeaker_85 : decode cX9_bestSpeaker 85 = .ok (.aload_n 0, 1) := by decide +kernel
theorem dX9_bestSpeaker_86 : decode cX9_bestSpeaker 86 = .ok (.iconst 1, 1) := by decide +kernel
theorem dX9_bestSpeaker_87 : decode cX9_bestSpeaker 87 = .ok (.invokevirtual 175, 3) := by decide +kernel
theorem dX9_bestSpeaker_90 : decode cX9_bestSpeaker 90 = .ok (.ireturn, 1) := by decide +kernel
theorem dX9_breaks_0 : decode cX9_breaks 0 = .ok (.iload_n 2, 1) := by decide +kernel
theorem dX9_breaks_1 : decode cX9_breaks 1 = .ok (.iconst 2, 1) := by decide +kernel
theorem dX9_breaks_2 : decode cX9_breaks 2 = .ok (.if_icmp .eq 20, 3) := by decide +kernel
theorem dX9_breaks_5 : decode cX9_breaks 5 = .ok (.iload_n 2, 1) := by decide +kernel
theorem dX9_breaks_6 : decode cX9_breaks 6 = .ok (.iconst 4, 1) := by decide +kernel
theorem dX9_breaks_7 : decode cX9_breaks 7 = .ok (.if_icmp .eq 15, 3) := by decide +kernel
theorem dX9_breaks_10 : decode cX9_breaks 10 = .ok (.iload_n 2, 1) := by decide +kernel
theorem dX9_breaks_11 : decode cX9_breaks 11 = .ok (.bipush 8, 2) := by decide +kernel
theorem dX9_breaks_13 : decode cX9_breaks 13 = .ok (.if_icmp .eq 9, 3) := by decide +kernel
theorem dX9_breaks_16 : decode cX9_breaks 16 = .ok (.aload_n 0, 1) := by decide +kernel
theorem dX9_breaks_17 : decode cX9_breaks 17 = .ok (.iconst 1, 1) := by decide +kernel
theorem dX9_breaks_18 : decode cX9_breaks 18 = .ok (.invokevirtual 175, 3) := by decide +kernel
theorem dX9_breaks_21 : decode cX9_breaks 21 = .ok (.ireturn, 1) := by decide +kernel
theorem dX9_breaks_22 : decode cX9_breaks 22 = .ok (.bipush 6, 2) := by decide +kernel
theorem dX9_breaks_24 : decode cX9_breaks 24 = .ok (.newarray .int, 2) := by decide +kernel
theorem dX9_breaks_26 : decode cX9_breaks 26 = .ok (.astore_n 3, 1) := by decide +kernel
theorem dX9_breaks_27 : decode cX9_breaks 27 = .ok (.iconst 0, 1) := by decide +kernel
theorem dX9_breaks_28 : decode cX9_breaks 28 = .ok (.istore 4, 2) := by decide +kernel
theorem dX9_breaks_30 : decode cX9_breaks 30 = .ok (.iconst 0, 1) := by decide +kernel
theorem dX9_breaks_31 : decode cX9_breaks 31 = .ok (.istore 5, 2) := by decide +kernel
theorem dX9_breaks_33 : decode cX9_breaks 33 = .ok (.iload 5, 2) := by decide +kernel
theorem dX9_breaks_35 : decode cX9_breaks 35 = .ok (.aload_n 0, 1) := by decide +kernel
theorem dX9_breaks_36 : decode cX9_breaks 36 = .ok (.getfield 93, 3) := by decide +kernel
theorem dX9_breaks_39 : decode cX9_breaks 39 = .ok (.if_icmp .ge 72, 3) := by decide +kernel
theorem dX9_breaks_111 : decode cX9_breaks 111 = .ok (.aload_n 0, 1) := by decide +kernel
theorem dX9_breaks_112 : decode cX9_breaks 112 = .ok (.iconst 2, 1) := by decide +kernel
theorem dX9_breaks_113 : decode cX9_breaks 113 = .ok (.invokevirtual 175, 3) := by decide +kernel
theorem dX9_breaks_116 : decode cX9_breaks 116 = .ok (.ireturn, 1) := by decide +kernel
theorem dX9_people_0 : decode cX9_people 0 = .ok (.aload_n 0, 1) := by decide +kernel
theorem dX9_people_1 : decode cX9_people 1 = .ok (.iload_n 1, 1) := by decide +kernel
theorem dX9_people_2 : decode cX9_people 2 = .ok (.bipush 116, 2) := by decide +kernel
theorem dX9_people_4 : decode cX9_people 4 = .ok (.if_icmp .eq 9, 3) := by decide +kernel
theorem dX9_people_7 : decode cX9_people 7 = .ok (.iload_n 1, 1) := by decide +kernel
theorem dX9_people_8 : decode cX9_people 8 = .ok (.bipush 106, 2) := by decide +kernel
theorem dX9_people_10 : decode cX9_people 10 = .ok (.if_icmp .ne 7, 3) := by decide +kernel
theorem dX9_people_13 : decode cX9_people 13 = .ok (.iconst 0, 1) := by decide +kernel
theorem dX9_people_14 : decode cX9_people 14 = .ok (.goto 4, 3) := by decide +kernel
theorem dX9_people_17 : decode cX9_people 17 = .ok (.iconst 1, 1) := by decide +kernel
theorem dX9_people_18 : decode cX9_people 18 = .ok (.putfield 89, 3) := by decide +kernel
theorem dX9_people_21 : decode cX9_people 21 = .ok (.aload_n 0, 1) := by decide +kernel
theorem dX9_people_22 : decode cX9_people 22 = .ok (.getfield 89, 3) := by decide +kernel
theorem dX9_people_25 : decode cX9_people 25 = .ok (.ifCond .le 7, 3) := by decide +kernel
theorem dX9_people_28 : decode cX9_people 28 = .ok (.iconst 0, 1) := by decide +kernel
theorem dX9_people_29 : decode cX9_people 29 = .ok (.goto 20, 3) := by decide +kernel
theorem dX9_people_32 : decode cX9_people 32 = .ok (.iload_n 1, 1) := by decide +kernel
theorem dX9_people_33 : decode cX9_people 33 = .ok (.bipush 116, 2) := by decide +kernel
theorem dX9_people_35 : decode cX9_people 35 = .ok (.if_icmp .ne 10, 3) := by decide +kernel
theorem dX9_people_38 : decode cX9_people 38 = .ok (.aload_n 0, 1) := by decide +kernel
theorem dX9_people_39 : decode cX9_people 39 = .ok (.getfield 93, 3) := by decide +kernel
theorem dX9_people_42 : decode cX9_people 42 = .ok (.goto 7, 3) := by decide +kernel
theorem dX9_people_45 : decode cX9_people 45 = .ok (.aload_n 0, 1) := by decide +kernel
theorem dX9_people_46 : decode cX9_people 46 = .ok (.getfield 100, 3) := by decide +kernel
theorem dX9_people_49 : decode cX9_people 49 = .ok (.ireturn, 1) := by decide +kernel
theorem dX9_scores_0 : decode cX9_scores 0 = .ok (.aload_n 0, 1) := by decide +kernel
theorem dX9_scores_1 : decode cX9_scores 1 = .ok (.iconst 0, 1) := by decide +kernel
theorem dX9_scores_2 : decode cX9_scores 2 = .ok (.putfield 89, 3) := by decide +kernel
theorem dX9_scores_5 : decode cX9_scores 5 = .ok (.aload_n 0, 1) := by decide +kernel
theorem dX9_scores_6 : decode cX9_scores 6 = .ok (.getfield 178, 3) := by decide +kernel
theorem dX9_scores_9 : decode cX9_scores 9 = .ok (.lreturn, 1) := by decide +kernel
theorem dX9_meanPenalty_0 : decode cX9_meanPenalty 0 = .ok (.iconst 0, 1) := by decide +kernel
theorem dX9_meanPenalty_1 : decode cX9_meanPenalty 1 = .ok (.istore_n 1, 1) := by decide +kernel
theorem dX9_meanPenalty_2 : decode cX9_meanPenalty 2 = .ok (.iconst 0, 1) := by decide +kernel
theorem dX9_meanPenalty_3 : decode cX9_meanPenalty 3 = .ok (.istore_n 2, 1) := by decide +kernel
theorem dX9_meanPenalty_4 : decode cX9_meanPenalty 4 = .ok (.iconst 0, 1) := by decide +kernel
theorem dX9_meanPenalty_5 : decode cX9_meanPenalty 5 = .ok (.istore_n 3, 1) := by decide +kernel
theorem dX9_meanPenalty_6 : decode cX9_meanPenalty 6 = .ok (.iload_n 3, 1) := by decide +kernel
theorem dX9_meanPenalty_7 : decode cX9_meanPenalty 7 = .ok (.aload_n 0, 1) := by decide +kernel
theorem dX9_meanPenalty_8 : decode cX9_meanPenalty 8 = .ok (.getfield 114, 3) := by decide +kernel
theorem dX9_meanPenalty_11 : decode cX9_meanPenalty 11 = .ok (.if_icmp .ge 44, 3) := by decide +kernel
theorem dX9_meanPenalty_55 : decode cX9_meanPenalty 55 = .ok (.aload_n 0, 1) := by decide +kernel
theorem dX9_meanPenalty_56 : decode cX9_meanPenalty 56 = .ok (.iload_n 2, 1) := by decide +kernel
theorem dX9_meanPenalty_57 : decode cX9_meanPenalty 57 = .ok (.ifCond .ne 7, 3) := by decide +kernel
theorem dX9_meanPenalty_60 : decode cX9_meanPenalty 60 = .ok (.iconst 1, 1) := by decide +kernel
theorem dX9_meanPenalty_61 : decode cX9_meanPenalty 61 = .ok (.goto 4, 3) := by decide +kernel
theorem dX9_meanPenalty_65 : decode cX9_meanPenalty 65 = .ok (.putfield 89, 3) := by decide +kernel
theorem dX9_meanPenalty_68 : decode cX9_meanPenalty 68 = .ok (.aload_n 0, 1) := by decide +kernel
theorem dX9_meanPenalty_69 : decode cX9_meanPenalty 69 = .ok (.getfield 89, 3) := by decide +kernel
theorem dX9_meanPenalty_72 : decode cX9_meanPenalty 72 = .ok (.ifCond .le 7, 3) := by decide +kernel
theorem dX9_meanPenalty_75 : decode cX9_meanPenalty 75 = .ok (.dconst 0, 1) := by decide +kernel
theorem dX9_meanPenalty_76 : decode cX9_meanPenalty 76 = .ok (.goto 8, 3) := by decide +kernel
theorem dX9_meanPenalty_84 : decode cX9_meanPenalty 84 = .ok (.dreturn, 1) := by decide +kernel
theorem dJ7_fill_53178_0 : decode cJ7_fill_53178 0 = .ok (.iconst 0, 1) := by decide +kernel
theorem dJ7_fill_53178_1 : decode cJ7_fill_53178 1 = .ok (.istore_n 2, 1) := by decide +kernel
theorem dJ7_fill_53178_2 : decode cJ7_fill_53178 2 = .ok (.aload_n 0, 1) := by decide +kernel
theorem dJ7_fill_53178_3 : decode cJ7_fill_53178 3 = .ok (.arraylength, 1) := by decide +kernel
theorem dJ7_fill_53178_4 : decode cJ7_fill_53178 4 = .ok (.istore_n 3, 1) := by decide +kernel
theorem dJ7_fill_53178_5 : decode cJ7_fill_53178 5 = .ok (.iload_n 2, 1) := by decide +kernel
theorem dJ7_fill_53178_6 : decode cJ7_fill_53178 6 = .ok (.iload_n 3, 1) := by decide +kernel
theorem dJ7_fill_53178_7 : decode cJ7_fill_53178 7 = .ok (.if_icmp .ge 13, 3) := by decide +kernel
theorem dJ7_fill_53178_10 : decode cJ7_fill_53178 10 = .ok (.aload_n 0, 1) := by decide +kernel
theorem dJ7_fill_53178_11 : decode cJ7_fill_53178 11 = .ok (.iload_n 2, 1) := by decide +kernel
theorem dJ7_fill_53178_12 : decode cJ7_fill_53178 12 = .ok (.iload_n 1, 1) := by decide +kernel
theorem dJ7_fill_53178_13 : decode cJ7_fill_53178 13 = .ok (.iastore, 1) := by decide +kernel
theorem dJ7_fill_53178_14 : decode cJ7_fill_53178 14 = .ok (.iinc 2 1, 3) := by decide +kernel
theorem dJ7_fill_53178_17 : decode cJ7_fill_53178 17 = .ok (.goto (-12), 3) := by decide +kernel
theorem dJ7_fill_53178_20 : decode cJ7_fill_53178 20 = .ok (.return_, 1) := by decide +kernel
theorem dL_addTeam_0 : decode cL_addTeam 0 = .ok (.aload_n 2, 1) := by decide +kernel
theorem dL_addTeam_1 : decode cL_addTeam 1 = .ok (.iconst 0, 1) := by decide +kernel
theorem dL_addTeam_2 : decode cL_addTeam 2 = .ok (.aload_n 0, 1) := by decide +kernel
theorem dL_addTeam_3 : decode cL_addTeam 3 = .ok (.iload_n 1, 1) := by decide +kernel
theorem dL_addTeam_4 : decode cL_addTeam 4 = .ok (.invokevirtual 7, 3) := by decide +kernel
theorem dL_addTeam_7 : decode cL_addTeam 7 = .ok (.i2l, 1) := by decide +kernel
theorem dL_addTeam_8 : decode cL_addTeam 8 = .ok (.lastore, 1) := by decide +kernel
theorem dL_addTeam_9 : decode cL_addTeam 9 = .ok (.goto 9, 3) := by decide +kernel
theorem dL_addTeam_12 : decode cL_addTeam 12 = .ok (.astore_n 3, 1) := by decide +kernel
theorem dL_addTeam_13 : decode cL_addTeam 13 = .ok (.iconst 1, 1) := by decide +kernel
theorem dL_addTeam_14 : decode cL_addTeam 14 = .ok (.ireturn, 1) := by decide +kernel
theorem dL_addTeam_18 : decode cL_addTeam 18 = .ok (.iconst 0, 1) := by decide +kernel
theorem dL_addTeam_19 : decode cL_addTeam 19 = .ok (.ireturn, 1) := by decide +kernel
theorem dL_addJudge_0 : decode cL_addJudge 0 = .ok (.aload_n 3, 1) := by decide +kernel
theorem dL_addJudge_1 : decode cL_addJudge 1 = .ok (.iconst 0, 1) := by decide +kernel
theorem dL_addJudge_2 : decode cL_addJudge 2 = .ok (.aload_n 0, 1) := by decide +kernel
theorem dL_addJudge_3 : decode cL_addJudge 3 = .ok (.iload_n 1, 1) := by decide +kernel
theorem dL_addJudge_4 : decode cL_addJudge 4 = .ok (.iload_n 2, 1) := by decide +kernel
theorem dL_addJudge_5 : decode cL_addJudge 5 = .ok (.invokevirtual 17, 3) := by decide +kernel
theorem dL_addJudge_8 : decode cL_addJudge 8 = .ok (.i2l, 1) := by decide +kernel
theorem dL_addJudge_9 : decode cL_addJudge 9 = .ok (.lastore, 1) := by decide +kernel
theorem dL_addJudge_10 : decode cL_addJudge 10 = .ok (.goto 11, 3) := by decide +kernel
theorem dL_addJudge_13 : decode cL_addJudge 13 = .ok (.astore 4, 2) := by decide +kernel
theorem dL_addJudge_15 : decode cL_addJudge 15 = .ok (.iconst 1, 1) := by decide +kernel
theorem dL_addJudge_16 : decode cL_addJudge 16 = .ok (.ireturn, 1) := by decide +kernel
theorem dL_addJudge_21 : decode cL_addJudge 21 = .ok (.iconst 0, 1) := by decide +kernel
theorem dL_addJudge_22 : decode cL_addJudge 22 = .ok (.ireturn, 1) := by decide +kernel
theorem dL_addConflict_0 : decode cL_addConflict 0 = .ok (.aload_n 3, 1) := by decide +kernel
theorem dL_addConflict_1 : decode cL_addConflict 1 = .ok (.iconst 0, 1) := by decide +kernel
theorem dL_addConflict_2 : decode cL_addConflict 2 = .ok (.aload_n 0, 1) := by decide +kernel
theorem dL_addConflict_3 : decode cL_addConflict 3 = .ok (.iload_n 1, 1) := by decide +kernel
theorem dL_addConflict_4 : decode cL_addConflict 4 = .ok (.iload_n 2, 1) := by decide +kernel
theorem dL_addConflict_5 : decode cL_addConflict 5 = .ok (.invokevirtual 21, 3) := by decide +kernel
theorem dL_addConflict_13 : decode cL_addConflict 13 = .ok (.astore 4, 2) := by decide +kernel
theorem dL_addConflict_15 : decode cL_addConflict 15 = .ok (.iconst 1, 1) := by decide +kernel
theorem dL_addConflict_16 : decode cL_addConflict 16 = .ok (.ireturn, 1) := by decide +kernel
theorem dL_setPresent_0 : decode cL_setPresent 0 = .ok (.aload_n 3, 1) := by decide +kernel
theorem dL_setPresent_1 : decode cL_setPresent 1 = .ok (.iconst 0, 1) := by decide +kernel
theorem dL_setPresent_2 : decode cL_setPresent 2 = .ok (.aload_n 0, 1) := by decide +kernel
theorem dL_setPresent_3 : decode cL_setPresent 3 = .ok (.iload_n 1, 1) := by decide +kernel
theorem dL_setPresent_4 : decode cL_setPresent 4 = .ok (.iload_n 2, 1) := by decide +kernel
theorem dL_setPresent_5 : decode cL_setPresent 5 = .ok (.invokevirtual 26, 3) := by decide +kernel
theorem dL_setPresent_20 : decode cL_setPresent 20 = .ok (.astore 4, 2) := by decide +kernel
theorem dL_setPresent_22 : decode cL_setPresent 22 = .ok (.iconst 1, 1) := by decide +kernel
theorem dL_setPresent_23 : decode cL_setPresent 23 = .ok (.ireturn, 1) := by decide +kernel
theorem dL_setIron_0 : decode cL_setIron 0 = .ok (.aload_n 3, 1) := by decide +kernel
theorem dL_setIron_1 : decode cL_setIron 1 = .ok (.iconst 0, 1) := by decide +kernel
theorem dL_setIron_2 : decode cL_setIron 2 = .ok (.aload_n 0, 1) := by decide +kernel
theorem dL_setIron_3 : decode cL_setIron 3 = .ok (.iload_n 1, 1) := by decide +kernel
theorem dL_setIron_4 : decode cL_setIron 4 = .ok (.iload_n 2, 1) := by decide +kernel
theorem dL_setIron_5 : decode cL_setIron 5 = .ok (.invokevirtual 30, 3) := by decide +kernel
theorem dL_setIron_13 : decode cL_setIron 13 = .ok (.astore 4, 2) := by decide +kernel
theorem dL_setIron_15 : decode cL_setIron 15 = .ok (.iconst 1, 1) := by decide +kernel
theorem dL_setIron_16 : decode cL_setIron 16 = .ok (.ireturn, 1) := by decide +kernel
theorem dL_draw_0 : decode cL_draw 0 = .ok (.aload_n 1, 1) := by decide +kernel
theorem dL_draw_1 : decode cL_draw 1 = .ok (.iconst 0, 1) := by decide +kernel
theorem dL_draw_2 : decode cL_draw 2 = .ok (.aload_n 0, 1) := by decide +kernel
theorem dL_draw_3 : decode cL_draw 3 = .ok (.invokevirtual 33, 3) := by decide +kernel
theorem dL_draw_11 : decode cL_draw 11 = .ok (.astore_n 2, 1) := by decide +kernel
theorem dL_draw_12 : decode cL_draw 12 = .ok (.iconst 1, 1) := by decide +kernel
theorem dL_draw_13 : decode cL_draw 13 = .ok (.ireturn, 1) := by decide +kernel
theorem dL_ballot_0 : decode cL_ballot 0 = .ok (.aload 6, 2) := by decide +kernel
theorem dL_ballot_2 : decode cL_ballot 2 = .ok (.iconst 0, 1) := by decide +kernel
theorem dL_ballot_3 : decode cL_ballot 3 = .ok (.aload_n 0, 1) := by decide +kernel
theorem dL_ballot_4 : decode cL_ballot 4 = .ok (.iload_n 1, 1) := by decide +kernel
theorem dL_ballot_5 : decode cL_ballot 5 = .ok (.iload_n 2, 1) := by decide +kernel
theorem dL_ballot_6 : decode cL_ballot 6 = .ok (.iload_n 3, 1) := by decide +kernel
theorem dL_ballot_7 : decode cL_ballot 7 = .ok (.iload 4, 2) := by decide +kernel
theorem dL_ballot_9 : decode cL_ballot 9 = .ok (.iload 5, 2) := by decide +kernel
theorem dL_ballot_11 : decode cL_ballot 11 = .ok (.invokevirtual 39, 3) := by decide +kernel
theorem dL_ballot_19 : decode cL_ballot 19 = .ok (.astore 7, 2) := by decide +kernel
theorem dL_ballot_21 : decode cL_ballot 21 = .ok (.iconst 1, 1) := by decide +kernel
theorem dL_ballot_22 : decode cL_ballot 22 = .ok (.ireturn, 1) := by decide +kernel
theorem dL_swap_0 : decode cL_swap 0 = .ok (.aload_n 3, 1) := by decide +kernel
theorem dL_swap_1 : decode cL_swap 1 = .ok (.iconst 0, 1) := by decide +kernel
theorem dL_swap_2 : decode cL_swap 2 = .ok (.aload_n 0, 1) := by decide +kernel
theorem dL_swap_3 : decode cL_swap 3 = .ok (.iload_n 1, 1) := by decide +kernel
theorem dL_swap_4 : decode cL_swap 4 = .ok (.iload_n 2, 1) := by decide +kernel
theorem dL_swap_5 : decode cL_swap 5 = .ok (.invokevirtual 43, 3) := by decide +kernel
theorem dL_swap_13 : decode cL_swap 13 = .ok (.astore 4, 2) := by decide +kernel
theorem dL_swap_15 : decode cL_swap 15 = .ok (.iconst 1, 1) := by decide +kernel
theorem dL_swap_16 : decode cL_swap 16 = .ok (.ireturn, 1) := by decide +kernel
theorem dL_schoolOf_0 : decode cL_schoolOf 0 = .ok (.aload_n 2, 1) := by decide +kernel
theorem dL_schoolOf_1 : decode cL_schoolOf 1 = .ok (.iconst 0, 1) := by decide +kernel
theorem dL_schoolOf_2 : decode cL_schoolOf 2 = .ok (.aload_n 0, 1) := by decide +kernel
theorem dL_schoolOf_3 : decode cL_schoolOf 3 = .ok (.iload_n 1, 1) := by decide +kernel
theorem dL_schoolOf_4 : decode cL_schoolOf 4 = .ok (.invokevirtual 46, 3) := by decide +kernel
theorem dL_schoolOf_12 : decode cL_schoolOf 12 = .ok (.astore_n 3, 1) := by decide +kernel
theorem dL_schoolOf_13 : decode cL_schoolOf 13 = .ok (.iconst 1, 1) := by decide +kernel
theorem dL_schoolOf_14 : decode cL_schoolOf 14 = .ok (.ireturn, 1) := by decide +kernel
theorem dL_isPresent_0 : decode cL_isPresent 0 = .ok (.aload_n 2, 1) := by decide +kernel
theorem dL_isPresent_1 : decode cL_isPresent 1 = .ok (.iconst 0, 1) := by decide +kernel
theorem dL_isPresent_2 : decode cL_isPresent 2 = .ok (.aload_n 0, 1) := by decide +kernel
theorem dL_isPresent_3 : decode cL_isPresent 3 = .ok (.iload_n 1, 1) := by decide +kernel
theorem dL_isPresent_4 : decode cL_isPresent 4 = .ok (.invokevirtual 49, 3) := by decide +kernel
theorem dL_isPresent_19 : decode cL_isPresent 19 = .ok (.astore_n 3, 1) := by decide +kernel
theorem dL_isPresent_20 : decode cL_isPresent 20 = .ok (.iconst 1, 1) := by decide +kernel
theorem dL_isPresent_21 : decode cL_isPresent 21 = .ok (.ireturn, 1) := by decide +kernel
theorem dL_mayJudge_0 : decode cL_mayJudge 0 = .ok (.aload_n 3, 1) := by decide +kernel
theorem dL_mayJudge_1 : decode cL_mayJudge 1 = .ok (.iconst 0, 1) := by decide +kernel
theorem dL_mayJudge_2 : decode cL_mayJudge 2 = .ok (.aload_n 0, 1) := by decide +kernel
theorem dL_mayJudge_3 : decode cL_mayJudge 3 = .ok (.iload_n 1, 1) := by decide +kernel
theorem dL_mayJudge_4 : decode cL_mayJudge 4 = .ok (.iload_n 2, 1) := by decide +kernel
theorem dL_mayJudge_5 : decode cL_mayJudge 5 = .ok (.invokevirtual 53, 3) := by decide +kernel
theorem dL_mayJudge_20 : decode cL_mayJudge 20 = .ok (.astore 4, 2) := by decide +kernel
theorem dL_mayJudge_22 : decode cL_mayJudge 22 = .ok (.iconst 1, 1) := by decide +kernel
theorem dL_mayJudge_23 : decode cL_mayJudge 23 = .ok (.ireturn, 1) := by decide +kernel
theorem dL_conflicts_0 : decode cL_conflicts 0 = .ok (.aload_n 2, 1) := by decide +kernel
theorem dL_conflicts_1 : decode cL_conflicts 1 = .ok (.iconst 0, 1) := by decide +kernel
theorem dL_conflicts_2 : decode cL_conflicts 2 = .ok (.aload_n 0, 1) := by decide +kernel
theorem dL_conflicts_3 : decode cL_conflicts 3 = .ok (.iload_n 1, 1) := by decide +kernel
theorem dL_conflicts_4 : decode cL_conflicts 4 = .ok (.invokevirtual 57, 3) := by decide +kernel
theorem dL_conflicts_12 : decode cL_conflicts 12 = .ok (.astore_n 3, 1) := by decide +kernel
theorem dL_conflicts_13 : decode cL_conflicts 13 = .ok (.iconst 1, 1) := by decide +kernel
theorem dL_conflicts_14 : decode cL_conflicts 14 = .ok (.ireturn, 1) := by decide +kernel
theorem dL_wins_0 : decode cL_wins 0 = .ok (.aload_n 2, 1) := by decide +kernel
theorem dL_wins_1 : decode cL_wins 1 = .ok (.iconst 0, 1) := by decide +kernel
theorem dL_wins_2 : decode cL_wins 2 = .ok (.aload_n 0, 1) := by decide +kernel
theorem dL_wins_3 : decode cL_wins 3 = .ok (.iload_n 1, 1) := by decide +kernel
theorem dL_wins_4 : decode cL_wins 4 = .ok (.invokevirtual 60, 3) := by decide +kernel
theorem dL_wins_12 : decode cL_wins 12 = .ok (.astore_n 3, 1) := by decide +kernel
theorem dL_wins_13 : decode cL_wins 13 = .ok (.iconst 1, 1) := by decide +kernel
theorem dL_wins_14 : decode cL_wins 14 = .ok (.ireturn, 1) := by decide +kernel
theorem dL_points_0 : decode cL_points 0 = .ok (.aload_n 2, 1) := by decide +kernel
theorem dL_points_1 : decode cL_points 1 = .ok (.iconst 0, 1) := by decide +kernel
theorem dL_points_2 : decode cL_points 2 = .ok (.aload_n 0, 1) := by decide +kernel
theorem dL_points_3 : decode cL_points 3 = .ok (.iload_n 1, 1) := by decide +kernel
theorem dL_points_4 : decode cL_points 4 = .ok (.invokevirtual 63, 3) := by decide +kernel
theorem dL_points_12 : decode cL_points 12 = .ok (.astore_n 3, 1) := by decide +kernel
theorem dL_points_13 : decode cL_points 13 = .ok (.iconst 1, 1) := by decide +kernel
theorem dL_points_14 : decode cL_points 14 = .ok (.ireturn, 1) := by decide +kernel
theorem dL_strength_0 : decode cL_strength 0 = .ok (.aload_n 2, 1) := by decide +kernel
theorem dL_strength_1 : decode cL_strength 1 = .ok (.iconst 0, 1) := by decide +kernel
theorem dL_strength_2 : decode cL_strength 2 = .ok (.aload_n 0, 1) := by decide +kernel
theorem dL_strength_3 : decode cL_strength 3 = .ok (.iload_n 1, 1) := by decide +kernel
theorem dL_strength_4 : decode cL_strength 4 = .ok (.invokevirtual 66, 3) := by decide +kernel
theorem dL_strength_12 : decode cL_strength 12 = .ok (.astore_n 3, 1) := by decide +kernel
theorem dL_strength_13 : decode cL_strength 13 = .ok (.iconst 1, 1) := by decide +kernel
theorem dL_strength_14 : decode cL_strength 14 = .ok (.ireturn, 1) := by decide +kernel
theorem dL_standing_0 : decode cL_standing 0 = .ok (.aload_n 2, 1) := by decide +kernel
theorem dL_standing_1 : decode cL_standing 1 = .ok (.iconst 0, 1) := by decide +kernel
theorem dL_standing_2 : decode cL_standing 2 = .ok (.aload_n 0, 1) := by decide +kernel
theorem dL_standing_3 : decode cL_standing 3 = .ok (.iload_n 1, 1) := by decide +kernel
theorem dL_standing_4 : decode cL_standing 4 = .ok (.invokevirtual 69, 3) := by decide +kernel
theorem dL_standing_12 : decode cL_standing 12 = .ok (.astore_n 3, 1) := by decide +kernel
theorem dL_standing_13 : decode cL_standing 13 = .ok (.iconst 1, 1) := by decide +kernel
theorem dL_standing_14 : decode cL_standing 14 = .ok (.ireturn, 1) := by decide +kernel
theorem dL_met_0 : decode cL_met 0 = .ok (.aload_n 3, 1) := by decide +kernel
theorem dL_met_1 : decode cL_met 1 = .ok (.iconst 0, 1) := by decide +kernel
theorem dL_met_2 : decode cL_met 2 = .ok (.aload_n 0, 1) := by decide +kernel
theorem dL_met_3 : decode cL_met 3 = .ok (.iload_n 1, 1) := by decide +kernel
theorem dL_met_4 : decode cL_met 4 = .ok (.iload_n 2, 1) := by decide +kernel
theorem dL_met_5 : decode cL_met 5 = .ok (.invokevirtual 74, 3) := by decide +kernel
theorem dL_met_13 : decode cL_met 13 = .ok (.astore 4, 2) := by decide +kernel
theorem dL_met_15 : decode cL_met 15 = .ok (.iconst 1, 1) := by decide +kernel
theorem dL_met_16 : decode cL_met 16 = .ok (.ireturn, 1) := by decide +kernel
theorem dL_proposed_0 : decode cL_proposed 0 = .ok (.aload_n 2, 1) := by decide +kernel
theorem dL_proposed_1 : decode cL_proposed 1 = .ok (.iconst 0, 1) := by decide +kernel
theorem dL_proposed_2 : decode cL_proposed 2 = .ok (.aload_n 0, 1) := by decide +kernel
theorem dL_proposed_3 : decode cL_proposed 3 = .ok (.iload_n 1, 1) := by decide +kernel
theorem dL_proposed_4 : decode cL_proposed 4 = .ok (.invokevirtual 77, 3) := by decide +kernel
theorem dL_proposed_12 : decode cL_proposed 12 = .ok (.astore_n 3, 1) := by decide +kernel
theorem dL_proposed_13 : decode cL_proposed 13 = .ok (.iconst 1, 1) := by decide +kernel
theorem dL_proposed_14 : decode cL_proposed 14 = .ok (.ireturn, 1) := by decide +kernel
theorem dL_bracketSize_0 : decode cL_bracketSize 0 = .ok (.aload_n 2, 1) := by decide +kernel
theorem dL_bracketSize_1 : decode cL_bracketSize 1 = .ok (.iconst 0, 1) := by decide +kernel
theorem dL_bracketSize_2 : decode cL_bracketSize 2 = .ok (.aload_n 0, 1) := by decide +kernel
theorem dL_bracketSize_3 : decode cL_bracketSize 3 = .ok (.iload_n 1, 1) := by decide +kernel
theorem dL_bracketSize_4 : decode cL_bracketSize 4 = .ok (.invokevirtual 80, 3) := by decide +kernel
theorem dL_bracketSize_12 : decode cL_bracketSize 12 = .ok (.astore_n 3, 1) := by decide +kernel
theorem dL_bracketSize_13 : decode cL_bracketSize 13 = .ok (.iconst 1, 1) := by decide +kernel
theorem dL_bracketSize_14 : decode cL_bracketSize 14 = .ok (.ireturn, 1) := by decide +kernel
theorem dL_bracketAt_0 : decode cL_bracketAt 0 = .ok (.aload_n 3, 1) := by decide +kernel
theorem dL_bracketAt_1 : decode cL_bracketAt 1 = .ok (.iconst 0, 1) := by decide +kernel
theorem dL_bracketAt_2 : decode cL_bracketAt 2 = .ok (.aload_n 0, 1) := by decide +kernel
theorem dL_bracketAt_3 : decode cL_bracketAt 3 = .ok (.iload_n 1, 1) := by decide +kernel
theorem dL_bracketAt_4 : decode cL_bracketAt 4 = .ok (.iload_n 2, 1) := by decide +kernel
theorem dL_bracketAt_5 : decode cL_bracketAt 5 = .ok (.invokevirtual 83, 3) := by decide +kernel
theorem dL_bracketAt_13 : decode cL_bracketAt 13 = .ok (.astore 4, 2) := by decide +kernel
theorem dL_bracketAt_15 : decode cL_bracketAt 15 = .ok (.iconst 1, 1) := by decide +kernel
theorem dL_bracketAt_16 : decode cL_bracketAt 16 = .ok (.ireturn, 1) := by decide +kernel
theorem dL_leastPenalty_0 : decode cL_leastPenalty 0 = .ok (.aload_n 2, 1) := by decide +kernel
theorem dL_leastPenalty_1 : decode cL_leastPenalty 1 = .ok (.iconst 0, 1) := by decide +kernel
theorem dL_leastPenalty_2 : decode cL_leastPenalty 2 = .ok (.aload_n 0, 1) := by decide +kernel
theorem dL_leastPenalty_3 : decode cL_leastPenalty 3 = .ok (.iload_n 1, 1) := by decide +kernel
theorem dL_leastPenalty_4 : decode cL_leastPenalty 4 = .ok (.invokevirtual 86, 3) := by decide +kernel
theorem dL_leastPenalty_12 : decode cL_leastPenalty 12 = .ok (.astore_n 3, 1) := by decide +kernel
theorem dL_leastPenalty_13 : decode cL_leastPenalty 13 = .ok (.iconst 1, 1) := by decide +kernel
theorem dL_leastPenalty_14 : decode cL_leastPenalty 14 = .ok (.ireturn, 1) := by decide +kernel
theorem dL_leastByTrying_0 : decode cL_leastByTrying 0 = .ok (.aload_n 2, 1) := by decide +kernel
theorem dL_leastByTrying_1 : decode cL_leastByTrying 1 = .ok (.iconst 0, 1) := by decide +kernel
theorem dL_leastByTrying_2 : decode cL_leastByTrying 2 = .ok (.aload_n 0, 1) := by decide +kernel
theorem dL_leastByTrying_3 : decode cL_leastByTrying 3 = .ok (.iload_n 1, 1) := by decide +kernel
theorem dL_leastByTrying_4 : decode cL_leastByTrying 4 = .ok (.invokevirtual 89, 3) := by decide +kernel
theorem dL_leastByTrying_12 : decode cL_leastByTrying 12 = .ok (.astore_n 3, 1) := by decide +kernel
theorem dL_leastByTrying_13 : decode cL_leastByTrying 13 = .ok (.iconst 1, 1) := by decide +kernel
theorem dL_leastByTrying_14 : decode cL_leastByTrying 14 = .ok (.ireturn, 1) := by decide +kernel
theorem dL_opponent_0 : decode cL_opponent 0 = .ok (.aload_n 3, 1) := by decide +kernel
theorem dL_opponent_1 : decode cL_opponent 1 = .ok (.iconst 0, 1) := by decide +kernel
theorem dL_opponent_2 : decode cL_opponent 2 = .ok (.aload_n 0, 1) := by decide +kernel
theorem dL_opponent_3 : decode cL_opponent 3 = .ok (.iload_n 1, 1) := by decide +kernel
theorem dL_opponent_4 : decode cL_opponent 4 = .ok (.iload_n 2, 1) := by decide +kernel
theorem dL_opponent_5 : decode cL_opponent 5 = .ok (.invokevirtual 92, 3) := by decide +kernel
theorem dL_opponent_13 : decode cL_opponent 13 = .ok (.astore 4, 2) := by decide +kernel
theorem dL_opponent_15 : decode cL_opponent 15 = .ok (.iconst 1, 1) := by decide +kernel
theorem dL_opponent_16 : decode cL_opponent 16 = .ok (.ireturn, 1) := by decide +kernel
theorem dL_rooms_0 : decode cL_rooms 0 = .ok (.aload_n 2, 1) := by decide +kernel
theorem dL_rooms_1 : decode cL_rooms 1 = .ok (.iconst 0, 1) := by decide +kernel
theorem dL_rooms_2 : decode cL_rooms 2 = .ok (.aload_n 0, 1) := by decide +kernel
theorem dL_rooms_3 : decode cL_rooms 3 = .ok (.iload_n 1, 1) := by decide +kernel
theorem dL_rooms_4 : decode cL_rooms 4 = .ok (.invokevirtual 95, 3) := by decide +kernel
theorem dL_rooms_12 : decode cL_rooms 12 = .ok (.astore_n 3, 1) := by decide +kernel
theorem dL_rooms_13 : decode cL_rooms 13 = .ok (.iconst 1, 1) := by decide +kernel
theorem dL_rooms_14 : decode cL_rooms 14 = .ok (.ireturn, 1) := by decide +kernel
theorem dL_teamIn_0 : decode cL_teamIn 0 = .ok (.aload 4, 2) := by decide +kernel
theorem dL_teamIn_2 : decode cL_teamIn 2 = .ok (.iconst 0, 1) := by decide +kernel
theorem dL_teamIn_3 : decode cL_teamIn 3 = .ok (.aload_n 0, 1) := by decide +kernel
theorem dL_teamIn_4 : decode cL_teamIn 4 = .ok (.iload_n 1, 1) := by decide +kernel
theorem dL_teamIn_5 : decode cL_teamIn 5 = .ok (.iload_n 2, 1) := by decide +kernel
theorem dL_teamIn_6 : decode cL_teamIn 6 = .ok (.iload_n 3, 1) := by decide +kernel
theorem dL_teamIn_7 : decode cL_teamIn 7 = .ok (.invokevirtual 98, 3) := by decide +kernel
theorem dL_teamIn_15 : decode cL_teamIn 15 = .ok (.astore 5, 2) := by decide +kernel
theorem dL_teamIn_17 : decode cL_teamIn 17 = .ok (.iconst 1, 1) := by decide +kernel
theorem dL_teamIn_18 : decode cL_teamIn 18 = .ok (.ireturn, 1) := by decide +kernel
theorem dL_judgeIn_0 : decode cL_judgeIn 0 = .ok (.aload_n 3, 1) := by decide +kernel
theorem dL_judgeIn_1 : decode cL_judgeIn 1 = .ok (.iconst 0, 1) := by decide +kernel
theorem dL_judgeIn_2 : decode cL_judgeIn 2 = .ok (.aload_n 0, 1) := by decide +kernel
theorem dL_judgeIn_3 : decode cL_judgeIn 3 = .ok (.iload_n 1, 1) := by decide +kernel
theorem dL_judgeIn_4 : decode cL_judgeIn 4 = .ok (.iload_n 2, 1) := by decide +kernel
theorem dL_judgeIn_5 : decode cL_judgeIn 5 = .ok (.invokevirtual 102, 3) := by decide +kernel
theorem dL_judgeIn_13 : decode cL_judgeIn 13 = .ok (.astore 4, 2) := by decide +kernel
theorem dL_judgeIn_15 : decode cL_judgeIn 15 = .ok (.iconst 1, 1) := by decide +kernel
theorem dL_judgeIn_16 : decode cL_judgeIn 16 = .ok (.ireturn, 1) := by decide +kernel
theorem dL_penaltyOf_0 : decode cL_penaltyOf 0 = .ok (.aload_n 3, 1) := by decide +kernel
theorem dL_penaltyOf_1 : decode cL_penaltyOf 1 = .ok (.iconst 0, 1) := by decide +kernel
theorem dL_penaltyOf_2 : decode cL_penaltyOf 2 = .ok (.aload_n 0, 1) := by decide +kernel
theorem dL_penaltyOf_3 : decode cL_penaltyOf 3 = .ok (.iload_n 1, 1) := by decide +kernel
theorem dL_penaltyOf_4 : decode cL_penaltyOf 4 = .ok (.iload_n 2, 1) := by decide +kernel
theorem dL_penaltyOf_5 : decode cL_penaltyOf 5 = .ok (.invokevirtual 105, 3) := by decide +kernel
theorem dL_penaltyOf_13 : decode cL_penaltyOf 13 = .ok (.astore 4, 2) := by decide +kernel
theorem dL_penaltyOf_15 : decode cL_penaltyOf 15 = .ok (.iconst 1, 1) := by decide +kernel
theorem dL_penaltyOf_16 : decode cL_penaltyOf 16 = .ok (.ireturn, 1) := by decide +kernel
theorem dL_winner_0 : decode cL_winner 0 = .ok (.aload_n 3, 1) := by decide +kernel
theorem dL_winner_1 : decode cL_winner 1 = .ok (.iconst 0, 1) := by decide +kernel
theorem dL_winner_2 : decode cL_winner 2 = .ok (.aload_n 0, 1) := by decide +kernel
theorem dL_winner_3 : decode cL_winner 3 = .ok (.iload_n 1, 1) := by decide +kernel
theorem dL_winner_4 : decode cL_winner 4 = .ok (.iload_n 2, 1) := by decide +kernel
theorem dL_winner_5 : decode cL_winner 5 = .ok (.invokevirtual 108, 3) := by decide +kernel
theorem dL_winner_13 : decode cL_winner 13 = .ok (.astore 4, 2) := by decide +kernel
theorem dL_winner_15 : decode cL_winner 15 = .ok (.iconst 1, 1) := by decide +kernel
theorem dL_winner_16 : decode cL_winner 16 = .ok (.ireturn, 1) := by decide +kernel
theorem dL_missing_0 : decode cL_missing 0 = .ok (.aload_n 1, 1) := by decide +kernel
theorem dL_missing_1 : decode cL_missing 1 = .ok (.iconst 0, 1) := by decide +kernel
theorem dL_missing_2 : decode cL_missing 2 = .ok (.aload_n 0, 1) := by decide +kernel
theorem dL_missing_3 : decode cL_missing 3 = .ok (.invokevirtual 112, 3) := by decide +kernel
theorem dL_missing_11 : decode cL_missing 11 = .ok (.astore_n 2, 1) := by decide +kernel
theorem dL_missing_12 : decode cL_missing 12 = .ok (.iconst 1, 1) := by decide +kernel
theorem dL_missing_13 : decode cL_missing 13 = .ok (.ireturn, 1) := by decide +kernel
theorem dL_nextRoom_0 : decode cL_nextRoom 0 = .ok (.aload_n 1, 1) := by decide +kernel
theorem dL_nextRoom_1 : decode cL_nextRoom 1 = .ok (.iconst 0, 1) := by decide +kernel
theorem dL_nextRoom_2 : decode cL_nextRoom 2 = .ok (.aload_n 0, 1) := by decide +kernel
theorem dL_nextRoom_3 : decode cL_nextRoom 3 = .ok (.invokevirtual 115, 3) := by decide +kernel
theorem dL_nextRoom_11 : decode cL_nextRoom 11 = .ok (.astore_n 2, 1) := by decide +kernel
theorem dL_nextRoom_12 : decode cL_nextRoom 12 = .ok (.iconst 1, 1) := by decide +kernel
theorem dL_nextRoom_13 : decode cL_nextRoom 13 = .ok (.ireturn, 1) := by decide +kernel
theorem dL_speeches_0 : decode cL_speeches 0 = .ok (.aload_n 3, 1) := by decide +kernel
theorem dL_speeches_1 : decode cL_speeches 1 = .ok (.iconst 0, 1) := by decide +kernel
theorem dL_speeches_2 : decode cL_speeches 2 = .ok (.aload_n 0, 1) := by decide +kernel
theorem dL_speeches_3 : decode cL_speeches 3 = .ok (.iload_n 1, 1) := by decide +kernel
theorem dL_speeches_4 : decode cL_speeches 4 = .ok (.iload_n 2, 1) := by decide +kernel
theorem dL_speeches_5 : decode cL_speeches 5 = .ok (.invokevirtual 118, 3) := by decide +kernel
theorem dL_speeches_13 : decode cL_speeches 13 = .ok (.astore 4, 2) := by decide +kernel
theorem dL_speeches_15 : decode cL_speeches 15 = .ok (.iconst 1, 1) := by decide +kernel
theorem dL_speeches_16 : decode cL_speeches 16 = .ok (.ireturn, 1) := by decide +kernel
theorem dL_average_0 : decode cL_average 0 = .ok (.aload_n 3, 1) := by decide +kernel
theorem dL_average_1 : decode cL_average 1 = .ok (.iconst 0, 1) := by decide +kernel
theorem dL_average_2 : decode cL_average 2 = .ok (.aload_n 0, 1) := by decide +kernel
theorem dL_average_3 : decode cL_average 3 = .ok (.iload_n 1, 1) := by decide +kernel
theorem dL_average_4 : decode cL_average 4 = .ok (.iload_n 2, 1) := by decide +kernel
theorem dL_average_5 : decode cL_average 5 = .ok (.invokevirtual 121, 3) := by decide +kernel
theorem dL_average_13 : decode cL_average 13 = .ok (.astore 4, 2) := by decide +kernel
theorem dL_average_15 : decode cL_average 15 = .ok (.iconst 1, 1) := by decide +kernel
theorem dL_average_16 : decode cL_average 16 = .ok (.ireturn, 1) := by decide +kernel
theorem dL_averageBits_0 : decode cL_averageBits 0 = .ok (.aload_n 3, 1) := by decide +kernel
theorem dL_averageBits_1 : decode cL_averageBits 1 = .ok (.iconst 0, 1) := by decide +kernel
theorem dL_averageBits_2 : decode cL_averageBits 2 = .ok (.aload_n 0, 1) := by decide +kernel
theorem dL_averageBits_3 : decode cL_averageBits 3 = .ok (.iload_n 1, 1) := by decide +kernel
theorem dL_averageBits_4 : decode cL_averageBits 4 = .ok (.iload_n 2, 1) := by decide +kernel
theorem dL_averageBits_5 : decode cL_averageBits 5 = .ok (.invokevirtual 127, 3) := by decide +kernel
theorem dL_averageBits_13 : decode cL_averageBits 13 = .ok (.astore 4, 2) := by decide +kernel
theorem dL_averageBits_15 : decode cL_averageBits 15 = .ok (.iconst 1, 1) := by decide +kernel
theorem dL_averageBits_16 : decode cL_averageBits 16 = .ok (.ireturn, 1) := by decide +kernel
theorem dL_averageTenths_0 : decode cL_averageTenths 0 = .ok (.aload_n 3, 1) := by decide +kernel
theorem dL_averageTenths_1 : decode cL_averageTenths 1 = .ok (.iconst 0, 1) := by decide +kernel
theorem dL_averageTenths_2 : decode cL_averageTenths 2 = .ok (.aload_n 0, 1) := by decide +kernel
theorem dL_averageTenths_3 : decode cL_averageTenths 3 = .ok (.iload_n 1, 1) := by decide +kernel
theorem dL_averageTenths_4 : decode cL_averageTenths 4 = .ok (.iload_n 2, 1) := by decide +kernel
theorem dL_averageTenths_5 : decode cL_averageTenths 5 = .ok (.invokevirtual 130, 3) := by decide +kernel
theorem dL_averageTenths_13 : decode cL_averageTenths 13 = .ok (.astore 4, 2) := by decide +kernel
theorem dL_averageTenths_15 : decode cL_averageTenths 15 = .ok (.iconst 1, 1) := by decide +kernel
theorem dL_averageTenths_16 : decode cL_averageTenths 16 = .ok (.ireturn, 1) := by decide +kernel
theorem dL_bestSpeaker_0 : decode cL_bestSpeaker 0 = .ok (.aload_n 2, 1) := by decide +kernel
theorem dL_bestSpeaker_1 : decode cL_bestSpeaker 1 = .ok (.iconst 0, 1) := by decide +kernel
theorem dL_bestSpeaker_2 : decode cL_bestSpeaker 2 = .ok (.aload_n 0, 1) := by decide +kernel
theorem dL_bestSpeaker_3 : decode cL_bestSpeaker 3 = .ok (.iload_n 1, 1) := by decide +kernel
theorem dL_bestSpeaker_4 : decode cL_bestSpeaker 4 = .ok (.invokevirtual 133, 3) := by decide +kernel
theorem dL_bestSpeaker_12 : decode cL_bestSpeaker 12 = .ok (.astore_n 3, 1) := by decide +kernel
theorem dL_bestSpeaker_13 : decode cL_bestSpeaker 13 = .ok (.iconst 1, 1) := by decide +kernel
theorem dL_bestSpeaker_14 : decode cL_bestSpeaker 14 = .ok (.ireturn, 1) := by decide +kernel
theorem dL_breaks_0 : decode cL_breaks 0 = .ok (.aload_n 3, 1) := by decide +kernel
theorem dL_breaks_1 : decode cL_breaks 1 = .ok (.iconst 0, 1) := by decide +kernel
theorem dL_breaks_2 : decode cL_breaks 2 = .ok (.aload_n 0, 1) := by decide +kernel
theorem dL_breaks_3 : decode cL_breaks 3 = .ok (.iload_n 1, 1) := by decide +kernel
theorem dL_breaks_4 : decode cL_breaks 4 = .ok (.iload_n 2, 1) := by decide +kernel
theorem dL_breaks_5 : decode cL_breaks 5 = .ok (.invokevirtual 136, 3) := by decide +kernel
theorem dL_breaks_13 : decode cL_breaks 13 = .ok (.astore 4, 2) := by decide +kernel
theorem dL_breaks_15 : decode cL_breaks 15 = .ok (.iconst 1, 1) := by decide +kernel
theorem dL_breaks_16 : decode cL_breaks 16 = .ok (.ireturn, 1) := by decide +kernel
theorem dL_breaks_17 : decode cL_breaks 17 = .ok (.astore 4, 2) := by decide +kernel
theorem dL_breaks_19 : decode cL_breaks 19 = .ok (.iconst 2, 1) := by decide +kernel
theorem dL_breaks_20 : decode cL_breaks 20 = .ok (.ireturn, 1) := by decide +kernel
theorem dL_people_0 : decode cL_people 0 = .ok (.aload_n 2, 1) := by decide +kernel
theorem dL_people_1 : decode cL_people 1 = .ok (.iconst 0, 1) := by decide +kernel
theorem dL_people_2 : decode cL_people 2 = .ok (.aload_n 0, 1) := by decide +kernel
theorem dL_people_3 : decode cL_people 3 = .ok (.iload_n 1, 1) := by decide +kernel
theorem dL_people_4 : decode cL_people 4 = .ok (.invokevirtual 139, 3) := by decide +kernel
theorem dL_people_7 : decode cL_people 7 = .ok (.i2l, 1) := by decide +kernel
theorem dL_people_8 : decode cL_people 8 = .ok (.lastore, 1) := by decide +kernel
theorem dL_people_9 : decode cL_people 9 = .ok (.goto 6, 3) := by decide +kernel
theorem dL_people_12 : decode cL_people 12 = .ok (.astore_n 3, 1) := by decide +kernel
theorem dL_people_13 : decode cL_people 13 = .ok (.iconst 1, 1) := by decide +kernel
theorem dL_people_14 : decode cL_people 14 = .ok (.ireturn, 1) := by decide +kernel
theorem dL_people_15 : decode cL_people 15 = .ok (.iconst 0, 1) := by decide +kernel
theorem dL_people_16 : decode cL_people 16 = .ok (.ireturn, 1) := by decide +kernel
theorem dL_meanPenalty_0 : decode cL_meanPenalty 0 = .ok (.aload_n 1, 1) := by decide +kernel
theorem dL_meanPenalty_1 : decode cL_meanPenalty 1 = .ok (.iconst 0, 1) := by decide +kernel
theorem dL_meanPenalty_2 : decode cL_meanPenalty 2 = .ok (.aload_n 0, 1) := by decide +kernel
theorem dL_meanPenalty_3 : decode cL_meanPenalty 3 = .ok (.invokevirtual 143, 3) := by decide +kernel
theorem dL_meanPenalty_10 : decode cL_meanPenalty 10 = .ok (.astore_n 2, 1) := by decide +kernel
theorem dL_meanPenalty_11 : decode cL_meanPenalty 11 = .ok (.iconst 1, 1) := by decide +kernel
theorem dL_meanPenalty_12 : decode cL_meanPenalty 12 = .ok (.ireturn, 1) := by decide +kernel
theorem dL_law_0 : decode cL_law 0 = .ok (.new 8, 3) := by decide +kernel
theorem dL_law_3 : decode cL_law 3 = .ok (.dup, 1) := by decide +kernel
theorem dL_law_4 : decode cL_law 4 = .ok (.invokespecial 147, 3) := by decide +kernel
theorem dL_law_7 : decode cL_law 7 = .ok (.astore_n 1, 1) := by decide +kernel
theorem dL_law_8 : decode cL_law 8 = .ok (.new 148, 3) := by decide +kernel
theorem dL_law_11 : decode cL_law 11 = .ok (.dup, 1) := by decide +kernel
theorem dL_law_12 : decode cL_law 12 = .ok (.invokespecial 150, 3) := by decide +kernel
theorem dL_law_15 : decode cL_law 15 = .ok (.astore_n 2, 1) := by decide +kernel
theorem dL_law_16 : decode cL_law 16 = .ok (.iconst 1, 1) := by decide +kernel
theorem dL_law_17 : decode cL_law 17 = .ok (.newarray .long, 2) := by decide +kernel
theorem dL_law_19 : decode cL_law 19 = .ok (.astore_n 3, 1) := by decide +kernel
theorem dL_law_20 : decode cL_law 20 = .ok (.iconst 1, 1) := by decide +kernel
theorem dL_law_21 : decode cL_law 21 = .ok (.newarray .double, 2) := by decide +kernel
theorem dL_law_23 : decode cL_law 23 = .ok (.astore 4, 2) := by decide +kernel
theorem dL_law_25 : decode cL_law 25 = .ok (.iconst 0, 1) := by decide +kernel
theorem dL_law_26 : decode cL_law 26 = .ok (.istore 5, 2) := by decide +kernel
theorem dL_law_28 : decode cL_law 28 = .ok (.iload 5, 2) := by decide +kernel
theorem dL_law_30 : decode cL_law 30 = .ok (.aload_n 0, 1) := by decide +kernel
theorem dL_law_31 : decode cL_law 31 = .ok (.arraylength, 1) := by decide +kernel
theorem dL_law_32 : decode cL_law 32 = .ok (.bipush 6, 2) := by decide +kernel
theorem dL_law_34 : decode cL_law 34 = .ok (.isub, 1) := by decide +kernel
theorem dL_law_35 : decode cL_law 35 = .ok (.if_icmp .gt 2709, 3) := by decide +kernel
theorem dL_law_38 : decode cL_law 38 = .ok (.aload_n 0, 1) := by decide +kernel
theorem dL_law_39 : decode cL_law 39 = .ok (.iload 5, 2) := by decide +kernel
theorem dL_law_41 : decode cL_law 41 = .ok (.iaload, 1) := by decide +kernel
theorem dL_law_42 : decode cL_law 42 = .ok (.bipush 63, 2) := by decide +kernel
theorem dL_law_44 : decode cL_law 44 = .ok (.iand, 1) := by decide +kernel
theorem dL_law_45 : decode cL_law 45 = .ok (.tableswitch 2693 0 42 #[187, 243, 311, 379, 470, 538, 582, 686, 754, 767, 780, 793, 849, 912, 987, 1043, 1099, 1155, 1211, 1267, 1335, 1391, 1404, 1460, 1528, 1584, 1640, 1708, 1764, 1846, 1914, 1982, 2050, 2094, 2138, 2206, 2296, 2364, 2432, 2488, 2556, 2614, 2628], 187) := by decide +kernel
theorem dL_law_232 : decode cL_law 232 = .ok (.aload_n 1, 1) := by decide +kernel
theorem dL_law_233 : decode cL_law 233 = .ok (.aload_n 0, 1) := by decide +kernel
theorem dL_law_234 : decode cL_law 234 = .ok (.iload 5, 2) := by decide +kernel
theorem dL_law_236 : decode cL_law 236 = .ok (.iconst 1, 1) := by decide +kernel
theorem dL_law_237 : decode cL_law 237 = .ok (.iadd, 1) := by decide +kernel
theorem dL_law_238 : decode cL_law 238 = .ok (.iaload, 1) := by decide +kernel
theorem dL_law_239 : decode cL_law 239 = .ok (.aload_n 3, 1) := by decide +kernel
theorem dL_law_240 : decode cL_law 240 = .ok (.invokestatic 151, 3) := by decide +kernel
theorem dL_law_243 : decode cL_law 243 = .ok (.istore 6, 2) := by decide +kernel
theorem dL_law_245 : decode cL_law 245 = .ok (.aload_n 2, 1) := by decide +kernel
theorem dL_law_246 : decode cL_law 246 = .ok (.aload_n 0, 1) := by decide +kernel
theorem dL_law_247 : decode cL_law 247 = .ok (.iload 5, 2) := by decide +kernel
theorem dL_law_249 : decode cL_law 249 = .ok (.iconst 1, 1) := by decide +kernel
theorem dL_law_250 : decode cL_law 250 = .ok (.iadd, 1) := by decide +kernel
theorem dL_law_251 : decode cL_law 251 = .ok (.iaload, 1) := by decide +kernel
theorem dL_law_252 : decode cL_law 252 = .ok (.invokevirtual 156, 3) := by decide +kernel
theorem dL_law_255 : decode cL_law 255 = .ok (.istore 7, 2) := by decide +kernel
theorem dL_law_257 : decode cL_law 257 = .ok (.aload_n 2, 1) := by decide +kernel
theorem dL_law_258 : decode cL_law 258 = .ok (.invokevirtual 157, 3) := by decide +kernel
theorem dL_law_261 : decode cL_law 261 = .ok (.iload 6, 2) := by decide +kernel
theorem dL_law_263 : decode cL_law 263 = .ok (.if_icmp .eq 5, 3) := by decide +kernel
theorem dL_law_268 : decode cL_law 268 = .ok (.iload 6, 2) := by decide +kernel
theorem dL_law_270 : decode cL_law 270 = .ok (.ifCond .ne 15, 3) := by decide +kernel
theorem dL_law_273 : decode cL_law 273 = .ok (.aload_n 3, 1) := by decide +kernel
theorem dL_law_274 : decode cL_law 274 = .ok (.iconst 0, 1) := by decide +kernel
theorem dL_law_275 : decode cL_law 275 = .ok (.laload, 1) := by decide +kernel
theorem dL_law_276 : decode cL_law 276 = .ok (.iload 7, 2) := by decide +kernel
theorem dL_law_278 : decode cL_law 278 = .ok (.i2l, 1) := by decide +kernel
theorem dL_law_279 : decode cL_law 279 = .ok (.lcmp, 1) := by decide +kernel
theorem dL_law_280 : decode cL_law 280 = .ok (.ifCond .eq 5, 3) := by decide +kernel
theorem dL_law_285 : decode cL_law 285 = .ok (.goto 2453, 3) := by decide +kernel
theorem dL_law_288 : decode cL_law 288 = .ok (.aload_n 1, 1) := by decide +kernel
theorem dL_law_289 : decode cL_law 289 = .ok (.aload_n 0, 1) := by decide +kernel
theorem dL_law_290 : decode cL_law 290 = .ok (.iload 5, 2) := by decide +kernel
theorem dL_law_292 : decode cL_law 292 = .ok (.iconst 1, 1) := by decide +kernel
theorem dL_law_293 : decode cL_law 293 = .ok (.iadd, 1) := by decide +kernel
theorem dL_law_294 : decode cL_law 294 = .ok (.iaload, 1) := by decide +kernel
theorem dL_law_295 : decode cL_law 295 = .ok (.aload_n 0, 1) := by decide +kernel
theorem dL_law_296 : decode cL_law 296 = .ok (.iload 5, 2) := by decide +kernel
theorem dL_law_298 : decode cL_law 298 = .ok (.iconst 2, 1) := by decide +kernel
theorem dL_law_299 : decode cL_law 299 = .ok (.iadd, 1) := by decide +kernel
theorem dL_law_300 : decode cL_law 300 = .ok (.iaload, 1) := by decide +kernel
theorem dL_law_301 : decode cL_law 301 = .ok (.aload_n 3, 1) := by decide +kernel
theorem dL_law_302 : decode cL_law 302 = .ok (.invokestatic 160, 3) := by decide +kernel
theorem dL_law_305 : decode cL_law 305 = .ok (.istore 6, 2) := by decide +kernel
theorem dL_law_307 : decode cL_law 307 = .ok (.aload_n 2, 1) := by decide +kernel
theorem dL_law_308 : decode cL_law 308 = .ok (.aload_n 0, 1) := by decide +kernel
theorem dL_law_309 : decode cL_law 309 = .ok (.iload 5, 2) := by decide +kernel
theorem dL_law_311 : decode cL_law 311 = .ok (.iconst 1, 1) := by decide +kernel
theorem dL_law_312 : decode cL_law 312 = .ok (.iadd, 1) := by decide +kernel
theorem dL_law_313 : decode cL_law 313 = .ok (.iaload, 1) := by decide +kernel
theorem dL_law_314 : decode cL_law 314 = .ok (.aload_n 0, 1) := by decide +kernel
theorem dL_law_315 : decode cL_law 315 = .ok (.iload 5, 2) := by decide +kernel
theorem dL_law_317 : decode cL_law 317 = .ok (.iconst 2, 1) := by decide +kernel
theorem dL_law_318 : decode cL_law 318 = .ok (.iadd, 1) := by decide +kernel
theorem dL_law_319 : decode cL_law 319 = .ok (.iaload, 1) := by decide +kernel
theorem dL_law_320 : decode cL_law 320 = .ok (.invokevirtual 163, 3) := by decide +kernel
theorem dL_law_323 : decode cL_law 323 = .ok (.istore 7, 2) := by decide +kernel
theorem dL_law_325 : decode cL_law 325 = .ok (.aload_n 2, 1) := by decide +kernel
theorem dL_law_326 : decode cL_law 326 = .ok (.invokevirtual 157, 3) := by decide +kernel
theorem dL_law_329 : decode cL_law 329 = .ok (.iload 6, 2) := by decide +kernel
theorem dL_law_331 : decode cL_law 331 = .ok (.if_icmp .eq 5, 3) := by decide +kernel
theorem dL_law_336 : decode cL_law 336 = .ok (.iload 6, 2) := by decide +kernel
theorem dL_law_338 : decode cL_law 338 = .ok (.ifCond .ne 15, 3) := by decide +kernel
theorem dL_law_341 : decode cL_law 341 = .ok (.aload_n 3, 1) := by decide +kernel
theorem dL_law_342 : decode cL_law 342 = .ok (.iconst 0, 1) := by decide +kernel
theorem dL_law_343 : decode cL_law 343 = .ok (.laload, 1) := by decide +kernel
theorem dL_law_344 : decode cL_law 344 = .ok (.iload 7, 2) := by decide +kernel
theorem dL_law_346 : decode cL_law 346 = .ok (.i2l, 1) := by decide +kernel
theorem dL_law_347 : decode cL_law 347 = .ok (.lcmp, 1) := by decide +kernel
theorem dL_law_348 : decode cL_law 348 = .ok (.ifCond .eq 5, 3) := by decide +kernel
theorem dL_law_353 : decode cL_law 353 = .ok (.goto 2385, 3) := by decide +kernel
theorem dL_law_356 : decode cL_law 356 = .ok (.aload_n 1, 1) := by decide +kernel
theorem dL_law_357 : decode cL_law 357 = .ok (.aload_n 0, 1) := by decide +kernel
theorem dL_law_358 : decode cL_law 358 = .ok (.iload 5, 2) := by decide +kernel
theorem dL_law_360 : decode cL_law 360 = .ok (.iconst 1, 1) := by decide +kernel
theorem dL_law_361 : decode cL_law 361 = .ok (.iadd, 1) := by decide +kernel
theorem dL_law_362 : decode cL_law 362 = .ok (.iaload, 1) := by decide +kernel
theorem dL_law_363 : decode cL_law 363 = .ok (.aload_n 0, 1) := by decide +kernel
theorem dL_law_364 : decode cL_law 364 = .ok (.iload 5, 2) := by decide +kernel
theorem dL_law_366 : decode cL_law 366 = .ok (.iconst 2, 1) := by decide +kernel
theorem dL_law_367 : decode cL_law 367 = .ok (.iadd, 1) := by decide +kernel
theorem dL_law_368 : decode cL_law 368 = .ok (.iaload, 1) := by decide +kernel
theorem dL_law_369 : decode cL_law 369 = .ok (.aload_n 3, 1) := by decide +kernel
theorem dL_law_370 : decode cL_law 370 = .ok (.invokestatic 164, 3) := by decide +kernel
theorem dL_law_373 : decode cL_law 373 = .ok (.istore 6, 2) := by decide +kernel
theorem dL_law_375 : decode cL_law 375 = .ok (.aload_n 2, 1) := by decide +kernel
theorem dL_law_376 : decode cL_law 376 = .ok (.aload_n 0, 1) := by decide +kernel
theorem dL_law_377 : decode cL_law 377 = .ok (.iload 5, 2) := by decide +kernel
theorem dL_law_379 : decode cL_law 379 = .ok (.iconst 1, 1) := by decide +kernel
theorem dL_law_380 : decode cL_law 380 = .ok (.iadd, 1) := by decide +kernel
theorem dL_law_381 : decode cL_law 381 = .ok (.iaload, 1) := by decide +kernel
theorem dL_law_382 : decode cL_law 382 = .ok (.aload_n 0, 1) := by decide +kernel
theorem dL_law_383 : decode cL_law 383 = .ok (.iload 5, 2) := by decide +kernel
theorem dL_law_385 : decode cL_law 385 = .ok (.iconst 2, 1) := by decide +kernel
theorem dL_law_386 : decode cL_law 386 = .ok (.iadd, 1) := by decide +kernel
theorem dL_law_387 : decode cL_law 387 = .ok (.iaload, 1) := by decide +kernel
theorem dL_law_388 : decode cL_law 388 = .ok (.invokevirtual 166, 3) := by decide +kernel
theorem dL_law_391 : decode cL_law 391 = .ok (.istore 7, 2) := by decide +kernel
theorem dL_law_393 : decode cL_law 393 = .ok (.aload_n 2, 1) := by decide +kernel
theorem dL_law_394 : decode cL_law 394 = .ok (.invokevirtual 157, 3) := by decide +kernel
theorem dL_law_397 : decode cL_law 397 = .ok (.iload 6, 2) := by decide +kernel
theorem dL_law_399 : decode cL_law 399 = .ok (.if_icmp .eq 5, 3) := by decide +kernel
theorem dL_law_404 : decode cL_law 404 = .ok (.iload 6, 2) := by decide +kernel
theorem dL_law_406 : decode cL_law 406 = .ok (.ifCond .ne 15, 3) := by decide +kernel
theorem dL_law_421 : decode cL_law 421 = .ok (.goto 2317, 3) := by decide +kernel
theorem dL_law_424 : decode cL_law 424 = .ok (.aload_n 1, 1) := by decide +kernel
theorem dL_law_425 : decode cL_law 425 = .ok (.aload_n 0, 1) := by decide +kernel
theorem dL_law_426 : decode cL_law 426 = .ok (.iload 5, 2) := by decide +kernel
theorem dL_law_428 : decode cL_law 428 = .ok (.iconst 1, 1) := by decide +kernel
theorem dL_law_429 : decode cL_law 429 = .ok (.iadd, 1) := by decide +kernel
theorem dL_law_430 : decode cL_law 430 = .ok (.iaload, 1) := by decide +kernel
theorem dL_law_431 : decode cL_law 431 = .ok (.aload_n 0, 1) := by decide +kernel
theorem dL_law_432 : decode cL_law 432 = .ok (.iload 5, 2) := by decide +kernel
theorem dL_law_434 : decode cL_law 434 = .ok (.iconst 2, 1) := by decide +kernel
theorem dL_law_435 : decode cL_law 435 = .ok (.iadd, 1) := by decide +kernel
theorem dL_law_436 : decode cL_law 436 = .ok (.iaload, 1) := by decide +kernel
theorem dL_law_437 : decode cL_law 437 = .ok (.ifCond .eq 7, 3) := by decide +kernel
theorem dL_law_440 : decode cL_law 440 = .ok (.iconst 1, 1) := by decide +kernel
theorem dL_law_441 : decode cL_law 441 = .ok (.goto 4, 3) := by decide +kernel
theorem dL_law_444 : decode cL_law 444 = .ok (.iconst 0, 1) := by decide +kernel
theorem dL_law_445 : decode cL_law 445 = .ok (.aload_n 3, 1) := by decide +kernel
theorem dL_law_446 : decode cL_law 446 = .ok (.invokestatic 167, 3) := by decide +kernel
theorem dL_law_449 : decode cL_law 449 = .ok (.istore 6, 2) := by decide +kernel
theorem dL_law_451 : decode cL_law 451 = .ok (.aload_n 2, 1) := by decide +kernel
theorem dL_law_452 : decode cL_law 452 = .ok (.aload_n 0, 1) := by decide +kernel
theorem dL_law_453 : decode cL_law 453 = .ok (.iload 5, 2) := by decide +kernel
theorem dL_law_455 : decode cL_law 455 = .ok (.iconst 1, 1) := by decide +kernel
theorem dL_law_456 : decode cL_law 456 = .ok (.iadd, 1) := by decide +kernel
theorem dL_law_457 : decode cL_law 457 = .ok (.iaload, 1) := by decide +kernel
theorem dL_law_458 : decode cL_law 458 = .ok (.aload_n 0, 1) := by decide +kernel
theorem dL_law_459 : decode cL_law 459 = .ok (.iload 5, 2) := by decide +kernel
theorem dL_law_461 : decode cL_law 461 = .ok (.iconst 2, 1) := by decide +kernel
theorem dL_law_462 : decode cL_law 462 = .ok (.iadd, 1) := by decide +kernel
theorem dL_law_463 : decode cL_law 463 = .ok (.iaload, 1) := by decide +kernel
theorem dL_law_464 : decode cL_law 464 = .ok (.ifCond .eq 7, 3) := by decide +kernel
theorem dL_law_467 : decode cL_law 467 = .ok (.iconst 1, 1) := by decide +kernel
theorem dL_law_468 : decode cL_law 468 = .ok (.goto 4, 3) := by decide +kernel
theorem dL_law_471 : decode cL_law 471 = .ok (.iconst 0, 1) := by decide +kernel
theorem dL_law_472 : decode cL_law 472 = .ok (.invokevirtual 170, 3) := by decide +kernel
theorem dL_law_475 : decode cL_law 475 = .ok (.istore 7, 2) := by decide +kernel
theorem dL_law_477 : decode cL_law 477 = .ok (.aload_n 2, 1) := by decide +kernel
theorem dL_law_478 : decode cL_law 478 = .ok (.invokevirtual 157, 3) := by decide +kernel
theorem dL_law_481 : decode cL_law 481 = .ok (.iload 6, 2) := by decide +kernel
theorem dL_law_483 : decode cL_law 483 = .ok (.if_icmp .eq 5, 3) := by decide +kernel
theorem dL_law_488 : decode cL_law 488 = .ok (.iload 6, 2) := by decide +kernel
theorem dL_law_490 : decode cL_law 490 = .ok (.ifCond .ne 22, 3) := by decide +kernel
theorem dL_law_512 : decode cL_law 512 = .ok (.goto 2226, 3) := by decide +kernel
theorem dL_law_515 : decode cL_law 515 = .ok (.aload_n 1, 1) := by decide +kernel
theorem dL_law_516 : decode cL_law 516 = .ok (.aload_n 0, 1) := by decide +kernel
theorem dL_law_517 : decode cL_law 517 = .ok (.iload 5, 2) := by decide +kernel
theorem dL_law_519 : decode cL_law 519 = .ok (.iconst 1, 1) := by decide +kernel
theorem dL_law_520 : decode cL_law 520 = .ok (.iadd, 1) := by decide +kernel
theorem dL_law_521 : decode cL_law 521 = .ok (.iaload, 1) := by decide +kernel
theorem dL_law_522 : decode cL_law 522 = .ok (.aload_n 0, 1) := by decide +kernel
theorem dL_law_523 : decode cL_law 523 = .ok (.iload 5, 2) := by decide +kernel
theorem dL_law_525 : decode cL_law 525 = .ok (.iconst 2, 1) := by decide +kernel
theorem dL_law_526 : decode cL_law 526 = .ok (.iadd, 1) := by decide +kernel
theorem dL_law_527 : decode cL_law 527 = .ok (.iaload, 1) := by decide +kernel
theorem dL_law_528 : decode cL_law 528 = .ok (.aload_n 3, 1) := by decide +kernel
theorem dL_law_529 : decode cL_law 529 = .ok (.invokestatic 171, 3) := by decide +kernel
theorem dL_law_532 : decode cL_law 532 = .ok (.istore 6, 2) := by decide +kernel
theorem dL_law_534 : decode cL_law 534 = .ok (.aload_n 2, 1) := by decide +kernel
theorem dL_law_535 : decode cL_law 535 = .ok (.aload_n 0, 1) := by decide +kernel
theorem dL_law_536 : decode cL_law 536 = .ok (.iload 5, 2) := by decide +kernel
theorem dL_law_538 : decode cL_law 538 = .ok (.iconst 1, 1) := by decide +kernel
theorem dL_law_539 : decode cL_law 539 = .ok (.iadd, 1) := by decide +kernel
theorem dL_law_540 : decode cL_law 540 = .ok (.iaload, 1) := by decide +kernel
theorem dL_law_541 : decode cL_law 541 = .ok (.aload_n 0, 1) := by decide +kernel
theorem dL_law_542 : decode cL_law 542 = .ok (.iload 5, 2) := by decide +kernel
theorem dL_law_544 : decode cL_law 544 = .ok (.iconst 2, 1) := by decide +kernel
theorem dL_law_545 : decode cL_law 545 = .ok (.iadd, 1) := by decide +kernel
theorem dL_law_546 : decode cL_law 546 = .ok (.iaload, 1) := by decide +kernel
theorem dL_law_547 : decode cL_law 547 = .ok (.invokevirtual 173, 3) := by decide +kernel
theorem dL_law_550 : decode cL_law 550 = .ok (.istore 7, 2) := by decide +kernel
theorem dL_law_552 : decode cL_law 552 = .ok (.aload_n 2, 1) := by decide +kernel
theorem dL_law_553 : decode cL_law 553 = .ok (.invokevirtual 157, 3) := by decide +kernel
theorem dL_law_556 : decode cL_law 556 = .ok (.iload 6, 2) := by decide +kernel
theorem dL_law_558 : decode cL_law 558 = .ok (.if_icmp .eq 5, 3) := by decide +kernel
theorem dL_law_563 : decode cL_law 563 = .ok (.iload 6, 2) := by decide +kernel
theorem dL_law_565 : decode cL_law 565 = .ok (.ifCond .ne 15, 3) := by decide +kernel
theorem dL_law_580 : decode cL_law 580 = .ok (.goto 2158, 3) := by decide +kernel
theorem dL_law_583 : decode cL_law 583 = .ok (.aload_n 1, 1) := by decide +kernel
theorem dL_law_584 : decode cL_law 584 = .ok (.aload_n 3, 1) := by decide +kernel
theorem dL_law_585 : decode cL_law 585 = .ok (.invokestatic 174, 3) := by decide +kernel
theorem dL_law_588 : decode cL_law 588 = .ok (.istore 6, 2) := by decide +kernel
theorem dL_law_590 : decode cL_law 590 = .ok (.aload_n 2, 1) := by decide +kernel
theorem dL_law_591 : decode cL_law 591 = .ok (.invokevirtual 177, 3) := by decide +kernel
theorem dL_law_594 : decode cL_law 594 = .ok (.istore 7, 2) := by decide +kernel
theorem dL_law_596 : decode cL_law 596 = .ok (.aload_n 2, 1) := by decide +kernel
theorem dL_law_597 : decode cL_law 597 = .ok (.invokevirtual 157, 3) := by decide +kernel
theorem dL_law_600 : decode cL_law 600 = .ok (.iload 6, 2) := by decide +kernel
theorem dL_law_602 : decode cL_law 602 = .ok (.if_icmp .eq 5, 3) := by decide +kernel
theorem dL_law_607 : decode cL_law 607 = .ok (.iload 6, 2) := by decide +kernel
theorem dL_law_609 : decode cL_law 609 = .ok (.ifCond .ne 15, 3) := by decide +kernel
theorem dL_law_624 : decode cL_law 624 = .ok (.goto 2114, 3) := by decide +kernel
theorem dL_law_627 : decode cL_law 627 = .ok (.aload_n 1, 1) := by decide +kernel
theorem dL_law_628 : decode cL_law 628 = .ok (.aload_n 0, 1) := by decide +kernel
theorem dL_law_629 : decode cL_law 629 = .ok (.iload 5, 2) := by decide +kernel
theorem dL_law_631 : decode cL_law 631 = .ok (.iconst 1, 1) := by decide +kernel
theorem dL_law_632 : decode cL_law 632 = .ok (.iadd, 1) := by decide +kernel
theorem dL_law_633 : decode cL_law 633 = .ok (.iaload, 1) := by decide +kernel
theorem dL_law_634 : decode cL_law 634 = .ok (.aload_n 0, 1) := by decide +kernel
theorem dL_law_635 : decode cL_law 635 = .ok (.iload 5, 2) := by decide +kernel
theorem dL_law_637 : decode cL_law 637 = .ok (.iconst 2, 1) := by decide +kernel
theorem dL_law_638 : decode cL_law 638 = .ok (.iadd, 1) := by decide +kernel
theorem dL_law_639 : decode cL_law 639 = .ok (.iaload, 1) := by decide +kernel
theorem dL_law_640 : decode cL_law 640 = .ok (.aload_n 0, 1) := by decide +kernel
theorem dL_law_641 : decode cL_law 641 = .ok (.iload 5, 2) := by decide +kernel
theorem dL_law_643 : decode cL_law 643 = .ok (.iconst 3, 1) := by decide +kernel
theorem dL_law_644 : decode cL_law 644 = .ok (.iadd, 1) := by decide +kernel
theorem dL_law_645 : decode cL_law 645 = .ok (.iaload, 1) := by decide +kernel
theorem dL_law_646 : decode cL_law 646 = .ok (.aload_n 0, 1) := by decide +kernel
theorem dL_law_647 : decode cL_law 647 = .ok (.iload 5, 2) := by decide +kernel
theorem dL_law_649 : decode cL_law 649 = .ok (.iconst 4, 1) := by decide +kernel
theorem dL_law_650 : decode cL_law 650 = .ok (.iadd, 1) := by decide +kernel
theorem dL_law_651 : decode cL_law 651 = .ok (.iaload, 1) := by decide +kernel
theorem dL_law_652 : decode cL_law 652 = .ok (.aload_n 0, 1) := by decide +kernel
theorem dL_law_653 : decode cL_law 653 = .ok (.iload 5, 2) := by decide +kernel
theorem dL_law_655 : decode cL_law 655 = .ok (.iconst 5, 1) := by decide +kernel
theorem dL_law_656 : decode cL_law 656 = .ok (.iadd, 1) := by decide +kernel
theorem dL_law_657 : decode cL_law 657 = .ok (.iaload, 1) := by decide +kernel
theorem dL_law_658 : decode cL_law 658 = .ok (.aload_n 3, 1) := by decide +kernel
theorem dL_law_659 : decode cL_law 659 = .ok (.invokestatic 178, 3) := by decide +kernel
theorem dL_law_662 : decode cL_law 662 = .ok (.istore 6, 2) := by decide +kernel
theorem dL_law_664 : decode cL_law 664 = .ok (.aload_n 2, 1) := by decide +kernel
theorem dL_law_665 : decode cL_law 665 = .ok (.aload_n 0, 1) := by decide +kernel
theorem dL_law_666 : decode cL_law 666 = .ok (.iload 5, 2) := by decide +kernel
theorem dL_law_668 : decode cL_law 668 = .ok (.iconst 1, 1) := by decide +kernel
theorem dL_law_669 : decode cL_law 669 = .ok (.iadd, 1) := by decide +kernel
theorem dL_law_670 : decode cL_law 670 = .ok (.iaload, 1) := by decide +kernel
theorem dL_law_671 : decode cL_law 671 = .ok (.aload_n 0, 1) := by decide +kernel
theorem dL_law_672 : decode cL_law 672 = .ok (.iload 5, 2) := by decide +kernel
theorem dL_law_674 : decode cL_law 674 = .ok (.iconst 2, 1) := by decide +kernel
theorem dL_law_675 : decode cL_law 675 = .ok (.iadd, 1) := by decide +kernel
theorem dL_law_676 : decode cL_law 676 = .ok (.iaload, 1) := by decide +kernel
theorem dL_law_677 : decode cL_law 677 = .ok (.aload_n 0, 1) := by decide +kernel
theorem dL_law_678 : decode cL_law 678 = .ok (.iload 5, 2) := by decide +kernel
theorem dL_law_680 : decode cL_law 680 = .ok (.iconst 3, 1) := by decide +kernel
theorem dL_law_681 : decode cL_law 681 = .ok (.iadd, 1) := by decide +kernel
theorem dL_law_682 : decode cL_law 682 = .ok (.iaload, 1) := by decide +kernel
theorem dL_law_683 : decode cL_law 683 = .ok (.aload_n 0, 1) := by decide +kernel
theorem dL_law_684 : decode cL_law 684 = .ok (.iload 5, 2) := by decide +kernel
theorem dL_law_686 : decode cL_law 686 = .ok (.iconst 4, 1) := by decide +kernel
theorem dL_law_687 : decode cL_law 687 = .ok (.iadd, 1) := by decide +kernel
theorem dL_law_688 : decode cL_law 688 = .ok (.iaload, 1) := by decide +kernel
theorem dL_law_689 : decode cL_law 689 = .ok (.aload_n 0, 1) := by decide +kernel
theorem dL_law_690 : decode cL_law 690 = .ok (.iload 5, 2) := by decide +kernel
theorem dL_law_692 : decode cL_law 692 = .ok (.iconst 5, 1) := by decide +kernel
theorem dL_law_693 : decode cL_law 693 = .ok (.iadd, 1) := by decide +kernel
theorem dL_law_694 : decode cL_law 694 = .ok (.iaload, 1) := by decide +kernel
theorem dL_law_695 : decode cL_law 695 = .ok (.invokevirtual 181, 3) := by decide +kernel
theorem dL_law_698 : decode cL_law 698 = .ok (.istore 7, 2) := by decide +kernel
theorem dL_law_700 : decode cL_law 700 = .ok (.aload_n 2, 1) := by decide +kernel
theorem dL_law_701 : decode cL_law 701 = .ok (.invokevirtual 157, 3) := by decide +kernel
theorem dL_law_704 : decode cL_law 704 = .ok (.iload 6, 2) := by decide +kernel
theorem dL_law_706 : decode cL_law 706 = .ok (.if_icmp .eq 5, 3) := by decide +kernel
theorem dL_law_711 : decode cL_law 711 = .ok (.iload 6, 2) := by decide +kernel
theorem dL_law_713 : decode cL_law 713 = .ok (.ifCond .ne 15, 3) := by decide +kernel
theorem dL_law_728 : decode cL_law 728 = .ok (.goto 2010, 3) := by decide +kernel
theorem dL_law_731 : decode cL_law 731 = .ok (.aload_n 1, 1) := by decide +kernel
theorem dL_law_732 : decode cL_law 732 = .ok (.aload_n 0, 1) := by decide +kernel
theorem dL_law_733 : decode cL_law 733 = .ok (.iload 5, 2) := by decide +kernel
theorem dL_law_735 : decode cL_law 735 = .ok (.iconst 1, 1) := by decide +kernel
theorem dL_law_736 : decode cL_law 736 = .ok (.iadd, 1) := by decide +kernel
theorem dL_law_737 : decode cL_law 737 = .ok (.iaload, 1) := by decide +kernel
theorem dL_law_738 : decode cL_law 738 = .ok (.aload_n 0, 1) := by decide +kernel
theorem dL_law_739 : decode cL_law 739 = .ok (.iload 5, 2) := by decide +kernel
theorem dL_law_741 : decode cL_law 741 = .ok (.iconst 2, 1) := by decide +kernel
theorem dL_law_742 : decode cL_law 742 = .ok (.iadd, 1) := by decide +kernel
theorem dL_law_743 : decode cL_law 743 = .ok (.iaload, 1) := by decide +kernel
theorem dL_law_744 : decode cL_law 744 = .ok (.aload_n 3, 1) := by decide +kernel
theorem dL_law_745 : decode cL_law 745 = .ok (.invokestatic 182, 3) := by decide +kernel
theorem dL_law_748 : decode cL_law 748 = .ok (.istore 6, 2) := by decide +kernel
theorem dL_law_750 : decode cL_law 750 = .ok (.aload_n 2, 1) := by decide +kernel
theorem dL_law_751 : decode cL_law 751 = .ok (.aload_n 0, 1) := by decide +kernel
theorem dL_law_752 : decode cL_law 752 = .ok (.iload 5, 2) := by decide +kernel
theorem dL_law_754 : decode cL_law 754 = .ok (.iconst 1, 1) := by decide +kernel
theorem dL_law_755 : decode cL_law 755 = .ok (.iadd, 1) := by decide +kernel
theorem dL_law_756 : decode cL_law 756 = .ok (.iaload, 1) := by decide +kernel
theorem dL_law_757 : decode cL_law 757 = .ok (.aload_n 0, 1) := by decide +kernel
theorem dL_law_758 : decode cL_law 758 = .ok (.iload 5, 2) := by decide +kernel
theorem dL_law_760 : decode cL_law 760 = .ok (.iconst 2, 1) := by decide +kernel
theorem dL_law_761 : decode cL_law 761 = .ok (.iadd, 1) := by decide +kernel
theorem dL_law_762 : decode cL_law 762 = .ok (.iaload, 1) := by decide +kernel
theorem dL_law_763 : decode cL_law 763 = .ok (.invokevirtual 184, 3) := by decide +kernel
theorem dL_law_766 : decode cL_law 766 = .ok (.istore 7, 2) := by decide +kernel
theorem dL_law_768 : decode cL_law 768 = .ok (.aload_n 2, 1) := by decide +kernel
theorem dL_law_769 : decode cL_law 769 = .ok (.invokevirtual 157, 3) := by decide +kernel
theorem dL_law_772 : decode cL_law 772 = .ok (.iload 6, 2) := by decide +kernel
theorem dL_law_774 : decode cL_law 774 = .ok (.if_icmp .eq 5, 3) := by decide +kernel
theorem dL_law_779 : decode cL_law 779 = .ok (.iload 6, 2) := by decide +kernel
theorem dL_law_781 : decode cL_law 781 = .ok (.ifCond .ne 15, 3) := by decide +kernel
theorem dL_law_796 : decode cL_law 796 = .ok (.goto 1942, 3) := by decide +kernel
theorem dL_law_799 : decode cL_law 799 = .ok (.aload_n 1, 1) := by decide +kernel
theorem dL_law_800 : decode cL_law 800 = .ok (.invokevirtual 185, 3) := by decide +kernel
theorem dL_law_803 : decode cL_law 803 = .ok (.aload_n 2, 1) := by decide +kernel
theorem dL_law_804 : decode cL_law 804 = .ok (.invokevirtual 188, 3) := by decide +kernel
theorem dL_law_807 : decode cL_law 807 = .ok (.if_icmp .eq 1931, 3) := by decide +kernel
theorem dL_law_812 : decode cL_law 812 = .ok (.aload_n 1, 1) := by decide +kernel
theorem dL_law_813 : decode cL_law 813 = .ok (.invokevirtual 189, 3) := by decide +kernel
theorem dL_law_816 : decode cL_law 816 = .ok (.aload_n 2, 1) := by decide +kernel
theorem dL_law_817 : decode cL_law 817 = .ok (.invokevirtual 192, 3) := by decide +kernel
theorem dL_law_820 : decode cL_law 820 = .ok (.if_icmp .eq 1918, 3) := by decide +kernel
theorem dL_law_825 : decode cL_law 825 = .ok (.aload_n 1, 1) := by decide +kernel
theorem dL_law_826 : decode cL_law 826 = .ok (.invokevirtual 193, 3) := by decide +kernel
theorem dL_law_829 : decode cL_law 829 = .ok (.aload_n 2, 1) := by decide +kernel
theorem dL_law_830 : decode cL_law 830 = .ok (.invokevirtual 196, 3) := by decide +kernel
theorem dL_law_833 : decode cL_law 833 = .ok (.if_icmp .eq 1905, 3) := by decide +kernel
theorem dL_law_838 : decode cL_law 838 = .ok (.aload_n 1, 1) := by decide +kernel
theorem dL_law_839 : decode cL_law 839 = .ok (.aload_n 0, 1) := by decide +kernel
theorem dL_law_840 : decode cL_law 840 = .ok (.iload 5, 2) := by decide +kernel
theorem dL_law_842 : decode cL_law 842 = .ok (.iconst 1, 1) := by decide +kernel
theorem dL_law_843 : decode cL_law 843 = .ok (.iadd, 1) := by decide +kernel
theorem dL_law_844 : decode cL_law 844 = .ok (.iaload, 1) := by decide +kernel
theorem dL_law_845 : decode cL_law 845 = .ok (.aload_n 3, 1) := by decide +kernel
theorem dL_law_846 : decode cL_law 846 = .ok (.invokestatic 197, 3) := by decide +kernel
theorem dL_law_849 : decode cL_law 849 = .ok (.istore 6, 2) := by decide +kernel
theorem dL_law_851 : decode cL_law 851 = .ok (.aload_n 2, 1) := by decide +kernel
theorem dL_law_852 : decode cL_law 852 = .ok (.aload_n 0, 1) := by decide +kernel
theorem dL_law_853 : decode cL_law 853 = .ok (.iload 5, 2) := by decide +kernel
theorem dL_law_855 : decode cL_law 855 = .ok (.iconst 1, 1) := by decide +kernel
theorem dL_law_856 : decode cL_law 856 = .ok (.iadd, 1) := by decide +kernel
theorem dL_law_857 : decode cL_law 857 = .ok (.iaload, 1) := by decide +kernel
theorem dL_law_858 : decode cL_law 858 = .ok (.invokevirtual 199, 3) := by decide +kernel
theorem dL_law_861 : decode cL_law 861 = .ok (.istore 7, 2) := by decide +kernel
theorem dL_law_863 : decode cL_law 863 = .ok (.aload_n 2, 1) := by decide +kernel
theorem dL_law_864 : decode cL_law 864 = .ok (.invokevirtual 157, 3) := by decide +kernel
theorem dL_law_867 : decode cL_law 867 = .ok (.iload 6, 2) := by decide +kernel
theorem dL_law_869 : decode cL_law 869 = .ok (.if_icmp .eq 5, 3) := by decide +kernel
theorem dL_law_874 : decode cL_law 874 = .ok (.iload 6, 2) := by decide +kernel
theorem dL_law_876 : decode cL_law 876 = .ok (.ifCond .ne 15, 3) := by decide +kernel
theorem dL_law_891 : decode cL_law 891 = .ok (.goto 1847, 3) := by decide +kernel
theorem dL_law_894 : decode cL_law 894 = .ok (.aload_n 1, 1) := by decide +kernel
theorem dL_law_895 : decode cL_law 895 = .ok (.aload_n 0, 1) := by decide +kernel
theorem dL_law_896 : decode cL_law 896 = .ok (.iload 5, 2) := by decide +kernel
theorem dL_law_898 : decode cL_law 898 = .ok (.iconst 1, 1) := by decide +kernel
theorem dL_law_899 : decode cL_law 899 = .ok (.iadd, 1) := by decide +kernel
theorem dL_law_900 : decode cL_law 900 = .ok (.iaload, 1) := by decide +kernel
theorem dL_law_901 : decode cL_law 901 = .ok (.aload_n 3, 1) := by decide +kernel
theorem dL_law_902 : decode cL_law 902 = .ok (.invokestatic 200, 3) := by decide +kernel
theorem dL_law_905 : decode cL_law 905 = .ok (.istore 6, 2) := by decide +kernel
theorem dL_law_907 : decode cL_law 907 = .ok (.aload_n 2, 1) := by decide +kernel
theorem dL_law_908 : decode cL_law 908 = .ok (.aload_n 0, 1) := by decide +kernel
theorem dL_law_909 : decode cL_law 909 = .ok (.iload 5, 2) := by decide +kernel
theorem dL_law_911 : decode cL_law 911 = .ok (.iconst 1, 1) := by decide +kernel
theorem dL_law_912 : decode cL_law 912 = .ok (.iadd, 1) := by decide +kernel
theorem dL_law_913 : decode cL_law 913 = .ok (.iaload, 1) := by decide +kernel
theorem dL_law_914 : decode cL_law 914 = .ok (.invokevirtual 202, 3) := by decide +kernel
theorem dL_law_917 : decode cL_law 917 = .ok (.istore 7, 2) := by decide +kernel
theorem dL_law_919 : decode cL_law 919 = .ok (.aload_n 2, 1) := by decide +kernel
theorem dL_law_920 : decode cL_law 920 = .ok (.invokevirtual 157, 3) := by decide +kernel
theorem dL_law_923 : decode cL_law 923 = .ok (.iload 6, 2) := by decide +kernel
theorem dL_law_925 : decode cL_law 925 = .ok (.if_icmp .eq 5, 3) := by decide +kernel
theorem dL_law_930 : decode cL_law 930 = .ok (.iload 6, 2) := by decide +kernel
theorem dL_law_932 : decode cL_law 932 = .ok (.ifCond .ne 22, 3) := by decide +kernel
theorem dL_law_954 : decode cL_law 954 = .ok (.goto 1784, 3) := by decide +kernel
theorem dL_law_957 : decode cL_law 957 = .ok (.aload_n 1, 1) := by decide +kernel
theorem dL_law_958 : decode cL_law 958 = .ok (.aload_n 0, 1) := by decide +kernel
theorem dL_law_959 : decode cL_law 959 = .ok (.iload 5, 2) := by decide +kernel
theorem dL_law_961 : decode cL_law 961 = .ok (.iconst 1, 1) := by decide +kernel
theorem dL_law_962 : decode cL_law 962 = .ok (.iadd, 1) := by decide +kernel
theorem dL_law_963 : decode cL_law 963 = .ok (.iaload, 1) := by decide +kernel
theorem dL_law_964 : decode cL_law 964 = .ok (.aload_n 0, 1) := by decide +kernel
theorem dL_law_965 : decode cL_law 965 = .ok (.iload 5, 2) := by decide +kernel
theorem dL_law_967 : decode cL_law 967 = .ok (.iconst 2, 1) := by decide +kernel
theorem dL_law_968 : decode cL_law 968 = .ok (.iadd, 1) := by decide +kernel
theorem dL_law_969 : decode cL_law 969 = .ok (.iaload, 1) := by decide +kernel
theorem dL_law_970 : decode cL_law 970 = .ok (.aload_n 3, 1) := by decide +kernel
theorem dL_law_971 : decode cL_law 971 = .ok (.invokestatic 203, 3) := by decide +kernel
theorem dL_law_974 : decode cL_law 974 = .ok (.istore 6, 2) := by decide +kernel
theorem dL_law_976 : decode cL_law 976 = .ok (.aload_n 2, 1) := by decide +kernel
theorem dL_law_977 : decode cL_law 977 = .ok (.aload_n 0, 1) := by decide +kernel
theorem dL_law_978 : decode cL_law 978 = .ok (.iload 5, 2) := by decide +kernel
theorem dL_law_980 : decode cL_law 980 = .ok (.iconst 1, 1) := by decide +kernel
theorem dL_law_981 : decode cL_law 981 = .ok (.iadd, 1) := by decide +kernel
theorem dL_law_982 : decode cL_law 982 = .ok (.iaload, 1) := by decide +kernel
theorem dL_law_983 : decode cL_law 983 = .ok (.aload_n 0, 1) := by decide +kernel
theorem dL_law_984 : decode cL_law 984 = .ok (.iload 5, 2) := by decide +kernel
theorem dL_law_986 : decode cL_law 986 = .ok (.iconst 2, 1) := by decide +kernel
theorem dL_law_987 : decode cL_law 987 = .ok (.iadd, 1) := by decide +kernel
theorem dL_law_988 : decode cL_law 988 = .ok (.iaload, 1) := by decide +kernel
theorem dL_law_989 : decode cL_law 989 = .ok (.invokevirtual 205, 3) := by decide +kernel
theorem dL_law_992 : decode cL_law 992 = .ok (.istore 7, 2) := by decide +kernel
theorem dL_law_994 : decode cL_law 994 = .ok (.aload_n 2, 1) := by decide +kernel
theorem dL_law_995 : decode cL_law 995 = .ok (.invokevirtual 157, 3) := by decide +kernel
theorem dL_law_998 : decode cL_law 998 = .ok (.iload 6, 2) := by decide +kernel
theorem dL_law_1000 : decode cL_law 1000 = .ok (.if_icmp .eq 5, 3) := by decide +kernel
theorem dL_law_1005 : decode cL_law 1005 = .ok (.iload 6, 2) := by decide +kernel
theorem dL_law_1007 : decode cL_law 1007 = .ok (.ifCond .ne 22, 3) := by decide +kernel
theorem dL_law_1029 : decode cL_law 1029 = .ok (.goto 1709, 3) := by decide +kernel
theorem dL_law_1032 : decode cL_law 1032 = .ok (.aload_n 1, 1) := by decide +kernel
theorem dL_law_1033 : decode cL_law 1033 = .ok (.aload_n 0, 1) := by decide +kernel
theorem dL_law_1034 : decode cL_law 1034 = .ok (.iload 5, 2) := by decide +kernel
theorem dL_law_1036 : decode cL_law 1036 = .ok (.iconst 1, 1) := by decide +kernel
theorem dL_law_1037 : decode cL_law 1037 = .ok (.iadd, 1) := by decide +kernel
theorem dL_law_1038 : decode cL_law 1038 = .ok (.iaload, 1) := by decide +kernel
theorem dL_law_1039 : decode cL_law 1039 = .ok (.aload_n 3, 1) := by decide +kernel
theorem dL_law_1040 : decode cL_law 1040 = .ok (.invokestatic 206, 3) := by decide +kernel
theorem dL_law_1043 : decode cL_law 1043 = .ok (.istore 6, 2) := by decide +kernel
theorem dL_law_1045 : decode cL_law 1045 = .ok (.aload_n 2, 1) := by decide +kernel
theorem dL_law_1046 : decode cL_law 1046 = .ok (.aload_n 0, 1) := by decide +kernel
theorem dL_law_1047 : decode cL_law 1047 = .ok (.iload 5, 2) := by decide +kernel
theorem dL_law_1049 : decode cL_law 1049 = .ok (.iconst 1, 1) := by decide +kernel
theorem dL_law_1050 : decode cL_law 1050 = .ok (.iadd, 1) := by decide +kernel
theorem dL_law_1051 : decode cL_law 1051 = .ok (.iaload, 1) := by decide +kernel
theorem dL_law_1052 : decode cL_law 1052 = .ok (.invokevirtual 208, 3) := by decide +kernel
theorem dL_law_1055 : decode cL_law 1055 = .ok (.istore 7, 2) := by decide +kernel
theorem dL_law_1057 : decode cL_law 1057 = .ok (.aload_n 2, 1) := by decide +kernel
theorem dL_law_1058 : decode cL_law 1058 = .ok (.invokevirtual 157, 3) := by decide +kernel
theorem dL_law_1061 : decode cL_law 1061 = .ok (.iload 6, 2) := by decide +kernel
theorem dL_law_1063 : decode cL_law 1063 = .ok (.if_icmp .eq 5, 3) := by decide +kernel
theorem dL_law_1068 : decode cL_law 1068 = .ok (.iload 6, 2) := by decide +kernel
theorem dL_law_1070 : decode cL_law 1070 = .ok (.ifCond .ne 15, 3) := by decide +kernel
theorem dL_law_1085 : decode cL_law 1085 = .ok (.goto 1653, 3) := by decide +kernel
theorem dL_law_1088 : decode cL_law 1088 = .ok (.aload_n 1, 1) := by decide +kernel
theorem dL_law_1089 : decode cL_law 1089 = .ok (.aload_n 0, 1) := by decide +kernel
theorem dL_law_1090 : decode cL_law 1090 = .ok (.iload 5, 2) := by decide +kernel
theorem dL_law_1092 : decode cL_law 1092 = .ok (.iconst 1, 1) := by decide +kernel
theorem dL_law_1093 : decode cL_law 1093 = .ok (.iadd, 1) := by decide +kernel
theorem dL_law_1094 : decode cL_law 1094 = .ok (.iaload, 1) := by decide +kernel
theorem dL_law_1095 : decode cL_law 1095 = .ok (.aload_n 3, 1) := by decide +kernel
theorem dL_law_1096 : decode cL_law 1096 = .ok (.invokestatic 209, 3) := by decide +kernel
theorem dL_law_1099 : decode cL_law 1099 = .ok (.istore 6, 2) := by decide +kernel
theorem dL_law_1101 : decode cL_law 1101 = .ok (.aload_n 2, 1) := by decide +kernel
theorem dL_law_1102 : decode cL_law 1102 = .ok (.aload_n 0, 1) := by decide +kernel
theorem dL_law_1103 : decode cL_law 1103 = .ok (.iload 5, 2) := by decide +kernel
theorem dL_law_1105 : decode cL_law 1105 = .ok (.iconst 1, 1) := by decide +kernel
theorem dL_law_1106 : decode cL_law 1106 = .ok (.iadd, 1) := by decide +kernel
theorem dL_law_1107 : decode cL_law 1107 = .ok (.iaload, 1) := by decide +kernel
theorem dL_law_1108 : decode cL_law 1108 = .ok (.invokevirtual 211, 3) := by decide +kernel
theorem dL_law_1111 : decode cL_law 1111 = .ok (.istore 7, 2) := by decide +kernel
theorem dL_law_1113 : decode cL_law 1113 = .ok (.aload_n 2, 1) := by decide +kernel
theorem dL_law_1114 : decode cL_law 1114 = .ok (.invokevirtual 157, 3) := by decide +kernel
theorem dL_law_1117 : decode cL_law 1117 = .ok (.iload 6, 2) := by decide +kernel
theorem dL_law_1119 : decode cL_law 1119 = .ok (.if_icmp .eq 5, 3) := by decide +kernel
theorem dL_law_1124 : decode cL_law 1124 = .ok (.iload 6, 2) := by decide +kernel
theorem dL_law_1126 : decode cL_law 1126 = .ok (.ifCond .ne 15, 3) := by decide +kernel
theorem dL_law_1141 : decode cL_law 1141 = .ok (.goto 1597, 3) := by decide +kernel
theorem dL_law_1144 : decode cL_law 1144 = .ok (.aload_n 1, 1) := by decide +kernel
theorem dL_law_1145 : decode cL_law 1145 = .ok (.aload_n 0, 1) := by decide +kernel
theorem dL_law_1146 : decode cL_law 1146 = .ok (.iload 5, 2) := by decide +kernel
theorem dL_law_1148 : decode cL_law 1148 = .ok (.iconst 1, 1) := by decide +kernel
theorem dL_law_1149 : decode cL_law 1149 = .ok (.iadd, 1) := by decide +kernel
theorem dL_law_1150 : decode cL_law 1150 = .ok (.iaload, 1) := by decide +kernel
theorem dL_law_1151 : decode cL_law 1151 = .ok (.aload_n 3, 1) := by decide +kernel
theorem dL_law_1152 : decode cL_law 1152 = .ok (.invokestatic 212, 3) := by decide +kernel
theorem dL_law_1155 : decode cL_law 1155 = .ok (.istore 6, 2) := by decide +kernel
theorem dL_law_1157 : decode cL_law 1157 = .ok (.aload_n 2, 1) := by decide +kernel
theorem dL_law_1158 : decode cL_law 1158 = .ok (.aload_n 0, 1) := by decide +kernel
theorem dL_law_1159 : decode cL_law 1159 = .ok (.iload 5, 2) := by decide +kernel
theorem dL_law_1161 : decode cL_law 1161 = .ok (.iconst 1, 1) := by decide +kernel
theorem dL_law_1162 : decode cL_law 1162 = .ok (.iadd, 1) := by decide +kernel
theorem dL_law_1163 : decode cL_law 1163 = .ok (.iaload, 1) := by decide +kernel
theorem dL_law_1164 : decode cL_law 1164 = .ok (.invokevirtual 214, 3) := by decide +kernel
theorem dL_law_1167 : decode cL_law 1167 = .ok (.istore 7, 2) := by decide +kernel
theorem dL_law_1169 : decode cL_law 1169 = .ok (.aload_n 2, 1) := by decide +kernel
theorem dL_law_1170 : decode cL_law 1170 = .ok (.invokevirtual 157, 3) := by decide +kernel
theorem dL_law_1173 : decode cL_law 1173 = .ok (.iload 6, 2) := by decide +kernel
theorem dL_law_1175 : decode cL_law 1175 = .ok (.if_icmp .eq 5, 3) := by decide +kernel
theorem dL_law_1180 : decode cL_law 1180 = .ok (.iload 6, 2) := by decide +kernel
theorem dL_law_1182 : decode cL_law 1182 = .ok (.ifCond .ne 15, 3) := by decide +kernel
theorem dL_law_1197 : decode cL_law 1197 = .ok (.goto 1541, 3) := by decide +kernel
theorem dL_law_1200 : decode cL_law 1200 = .ok (.aload_n 1, 1) := by decide +kernel
theorem dL_law_1201 : decode cL_law 1201 = .ok (.aload_n 0, 1) := by decide +kernel
theorem dL_law_1202 : decode cL_law 1202 = .ok (.iload 5, 2) := by decide +kernel
theorem dL_law_1204 : decode cL_law 1204 = .ok (.iconst 1, 1) := by decide +kernel
theorem dL_law_1205 : decode cL_law 1205 = .ok (.iadd, 1) := by decide +kernel
theorem dL_law_1206 : decode cL_law 1206 = .ok (.iaload, 1) := by decide +kernel
theorem dL_law_1207 : decode cL_law 1207 = .ok (.aload_n 3, 1) := by decide +kernel
theorem dL_law_1208 : decode cL_law 1208 = .ok (.invokestatic 215, 3) := by decide +kernel
theorem dL_law_1211 : decode cL_law 1211 = .ok (.istore 6, 2) := by decide +kernel
theorem dL_law_1213 : decode cL_law 1213 = .ok (.aload_n 2, 1) := by decide +kernel
theorem dL_law_1214 : decode cL_law 1214 = .ok (.aload_n 0, 1) := by decide +kernel
theorem dL_law_1215 : decode cL_law 1215 = .ok (.iload 5, 2) := by decide +kernel
theorem dL_law_1217 : decode cL_law 1217 = .ok (.iconst 1, 1) := by decide +kernel
theorem dL_law_1218 : decode cL_law 1218 = .ok (.iadd, 1) := by decide +kernel
theorem dL_law_1219 : decode cL_law 1219 = .ok (.iaload, 1) := by decide +kernel
theorem dL_law_1220 : decode cL_law 1220 = .ok (.invokevirtual 217, 3) := by decide +kernel
theorem dL_law_1223 : decode cL_law 1223 = .ok (.istore 7, 2) := by decide +kernel
theorem dL_law_1225 : decode cL_law 1225 = .ok (.aload_n 2, 1) := by decide +kernel
theorem dL_law_1226 : decode cL_law 1226 = .ok (.invokevirtual 157, 3) := by decide +kernel
theorem dL_law_1229 : decode cL_law 1229 = .ok (.iload 6, 2) := by decide +kernel
theorem dL_law_1231 : decode cL_law 1231 = .ok (.if_icmp .eq 5, 3) := by decide +kernel
theorem dL_law_1236 : decode cL_law 1236 = .ok (.iload 6, 2) := by decide +kernel
theorem dL_law_1238 : decode cL_law 1238 = .ok (.ifCond .ne 15, 3) := by decide +kernel
theorem dL_law_1253 : decode cL_law 1253 = .ok (.goto 1485, 3) := by decide +kernel
theorem dL_law_1256 : decode cL_law 1256 = .ok (.aload_n 1, 1) := by decide +kernel
theorem dL_law_1257 : decode cL_law 1257 = .ok (.aload_n 0, 1) := by decide +kernel
theorem dL_law_1258 : decode cL_law 1258 = .ok (.iload 5, 2) := by decide +kernel
theorem dL_law_1260 : decode cL_law 1260 = .ok (.iconst 1, 1) := by decide +kernel
theorem dL_law_1261 : decode cL_law 1261 = .ok (.iadd, 1) := by decide +kernel
theorem dL_law_1262 : decode cL_law 1262 = .ok (.iaload, 1) := by decide +kernel
theorem dL_law_1263 : decode cL_law 1263 = .ok (.aload_n 3, 1) := by decide +kernel
theorem dL_law_1264 : decode cL_law 1264 = .ok (.invokestatic 218, 3) := by decide +kernel
theorem dL_law_1267 : decode cL_law 1267 = .ok (.istore 6, 2) := by decide +kernel
theorem dL_law_1269 : decode cL_law 1269 = .ok (.aload_n 2, 1) := by decide +kernel
theorem dL_law_1270 : decode cL_law 1270 = .ok (.aload_n 0, 1) := by decide +kernel
theorem dL_law_1271 : decode cL_law 1271 = .ok (.iload 5, 2) := by decide +kernel
theorem dL_law_1273 : decode cL_law 1273 = .ok (.iconst 1, 1) := by decide +kernel
theorem dL_law_1274 : decode cL_law 1274 = .ok (.iadd, 1) := by decide +kernel
theorem dL_law_1275 : decode cL_law 1275 = .ok (.iaload, 1) := by decide +kernel
theorem dL_law_1276 : decode cL_law 1276 = .ok (.invokevirtual 220, 3) := by decide +kernel
theorem dL_law_1279 : decode cL_law 1279 = .ok (.istore 7, 2) := by decide +kernel
theorem dL_law_1281 : decode cL_law 1281 = .ok (.aload_n 2, 1) := by decide +kernel
theorem dL_law_1282 : decode cL_law 1282 = .ok (.invokevirtual 157, 3) := by decide +kernel
theorem dL_law_1285 : decode cL_law 1285 = .ok (.iload 6, 2) := by decide +kernel
theorem dL_law_1287 : decode cL_law 1287 = .ok (.if_icmp .eq 5, 3) := by decide +kernel
theorem dL_law_1292 : decode cL_law 1292 = .ok (.iload 6, 2) := by decide +kernel
theorem dL_law_1294 : decode cL_law 1294 = .ok (.ifCond .ne 15, 3) := by decide +kernel
theorem dL_law_1309 : decode cL_law 1309 = .ok (.goto 1429, 3) := by decide +kernel
theorem dL_law_1312 : decode cL_law 1312 = .ok (.aload_n 1, 1) := by decide +kernel
theorem dL_law_1313 : decode cL_law 1313 = .ok (.aload_n 0, 1) := by decide +kernel
theorem dL_law_1314 : decode cL_law 1314 = .ok (.iload 5, 2) := by decide +kernel
theorem dL_law_1316 : decode cL_law 1316 = .ok (.iconst 1, 1) := by decide +kernel
theorem dL_law_1317 : decode cL_law 1317 = .ok (.iadd, 1) := by decide +kernel
theorem dL_law_1318 : decode cL_law 1318 = .ok (.iaload, 1) := by decide +kernel
theorem dL_law_1319 : decode cL_law 1319 = .ok (.aload_n 0, 1) := by decide +kernel
theorem dL_law_1320 : decode cL_law 1320 = .ok (.iload 5, 2) := by decide +kernel
theorem dL_law_1322 : decode cL_law 1322 = .ok (.iconst 2, 1) := by decide +kernel
theorem dL_law_1323 : decode cL_law 1323 = .ok (.iadd, 1) := by decide +kernel
theorem dL_law_1324 : decode cL_law 1324 = .ok (.iaload, 1) := by decide +kernel
theorem dL_law_1325 : decode cL_law 1325 = .ok (.aload_n 3, 1) := by decide +kernel
theorem dL_law_1326 : decode cL_law 1326 = .ok (.invokestatic 221, 3) := by decide +kernel
theorem dL_law_1329 : decode cL_law 1329 = .ok (.istore 6, 2) := by decide +kernel
theorem dL_law_1331 : decode cL_law 1331 = .ok (.aload_n 2, 1) := by decide +kernel
theorem dL_law_1332 : decode cL_law 1332 = .ok (.aload_n 0, 1) := by decide +kernel
theorem dL_law_1333 : decode cL_law 1333 = .ok (.iload 5, 2) := by decide +kernel
theorem dL_law_1335 : decode cL_law 1335 = .ok (.iconst 1, 1) := by decide +kernel
theorem dL_law_1336 : decode cL_law 1336 = .ok (.iadd, 1) := by decide +kernel
theorem dL_law_1337 : decode cL_law 1337 = .ok (.iaload, 1) := by decide +kernel
theorem dL_law_1338 : decode cL_law 1338 = .ok (.aload_n 0, 1) := by decide +kernel
theorem dL_law_1339 : decode cL_law 1339 = .ok (.iload 5, 2) := by decide +kernel
theorem dL_law_1341 : decode cL_law 1341 = .ok (.iconst 2, 1) := by decide +kernel
theorem dL_law_1342 : decode cL_law 1342 = .ok (.iadd, 1) := by decide +kernel
theorem dL_law_1343 : decode cL_law 1343 = .ok (.iaload, 1) := by decide +kernel
theorem dL_law_1344 : decode cL_law 1344 = .ok (.invokevirtual 223, 3) := by decide +kernel
theorem dL_law_1347 : decode cL_law 1347 = .ok (.istore 7, 2) := by decide +kernel
theorem dL_law_1349 : decode cL_law 1349 = .ok (.aload_n 2, 1) := by decide +kernel
theorem dL_law_1350 : decode cL_law 1350 = .ok (.invokevirtual 157, 3) := by decide +kernel
theorem dL_law_1353 : decode cL_law 1353 = .ok (.iload 6, 2) := by decide +kernel
theorem dL_law_1355 : decode cL_law 1355 = .ok (.if_icmp .eq 5, 3) := by decide +kernel
theorem dL_law_1360 : decode cL_law 1360 = .ok (.iload 6, 2) := by decide +kernel
theorem dL_law_1362 : decode cL_law 1362 = .ok (.ifCond .ne 15, 3) := by decide +kernel
theorem dL_law_1377 : decode cL_law 1377 = .ok (.goto 1361, 3) := by decide +kernel
theorem dL_law_1380 : decode cL_law 1380 = .ok (.aload_n 1, 1) := by decide +kernel
theorem dL_law_1381 : decode cL_law 1381 = .ok (.aload_n 0, 1) := by decide +kernel
theorem dL_law_1382 : decode cL_law 1382 = .ok (.iload 5, 2) := by decide +kernel
theorem dL_law_1384 : decode cL_law 1384 = .ok (.iconst 1, 1) := by decide +kernel
theorem dL_law_1385 : decode cL_law 1385 = .ok (.iadd, 1) := by decide +kernel
theorem dL_law_1386 : decode cL_law 1386 = .ok (.iaload, 1) := by decide +kernel
theorem dL_law_1387 : decode cL_law 1387 = .ok (.aload_n 3, 1) := by decide +kernel
theorem dL_law_1388 : decode cL_law 1388 = .ok (.invokestatic 224, 3) := by decide +kernel
theorem dL_law_1391 : decode cL_law 1391 = .ok (.istore 6, 2) := by decide +kernel
theorem dL_law_1393 : decode cL_law 1393 = .ok (.aload_n 2, 1) := by decide +kernel
theorem dL_law_1394 : decode cL_law 1394 = .ok (.aload_n 0, 1) := by decide +kernel
theorem dL_law_1395 : decode cL_law 1395 = .ok (.iload 5, 2) := by decide +kernel
theorem dL_law_1397 : decode cL_law 1397 = .ok (.iconst 1, 1) := by decide +kernel
theorem dL_law_1398 : decode cL_law 1398 = .ok (.iadd, 1) := by decide +kernel
theorem dL_law_1399 : decode cL_law 1399 = .ok (.iaload, 1) := by decide +kernel
theorem dL_law_1400 : decode cL_law 1400 = .ok (.invokevirtual 226, 3) := by decide +kernel
theorem dL_law_1403 : decode cL_law 1403 = .ok (.istore 7, 2) := by decide +kernel
theorem dL_law_1405 : decode cL_law 1405 = .ok (.aload_n 2, 1) := by decide +kernel
theorem dL_law_1406 : decode cL_law 1406 = .ok (.invokevirtual 157, 3) := by decide +kernel
theorem dL_law_1409 : decode cL_law 1409 = .ok (.iload 6, 2) := by decide +kernel
theorem dL_law_1411 : decode cL_law 1411 = .ok (.if_icmp .eq 5, 3) := by decide +kernel
theorem dL_law_1416 : decode cL_law 1416 = .ok (.iload 6, 2) := by decide +kernel
theorem dL_law_1418 : decode cL_law 1418 = .ok (.ifCond .ne 15, 3) := by decide +kernel
theorem dL_law_1433 : decode cL_law 1433 = .ok (.goto 1305, 3) := by decide +kernel
theorem dL_law_1436 : decode cL_law 1436 = .ok (.aload_n 1, 1) := by decide +kernel
theorem dL_law_1437 : decode cL_law 1437 = .ok (.invokevirtual 227, 3) := by decide +kernel
theorem dL_law_1440 : decode cL_law 1440 = .ok (.aload_n 2, 1) := by decide +kernel
theorem dL_law_1441 : decode cL_law 1441 = .ok (.invokevirtual 230, 3) := by decide +kernel
theorem dL_law_1444 : decode cL_law 1444 = .ok (.if_icmp .eq 1294, 3) := by decide +kernel
theorem dL_law_1449 : decode cL_law 1449 = .ok (.aload_n 1, 1) := by decide +kernel
theorem dL_law_1450 : decode cL_law 1450 = .ok (.aload_n 0, 1) := by decide +kernel
theorem dL_law_1451 : decode cL_law 1451 = .ok (.iload 5, 2) := by decide +kernel
theorem dL_law_1453 : decode cL_law 1453 = .ok (.iconst 1, 1) := by decide +kernel
theorem dL_law_1454 : decode cL_law 1454 = .ok (.iadd, 1) := by decide +kernel
theorem dL_law_1455 : decode cL_law 1455 = .ok (.iaload, 1) := by decide +kernel
theorem dL_law_1456 : decode cL_law 1456 = .ok (.aload_n 3, 1) := by decide +kernel
theorem dL_law_1457 : decode cL_law 1457 = .ok (.invokestatic 231, 3) := by decide +kernel
theorem dL_law_1460 : decode cL_law 1460 = .ok (.istore 6, 2) := by decide +kernel
theorem dL_law_1462 : decode cL_law 1462 = .ok (.aload_n 2, 1) := by decide +kernel
theorem dL_law_1463 : decode cL_law 1463 = .ok (.aload_n 0, 1) := by decide +kernel
theorem dL_law_1464 : decode cL_law 1464 = .ok (.iload 5, 2) := by decide +kernel
theorem dL_law_1466 : decode cL_law 1466 = .ok (.iconst 1, 1) := by decide +kernel
theorem dL_law_1467 : decode cL_law 1467 = .ok (.iadd, 1) := by decide +kernel
theorem dL_law_1468 : decode cL_law 1468 = .ok (.iaload, 1) := by decide +kernel
theorem dL_law_1469 : decode cL_law 1469 = .ok (.invokevirtual 233, 3) := by decide +kernel
theorem dL_law_1472 : decode cL_law 1472 = .ok (.istore 7, 2) := by decide +kernel
theorem dL_law_1474 : decode cL_law 1474 = .ok (.aload_n 2, 1) := by decide +kernel
theorem dL_law_1475 : decode cL_law 1475 = .ok (.invokevirtual 157, 3) := by decide +kernel
theorem dL_law_1478 : decode cL_law 1478 = .ok (.iload 6, 2) := by decide +kernel
theorem dL_law_1480 : decode cL_law 1480 = .ok (.if_icmp .eq 5, 3) := by decide +kernel
theorem dL_law_1485 : decode cL_law 1485 = .ok (.iload 6, 2) := by decide +kernel
theorem dL_law_1487 : decode cL_law 1487 = .ok (.ifCond .ne 15, 3) := by decide +kernel
theorem dL_law_1502 : decode cL_law 1502 = .ok (.goto 1236, 3) := by decide +kernel
theorem dL_law_1505 : decode cL_law 1505 = .ok (.aload_n 1, 1) := by decide +kernel
theorem dL_law_1506 : decode cL_law 1506 = .ok (.aload_n 0, 1) := by decide +kernel
theorem dL_law_1507 : decode cL_law 1507 = .ok (.iload 5, 2) := by decide +kernel
theorem dL_law_1509 : decode cL_law 1509 = .ok (.iconst 1, 1) := by decide +kernel
theorem dL_law_1510 : decode cL_law 1510 = .ok (.iadd, 1) := by decide +kernel
theorem dL_law_1511 : decode cL_law 1511 = .ok (.iaload, 1) := by decide +kernel
theorem dL_law_1512 : decode cL_law 1512 = .ok (.aload_n 0, 1) := by decide +kernel
theorem dL_law_1513 : decode cL_law 1513 = .ok (.iload 5, 2) := by decide +kernel
theorem dL_law_1515 : decode cL_law 1515 = .ok (.iconst 2, 1) := by decide +kernel
theorem dL_law_1516 : decode cL_law 1516 = .ok (.iadd, 1) := by decide +kernel
theorem dL_law_1517 : decode cL_law 1517 = .ok (.iaload, 1) := by decide +kernel
theorem dL_law_1518 : decode cL_law 1518 = .ok (.aload_n 3, 1) := by decide +kernel
theorem dL_law_1519 : decode cL_law 1519 = .ok (.invokestatic 234, 3) := by decide +kernel
theorem dL_law_1522 : decode cL_law 1522 = .ok (.istore 6, 2) := by decide +kernel
theorem dL_law_1524 : decode cL_law 1524 = .ok (.aload_n 2, 1) := by decide +kernel
theorem dL_law_1525 : decode cL_law 1525 = .ok (.aload_n 0, 1) := by decide +kernel
theorem dL_law_1526 : decode cL_law 1526 = .ok (.iload 5, 2) := by decide +kernel
theorem dL_law_1528 : decode cL_law 1528 = .ok (.iconst 1, 1) := by decide +kernel
theorem dL_law_1529 : decode cL_law 1529 = .ok (.iadd, 1) := by decide +kernel
theorem dL_law_1530 : decode cL_law 1530 = .ok (.iaload, 1) := by decide +kernel
theorem dL_law_1531 : decode cL_law 1531 = .ok (.aload_n 0, 1) := by decide +kernel
theorem dL_law_1532 : decode cL_law 1532 = .ok (.iload 5, 2) := by decide +kernel
theorem dL_law_1534 : decode cL_law 1534 = .ok (.iconst 2, 1) := by decide +kernel
theorem dL_law_1535 : decode cL_law 1535 = .ok (.iadd, 1) := by decide +kernel
theorem dL_law_1536 : decode cL_law 1536 = .ok (.iaload, 1) := by decide +kernel
theorem dL_law_1537 : decode cL_law 1537 = .ok (.invokevirtual 236, 3) := by decide +kernel
theorem dL_law_1540 : decode cL_law 1540 = .ok (.istore 7, 2) := by decide +kernel
theorem dL_law_1542 : decode cL_law 1542 = .ok (.aload_n 2, 1) := by decide +kernel
theorem dL_law_1543 : decode cL_law 1543 = .ok (.invokevirtual 157, 3) := by decide +kernel
theorem dL_law_1546 : decode cL_law 1546 = .ok (.iload 6, 2) := by decide +kernel
theorem dL_law_1548 : decode cL_law 1548 = .ok (.if_icmp .eq 5, 3) := by decide +kernel
theorem dL_law_1553 : decode cL_law 1553 = .ok (.iload 6, 2) := by decide +kernel
theorem dL_law_1555 : decode cL_law 1555 = .ok (.ifCond .ne 15, 3) := by decide +kernel
theorem dL_law_1570 : decode cL_law 1570 = .ok (.goto 1168, 3) := by decide +kernel
theorem dL_law_1573 : decode cL_law 1573 = .ok (.aload_n 1, 1) := by decide +kernel
theorem dL_law_1574 : decode cL_law 1574 = .ok (.aload_n 0, 1) := by decide +kernel
theorem dL_law_1575 : decode cL_law 1575 = .ok (.iload 5, 2) := by decide +kernel
theorem dL_law_1577 : decode cL_law 1577 = .ok (.iconst 1, 1) := by decide +kernel
theorem dL_law_1578 : decode cL_law 1578 = .ok (.iadd, 1) := by decide +kernel
theorem dL_law_1579 : decode cL_law 1579 = .ok (.iaload, 1) := by decide +kernel
theorem dL_law_1580 : decode cL_law 1580 = .ok (.aload_n 3, 1) := by decide +kernel
theorem dL_law_1581 : decode cL_law 1581 = .ok (.invokestatic 237, 3) := by decide +kernel
theorem dL_law_1584 : decode cL_law 1584 = .ok (.istore 6, 2) := by decide +kernel
theorem dL_law_1586 : decode cL_law 1586 = .ok (.aload_n 2, 1) := by decide +kernel
theorem dL_law_1587 : decode cL_law 1587 = .ok (.aload_n 0, 1) := by decide +kernel
theorem dL_law_1588 : decode cL_law 1588 = .ok (.iload 5, 2) := by decide +kernel
theorem dL_law_1590 : decode cL_law 1590 = .ok (.iconst 1, 1) := by decide +kernel
theorem dL_law_1591 : decode cL_law 1591 = .ok (.iadd, 1) := by decide +kernel
theorem dL_law_1592 : decode cL_law 1592 = .ok (.iaload, 1) := by decide +kernel
theorem dL_law_1593 : decode cL_law 1593 = .ok (.invokevirtual 239, 3) := by decide +kernel
theorem dL_law_1596 : decode cL_law 1596 = .ok (.istore 7, 2) := by decide +kernel
theorem dL_law_1598 : decode cL_law 1598 = .ok (.aload_n 2, 1) := by decide +kernel
theorem dL_law_1599 : decode cL_law 1599 = .ok (.invokevirtual 157, 3) := by decide +kernel
theorem dL_law_1602 : decode cL_law 1602 = .ok (.iload 6, 2) := by decide +kernel
theorem dL_law_1604 : decode cL_law 1604 = .ok (.if_icmp .eq 5, 3) := by decide +kernel
theorem dL_law_1609 : decode cL_law 1609 = .ok (.iload 6, 2) := by decide +kernel
theorem dL_law_1611 : decode cL_law 1611 = .ok (.ifCond .ne 15, 3) := by decide +kernel
theorem dL_law_1626 : decode cL_law 1626 = .ok (.goto 1112, 3) := by decide +kernel
theorem dL_law_1629 : decode cL_law 1629 = .ok (.aload_n 1, 1) := by decide +kernel
theorem dL_law_1630 : decode cL_law 1630 = .ok (.aload_n 0, 1) := by decide +kernel
theorem dL_law_1631 : decode cL_law 1631 = .ok (.iload 5, 2) := by decide +kernel
theorem dL_law_1633 : decode cL_law 1633 = .ok (.iconst 1, 1) := by decide +kernel
theorem dL_law_1634 : decode cL_law 1634 = .ok (.iadd, 1) := by decide +kernel
theorem dL_law_1635 : decode cL_law 1635 = .ok (.iaload, 1) := by decide +kernel
theorem dL_law_1636 : decode cL_law 1636 = .ok (.aload_n 3, 1) := by decide +kernel
theorem dL_law_1637 : decode cL_law 1637 = .ok (.invokestatic 240, 3) := by decide +kernel
theorem dL_law_1640 : decode cL_law 1640 = .ok (.istore 6, 2) := by decide +kernel
theorem dL_law_1642 : decode cL_law 1642 = .ok (.aload_n 2, 1) := by decide +kernel
theorem dL_law_1643 : decode cL_law 1643 = .ok (.aload_n 0, 1) := by decide +kernel
theorem dL_law_1644 : decode cL_law 1644 = .ok (.iload 5, 2) := by decide +kernel
theorem dL_law_1646 : decode cL_law 1646 = .ok (.iconst 1, 1) := by decide +kernel
theorem dL_law_1647 : decode cL_law 1647 = .ok (.iadd, 1) := by decide +kernel
theorem dL_law_1648 : decode cL_law 1648 = .ok (.iaload, 1) := by decide +kernel
theorem dL_law_1649 : decode cL_law 1649 = .ok (.invokevirtual 242, 3) := by decide +kernel
theorem dL_law_1652 : decode cL_law 1652 = .ok (.istore 7, 2) := by decide +kernel
theorem dL_law_1654 : decode cL_law 1654 = .ok (.aload_n 2, 1) := by decide +kernel
theorem dL_law_1655 : decode cL_law 1655 = .ok (.invokevirtual 157, 3) := by decide +kernel
theorem dL_law_1658 : decode cL_law 1658 = .ok (.iload 6, 2) := by decide +kernel
theorem dL_law_1660 : decode cL_law 1660 = .ok (.if_icmp .eq 5, 3) := by decide +kernel
theorem dL_law_1665 : decode cL_law 1665 = .ok (.iload 6, 2) := by decide +kernel
theorem dL_law_1667 : decode cL_law 1667 = .ok (.ifCond .ne 15, 3) := by decide +kernel
theorem dL_law_1682 : decode cL_law 1682 = .ok (.goto 1056, 3) := by decide +kernel
theorem dL_law_1685 : decode cL_law 1685 = .ok (.aload_n 1, 1) := by decide +kernel
theorem dL_law_1686 : decode cL_law 1686 = .ok (.aload_n 0, 1) := by decide +kernel
theorem dL_law_1687 : decode cL_law 1687 = .ok (.iload 5, 2) := by decide +kernel
theorem dL_law_1689 : decode cL_law 1689 = .ok (.iconst 1, 1) := by decide +kernel
theorem dL_law_1690 : decode cL_law 1690 = .ok (.iadd, 1) := by decide +kernel
theorem dL_law_1691 : decode cL_law 1691 = .ok (.iaload, 1) := by decide +kernel
theorem dL_law_1692 : decode cL_law 1692 = .ok (.aload_n 0, 1) := by decide +kernel
theorem dL_law_1693 : decode cL_law 1693 = .ok (.iload 5, 2) := by decide +kernel
theorem dL_law_1695 : decode cL_law 1695 = .ok (.iconst 2, 1) := by decide +kernel
theorem dL_law_1696 : decode cL_law 1696 = .ok (.iadd, 1) := by decide +kernel
theorem dL_law_1697 : decode cL_law 1697 = .ok (.iaload, 1) := by decide +kernel
theorem dL_law_1698 : decode cL_law 1698 = .ok (.aload_n 3, 1) := by decide +kernel
theorem dL_law_1699 : decode cL_law 1699 = .ok (.invokestatic 243, 3) := by decide +kernel
theorem dL_law_1702 : decode cL_law 1702 = .ok (.istore 6, 2) := by decide +kernel
theorem dL_law_1704 : decode cL_law 1704 = .ok (.aload_n 2, 1) := by decide +kernel
theorem dL_law_1705 : decode cL_law 1705 = .ok (.aload_n 0, 1) := by decide +kernel
theorem dL_law_1706 : decode cL_law 1706 = .ok (.iload 5, 2) := by decide +kernel
theorem dL_law_1708 : decode cL_law 1708 = .ok (.iconst 1, 1) := by decide +kernel
theorem dL_law_1709 : decode cL_law 1709 = .ok (.iadd, 1) := by decide +kernel
theorem dL_law_1710 : decode cL_law 1710 = .ok (.iaload, 1) := by decide +kernel
theorem dL_law_1711 : decode cL_law 1711 = .ok (.aload_n 0, 1) := by decide +kernel
theorem dL_law_1712 : decode cL_law 1712 = .ok (.iload 5, 2) := by decide +kernel
theorem dL_law_1714 : decode cL_law 1714 = .ok (.iconst 2, 1) := by decide +kernel
theorem dL_law_1715 : decode cL_law 1715 = .ok (.iadd, 1) := by decide +kernel
theorem dL_law_1716 : decode cL_law 1716 = .ok (.iaload, 1) := by decide +kernel
theorem dL_law_1717 : decode cL_law 1717 = .ok (.invokevirtual 245, 3) := by decide +kernel
theorem dL_law_1720 : decode cL_law 1720 = .ok (.istore 7, 2) := by decide +kernel
theorem dL_law_1722 : decode cL_law 1722 = .ok (.aload_n 2, 1) := by decide +kernel
theorem dL_law_1723 : decode cL_law 1723 = .ok (.invokevirtual 157, 3) := by decide +kernel
theorem dL_law_1726 : decode cL_law 1726 = .ok (.iload 6, 2) := by decide +kernel
theorem dL_law_1728 : decode cL_law 1728 = .ok (.if_icmp .eq 5, 3) := by decide +kernel
theorem dL_law_1733 : decode cL_law 1733 = .ok (.iload 6, 2) := by decide +kernel
theorem dL_law_1735 : decode cL_law 1735 = .ok (.ifCond .ne 15, 3) := by decide +kernel
theorem dL_law_1750 : decode cL_law 1750 = .ok (.goto 988, 3) := by decide +kernel
theorem dL_law_1753 : decode cL_law 1753 = .ok (.aload_n 1, 1) := by decide +kernel
theorem dL_law_1754 : decode cL_law 1754 = .ok (.aload_n 0, 1) := by decide +kernel
theorem dL_law_1755 : decode cL_law 1755 = .ok (.iload 5, 2) := by decide +kernel
theorem dL_law_1757 : decode cL_law 1757 = .ok (.iconst 1, 1) := by decide +kernel
theorem dL_law_1758 : decode cL_law 1758 = .ok (.iadd, 1) := by decide +kernel
theorem dL_law_1759 : decode cL_law 1759 = .ok (.iaload, 1) := by decide +kernel
theorem dL_law_1760 : decode cL_law 1760 = .ok (.aload_n 3, 1) := by decide +kernel
theorem dL_law_1761 : decode cL_law 1761 = .ok (.invokestatic 246, 3) := by decide +kernel
theorem dL_law_1764 : decode cL_law 1764 = .ok (.istore 6, 2) := by decide +kernel
theorem dL_law_1766 : decode cL_law 1766 = .ok (.aload_n 2, 1) := by decide +kernel
theorem dL_law_1767 : decode cL_law 1767 = .ok (.aload_n 0, 1) := by decide +kernel
theorem dL_law_1768 : decode cL_law 1768 = .ok (.iload 5, 2) := by decide +kernel
theorem dL_law_1770 : decode cL_law 1770 = .ok (.iconst 1, 1) := by decide +kernel
theorem dL_law_1771 : decode cL_law 1771 = .ok (.iadd, 1) := by decide +kernel
theorem dL_law_1772 : decode cL_law 1772 = .ok (.iaload, 1) := by decide +kernel
theorem dL_law_1773 : decode cL_law 1773 = .ok (.invokevirtual 248, 3) := by decide +kernel
theorem dL_law_1776 : decode cL_law 1776 = .ok (.istore 7, 2) := by decide +kernel
theorem dL_law_1778 : decode cL_law 1778 = .ok (.aload_n 2, 1) := by decide +kernel
theorem dL_law_1779 : decode cL_law 1779 = .ok (.invokevirtual 157, 3) := by decide +kernel
theorem dL_law_1782 : decode cL_law 1782 = .ok (.iload 6, 2) := by decide +kernel
theorem dL_law_1784 : decode cL_law 1784 = .ok (.if_icmp .eq 5, 3) := by decide +kernel
theorem dL_law_1789 : decode cL_law 1789 = .ok (.iload 6, 2) := by decide +kernel
theorem dL_law_1791 : decode cL_law 1791 = .ok (.ifCond .ne 15, 3) := by decide +kernel
theorem dL_law_1806 : decode cL_law 1806 = .ok (.goto 932, 3) := by decide +kernel
theorem dL_law_1809 : decode cL_law 1809 = .ok (.aload_n 1, 1) := by decide +kernel
theorem dL_law_1810 : decode cL_law 1810 = .ok (.aload_n 0, 1) := by decide +kernel
theorem dL_law_1811 : decode cL_law 1811 = .ok (.iload 5, 2) := by decide +kernel
theorem dL_law_1813 : decode cL_law 1813 = .ok (.iconst 1, 1) := by decide +kernel
theorem dL_law_1814 : decode cL_law 1814 = .ok (.iadd, 1) := by decide +kernel
theorem dL_law_1815 : decode cL_law 1815 = .ok (.iaload, 1) := by decide +kernel
theorem dL_law_1816 : decode cL_law 1816 = .ok (.aload_n 0, 1) := by decide +kernel
theorem dL_law_1817 : decode cL_law 1817 = .ok (.iload 5, 2) := by decide +kernel
theorem dL_law_1819 : decode cL_law 1819 = .ok (.iconst 2, 1) := by decide +kernel
theorem dL_law_1820 : decode cL_law 1820 = .ok (.iadd, 1) := by decide +kernel
theorem dL_law_1821 : decode cL_law 1821 = .ok (.iaload, 1) := by decide +kernel
theorem dL_law_1822 : decode cL_law 1822 = .ok (.aload_n 0, 1) := by decide +kernel
theorem dL_law_1823 : decode cL_law 1823 = .ok (.iload 5, 2) := by decide +kernel
theorem dL_law_1825 : decode cL_law 1825 = .ok (.iconst 3, 1) := by decide +kernel
theorem dL_law_1826 : decode cL_law 1826 = .ok (.iadd, 1) := by decide +kernel
theorem dL_law_1827 : decode cL_law 1827 = .ok (.iaload, 1) := by decide +kernel
theorem dL_law_1828 : decode cL_law 1828 = .ok (.i2c, 1) := by decide +kernel
theorem dL_law_1829 : decode cL_law 1829 = .ok (.aload_n 3, 1) := by decide +kernel
theorem dL_law_1830 : decode cL_law 1830 = .ok (.invokestatic 249, 3) := by decide +kernel
theorem dL_law_1833 : decode cL_law 1833 = .ok (.istore 6, 2) := by decide +kernel
theorem dL_law_1835 : decode cL_law 1835 = .ok (.aload_n 2, 1) := by decide +kernel
theorem dL_law_1836 : decode cL_law 1836 = .ok (.aload_n 0, 1) := by decide +kernel
theorem dL_law_1837 : decode cL_law 1837 = .ok (.iload 5, 2) := by decide +kernel
theorem dL_law_1839 : decode cL_law 1839 = .ok (.iconst 1, 1) := by decide +kernel
theorem dL_law_1840 : decode cL_law 1840 = .ok (.iadd, 1) := by decide +kernel
theorem dL_law_1841 : decode cL_law 1841 = .ok (.iaload, 1) := by decide +kernel
theorem dL_law_1842 : decode cL_law 1842 = .ok (.aload_n 0, 1) := by decide +kernel
theorem dL_law_1843 : decode cL_law 1843 = .ok (.iload 5, 2) := by decide +kernel
theorem dL_law_1845 : decode cL_law 1845 = .ok (.iconst 2, 1) := by decide +kernel
theorem dL_law_1846 : decode cL_law 1846 = .ok (.iadd, 1) := by decide +kernel
theorem dL_law_1847 : decode cL_law 1847 = .ok (.iaload, 1) := by decide +kernel
theorem dL_law_1848 : decode cL_law 1848 = .ok (.aload_n 0, 1) := by decide +kernel
theorem dL_law_1849 : decode cL_law 1849 = .ok (.iload 5, 2) := by decide +kernel
theorem dL_law_1851 : decode cL_law 1851 = .ok (.iconst 3, 1) := by decide +kernel
theorem dL_law_1852 : decode cL_law 1852 = .ok (.iadd, 1) := by decide +kernel
theorem dL_law_1853 : decode cL_law 1853 = .ok (.iaload, 1) := by decide +kernel
theorem dL_law_1854 : decode cL_law 1854 = .ok (.i2c, 1) := by decide +kernel
theorem dL_law_1855 : decode cL_law 1855 = .ok (.invokevirtual 252, 3) := by decide +kernel
theorem dL_law_1858 : decode cL_law 1858 = .ok (.istore 7, 2) := by decide +kernel
theorem dL_law_1860 : decode cL_law 1860 = .ok (.aload_n 2, 1) := by decide +kernel
theorem dL_law_1861 : decode cL_law 1861 = .ok (.invokevirtual 157, 3) := by decide +kernel
theorem dL_law_1864 : decode cL_law 1864 = .ok (.iload 6, 2) := by decide +kernel
theorem dL_law_1866 : decode cL_law 1866 = .ok (.if_icmp .eq 5, 3) := by decide +kernel
theorem dL_law_1871 : decode cL_law 1871 = .ok (.iload 6, 2) := by decide +kernel
theorem dL_law_1873 : decode cL_law 1873 = .ok (.ifCond .ne 15, 3) := by decide +kernel
theorem dL_law_1888 : decode cL_law 1888 = .ok (.goto 850, 3) := by decide +kernel
theorem dL_law_1891 : decode cL_law 1891 = .ok (.aload_n 1, 1) := by decide +kernel
theorem dL_law_1892 : decode cL_law 1892 = .ok (.aload_n 0, 1) := by decide +kernel
theorem dL_law_1893 : decode cL_law 1893 = .ok (.iload 5, 2) := by decide +kernel
theorem dL_law_1895 : decode cL_law 1895 = .ok (.iconst 1, 1) := by decide +kernel
theorem dL_law_1896 : decode cL_law 1896 = .ok (.iadd, 1) := by decide +kernel
theorem dL_law_1897 : decode cL_law 1897 = .ok (.iaload, 1) := by decide +kernel
theorem dL_law_1898 : decode cL_law 1898 = .ok (.aload_n 0, 1) := by decide +kernel
theorem dL_law_1899 : decode cL_law 1899 = .ok (.iload 5, 2) := by decide +kernel
theorem dL_law_1901 : decode cL_law 1901 = .ok (.iconst 2, 1) := by decide +kernel
theorem dL_law_1902 : decode cL_law 1902 = .ok (.iadd, 1) := by decide +kernel
theorem dL_law_1903 : decode cL_law 1903 = .ok (.iaload, 1) := by decide +kernel
theorem dL_law_1904 : decode cL_law 1904 = .ok (.aload_n 3, 1) := by decide +kernel
theorem dL_law_1905 : decode cL_law 1905 = .ok (.invokestatic 253, 3) := by decide +kernel
theorem dL_law_1908 : decode cL_law 1908 = .ok (.istore 6, 2) := by decide +kernel
theorem dL_law_1910 : decode cL_law 1910 = .ok (.aload_n 2, 1) := by decide +kernel
theorem dL_law_1911 : decode cL_law 1911 = .ok (.aload_n 0, 1) := by decide +kernel
theorem dL_law_1912 : decode cL_law 1912 = .ok (.iload 5, 2) := by decide +kernel
theorem dL_law_1914 : decode cL_law 1914 = .ok (.iconst 1, 1) := by decide +kernel
theorem dL_law_1915 : decode cL_law 1915 = .ok (.iadd, 1) := by decide +kernel
theorem dL_law_1916 : decode cL_law 1916 = .ok (.iaload, 1) := by decide +kernel
theorem dL_law_1917 : decode cL_law 1917 = .ok (.aload_n 0, 1) := by decide +kernel
theorem dL_law_1918 : decode cL_law 1918 = .ok (.iload 5, 2) := by decide +kernel
theorem dL_law_1920 : decode cL_law 1920 = .ok (.iconst 2, 1) := by decide +kernel
theorem dL_law_1921 : decode cL_law 1921 = .ok (.iadd, 1) := by decide +kernel
theorem dL_law_1922 : decode cL_law 1922 = .ok (.iaload, 1) := by decide +kernel
theorem dL_law_1923 : decode cL_law 1923 = .ok (.invokevirtual 255, 3) := by decide +kernel
theorem dL_law_1926 : decode cL_law 1926 = .ok (.istore 7, 2) := by decide +kernel
theorem dL_law_1928 : decode cL_law 1928 = .ok (.aload_n 2, 1) := by decide +kernel
theorem dL_law_1929 : decode cL_law 1929 = .ok (.invokevirtual 157, 3) := by decide +kernel
theorem dL_law_1932 : decode cL_law 1932 = .ok (.iload 6, 2) := by decide +kernel
theorem dL_law_1934 : decode cL_law 1934 = .ok (.if_icmp .eq 5, 3) := by decide +kernel
theorem dL_law_1939 : decode cL_law 1939 = .ok (.iload 6, 2) := by decide +kernel
theorem dL_law_1941 : decode cL_law 1941 = .ok (.ifCond .ne 15, 3) := by decide +kernel
theorem dL_law_1956 : decode cL_law 1956 = .ok (.goto 782, 3) := by decide +kernel
theorem dL_law_1959 : decode cL_law 1959 = .ok (.aload_n 1, 1) := by decide +kernel
theorem dL_law_1960 : decode cL_law 1960 = .ok (.aload_n 0, 1) := by decide +kernel
theorem dL_law_1961 : decode cL_law 1961 = .ok (.iload 5, 2) := by decide +kernel
theorem dL_law_1963 : decode cL_law 1963 = .ok (.iconst 1, 1) := by decide +kernel
theorem dL_law_1964 : decode cL_law 1964 = .ok (.iadd, 1) := by decide +kernel
theorem dL_law_1965 : decode cL_law 1965 = .ok (.iaload, 1) := by decide +kernel
theorem dL_law_1966 : decode cL_law 1966 = .ok (.aload_n 0, 1) := by decide +kernel
theorem dL_law_1967 : decode cL_law 1967 = .ok (.iload 5, 2) := by decide +kernel
theorem dL_law_1969 : decode cL_law 1969 = .ok (.iconst 2, 1) := by decide +kernel
theorem dL_law_1970 : decode cL_law 1970 = .ok (.iadd, 1) := by decide +kernel
theorem dL_law_1971 : decode cL_law 1971 = .ok (.iaload, 1) := by decide +kernel
theorem dL_law_1972 : decode cL_law 1972 = .ok (.aload_n 3, 1) := by decide +kernel
theorem dL_law_1973 : decode cL_law 1973 = .ok (.invokestatic 256, 3) := by decide +kernel
theorem dL_law_1976 : decode cL_law 1976 = .ok (.istore 6, 2) := by decide +kernel
theorem dL_law_1978 : decode cL_law 1978 = .ok (.aload_n 2, 1) := by decide +kernel
theorem dL_law_1979 : decode cL_law 1979 = .ok (.aload_n 0, 1) := by decide +kernel
theorem dL_law_1980 : decode cL_law 1980 = .ok (.iload 5, 2) := by decide +kernel
theorem dL_law_1982 : decode cL_law 1982 = .ok (.iconst 1, 1) := by decide +kernel
theorem dL_law_1983 : decode cL_law 1983 = .ok (.iadd, 1) := by decide +kernel
theorem dL_law_1984 : decode cL_law 1984 = .ok (.iaload, 1) := by decide +kernel
theorem dL_law_1985 : decode cL_law 1985 = .ok (.aload_n 0, 1) := by decide +kernel
theorem dL_law_1986 : decode cL_law 1986 = .ok (.iload 5, 2) := by decide +kernel
theorem dL_law_1988 : decode cL_law 1988 = .ok (.iconst 2, 1) := by decide +kernel
theorem dL_law_1989 : decode cL_law 1989 = .ok (.iadd, 1) := by decide +kernel
theorem dL_law_1990 : decode cL_law 1990 = .ok (.iaload, 1) := by decide +kernel
theorem dL_law_1991 : decode cL_law 1991 = .ok (.invokevirtual 258, 3) := by decide +kernel
theorem dL_law_1994 : decode cL_law 1994 = .ok (.istore 7, 2) := by decide +kernel
theorem dL_law_1996 : decode cL_law 1996 = .ok (.aload_n 2, 1) := by decide +kernel
theorem dL_law_1997 : decode cL_law 1997 = .ok (.invokevirtual 157, 3) := by decide +kernel
theorem dL_law_2000 : decode cL_law 2000 = .ok (.iload 6, 2) := by decide +kernel
theorem dL_law_2002 : decode cL_law 2002 = .ok (.if_icmp .eq 5, 3) := by decide +kernel
theorem dL_law_2007 : decode cL_law 2007 = .ok (.iload 6, 2) := by decide +kernel
theorem dL_law_2009 : decode cL_law 2009 = .ok (.ifCond .ne 15, 3) := by decide +kernel
theorem dL_law_2024 : decode cL_law 2024 = .ok (.goto 714, 3) := by decide +kernel
theorem dL_law_2027 : decode cL_law 2027 = .ok (.aload_n 1, 1) := by decide +kernel
theorem dL_law_2028 : decode cL_law 2028 = .ok (.aload_n 0, 1) := by decide +kernel
theorem dL_law_2029 : decode cL_law 2029 = .ok (.iload 5, 2) := by decide +kernel
theorem dL_law_2031 : decode cL_law 2031 = .ok (.iconst 1, 1) := by decide +kernel
theorem dL_law_2032 : decode cL_law 2032 = .ok (.iadd, 1) := by decide +kernel
theorem dL_law_2033 : decode cL_law 2033 = .ok (.iaload, 1) := by decide +kernel
theorem dL_law_2034 : decode cL_law 2034 = .ok (.aload_n 0, 1) := by decide +kernel
theorem dL_law_2035 : decode cL_law 2035 = .ok (.iload 5, 2) := by decide +kernel
theorem dL_law_2037 : decode cL_law 2037 = .ok (.iconst 2, 1) := by decide +kernel
theorem dL_law_2038 : decode cL_law 2038 = .ok (.iadd, 1) := by decide +kernel
theorem dL_law_2039 : decode cL_law 2039 = .ok (.iaload, 1) := by decide +kernel
theorem dL_law_2040 : decode cL_law 2040 = .ok (.aload_n 3, 1) := by decide +kernel
theorem dL_law_2041 : decode cL_law 2041 = .ok (.invokestatic 259, 3) := by decide +kernel
theorem dL_law_2044 : decode cL_law 2044 = .ok (.istore 6, 2) := by decide +kernel
theorem dL_law_2046 : decode cL_law 2046 = .ok (.aload_n 2, 1) := by decide +kernel
theorem dL_law_2047 : decode cL_law 2047 = .ok (.aload_n 0, 1) := by decide +kernel
theorem dL_law_2048 : decode cL_law 2048 = .ok (.iload 5, 2) := by decide +kernel
theorem dL_law_2050 : decode cL_law 2050 = .ok (.iconst 1, 1) := by decide +kernel
theorem dL_law_2051 : decode cL_law 2051 = .ok (.iadd, 1) := by decide +kernel
theorem dL_law_2052 : decode cL_law 2052 = .ok (.iaload, 1) := by decide +kernel
theorem dL_law_2053 : decode cL_law 2053 = .ok (.aload_n 0, 1) := by decide +kernel
theorem dL_law_2054 : decode cL_law 2054 = .ok (.iload 5, 2) := by decide +kernel
theorem dL_law_2056 : decode cL_law 2056 = .ok (.iconst 2, 1) := by decide +kernel
theorem dL_law_2057 : decode cL_law 2057 = .ok (.iadd, 1) := by decide +kernel
theorem dL_law_2058 : decode cL_law 2058 = .ok (.iaload, 1) := by decide +kernel
theorem dL_law_2059 : decode cL_law 2059 = .ok (.invokevirtual 261, 3) := by decide +kernel
theorem dL_law_2062 : decode cL_law 2062 = .ok (.istore 7, 2) := by decide +kernel
theorem dL_law_2064 : decode cL_law 2064 = .ok (.aload_n 2, 1) := by decide +kernel
theorem dL_law_2065 : decode cL_law 2065 = .ok (.invokevirtual 157, 3) := by decide +kernel
theorem dL_law_2068 : decode cL_law 2068 = .ok (.iload 6, 2) := by decide +kernel
theorem dL_law_2070 : decode cL_law 2070 = .ok (.if_icmp .eq 5, 3) := by decide +kernel
theorem dL_law_2075 : decode cL_law 2075 = .ok (.iload 6, 2) := by decide +kernel
theorem dL_law_2077 : decode cL_law 2077 = .ok (.ifCond .ne 15, 3) := by decide +kernel
theorem dL_law_2092 : decode cL_law 2092 = .ok (.goto 646, 3) := by decide +kernel
theorem dL_law_2095 : decode cL_law 2095 = .ok (.aload_n 1, 1) := by decide +kernel
theorem dL_law_2096 : decode cL_law 2096 = .ok (.aload_n 3, 1) := by decide +kernel
theorem dL_law_2097 : decode cL_law 2097 = .ok (.invokestatic 262, 3) := by decide +kernel
theorem dL_law_2100 : decode cL_law 2100 = .ok (.istore 6, 2) := by decide +kernel
theorem dL_law_2102 : decode cL_law 2102 = .ok (.aload_n 2, 1) := by decide +kernel
theorem dL_law_2103 : decode cL_law 2103 = .ok (.invokevirtual 264, 3) := by decide +kernel
theorem dL_law_2106 : decode cL_law 2106 = .ok (.istore 7, 2) := by decide +kernel
theorem dL_law_2108 : decode cL_law 2108 = .ok (.aload_n 2, 1) := by decide +kernel
theorem dL_law_2109 : decode cL_law 2109 = .ok (.invokevirtual 157, 3) := by decide +kernel
theorem dL_law_2112 : decode cL_law 2112 = .ok (.iload 6, 2) := by decide +kernel
theorem dL_law_2114 : decode cL_law 2114 = .ok (.if_icmp .eq 5, 3) := by decide +kernel
theorem dL_law_2119 : decode cL_law 2119 = .ok (.iload 6, 2) := by decide +kernel
theorem dL_law_2121 : decode cL_law 2121 = .ok (.ifCond .ne 15, 3) := by decide +kernel
theorem dL_law_2136 : decode cL_law 2136 = .ok (.goto 602, 3) := by decide +kernel
theorem dL_law_2139 : decode cL_law 2139 = .ok (.aload_n 1, 1) := by decide +kernel
theorem dL_law_2140 : decode cL_law 2140 = .ok (.aload_n 3, 1) := by decide +kernel
theorem dL_law_2141 : decode cL_law 2141 = .ok (.invokestatic 265, 3) := by decide +kernel
theorem dL_law_2144 : decode cL_law 2144 = .ok (.istore 6, 2) := by decide +kernel
theorem dL_law_2146 : decode cL_law 2146 = .ok (.aload_n 2, 1) := by decide +kernel
theorem dL_law_2147 : decode cL_law 2147 = .ok (.invokevirtual 267, 3) := by decide +kernel
theorem dL_law_2150 : decode cL_law 2150 = .ok (.istore 7, 2) := by decide +kernel
theorem dL_law_2152 : decode cL_law 2152 = .ok (.aload_n 2, 1) := by decide +kernel
theorem dL_law_2153 : decode cL_law 2153 = .ok (.invokevirtual 157, 3) := by decide +kernel
theorem dL_law_2156 : decode cL_law 2156 = .ok (.iload 6, 2) := by decide +kernel
theorem dL_law_2158 : decode cL_law 2158 = .ok (.if_icmp .eq 5, 3) := by decide +kernel
theorem dL_law_2163 : decode cL_law 2163 = .ok (.iload 6, 2) := by decide +kernel
theorem dL_law_2165 : decode cL_law 2165 = .ok (.ifCond .ne 15, 3) := by decide +kernel
theorem dL_law_2180 : decode cL_law 2180 = .ok (.goto 558, 3) := by decide +kernel
theorem dL_law_2183 : decode cL_law 2183 = .ok (.aload_n 1, 1) := by decide +kernel
theorem dL_law_2184 : decode cL_law 2184 = .ok (.aload_n 0, 1) := by decide +kernel
theorem dL_law_2185 : decode cL_law 2185 = .ok (.iload 5, 2) := by decide +kernel
theorem dL_law_2187 : decode cL_law 2187 = .ok (.iconst 1, 1) := by decide +kernel
theorem dL_law_2188 : decode cL_law 2188 = .ok (.iadd, 1) := by decide +kernel
theorem dL_law_2189 : decode cL_law 2189 = .ok (.iaload, 1) := by decide +kernel
theorem dL_law_2190 : decode cL_law 2190 = .ok (.aload_n 0, 1) := by decide +kernel
theorem dL_law_2191 : decode cL_law 2191 = .ok (.iload 5, 2) := by decide +kernel
theorem dL_law_2193 : decode cL_law 2193 = .ok (.iconst 2, 1) := by decide +kernel
theorem dL_law_2194 : decode cL_law 2194 = .ok (.iadd, 1) := by decide +kernel
theorem dL_law_2195 : decode cL_law 2195 = .ok (.iaload, 1) := by decide +kernel
theorem dL_law_2196 : decode cL_law 2196 = .ok (.aload_n 3, 1) := by decide +kernel
theorem dL_law_2197 : decode cL_law 2197 = .ok (.invokestatic 268, 3) := by decide +kernel
theorem dL_law_2200 : decode cL_law 2200 = .ok (.istore 6, 2) := by decide +kernel
theorem dL_law_2202 : decode cL_law 2202 = .ok (.aload_n 2, 1) := by decide +kernel
theorem dL_law_2203 : decode cL_law 2203 = .ok (.aload_n 0, 1) := by decide +kernel
theorem dL_law_2204 : decode cL_law 2204 = .ok (.iload 5, 2) := by decide +kernel
theorem dL_law_2206 : decode cL_law 2206 = .ok (.iconst 1, 1) := by decide +kernel
theorem dL_law_2207 : decode cL_law 2207 = .ok (.iadd, 1) := by decide +kernel
theorem dL_law_2208 : decode cL_law 2208 = .ok (.iaload, 1) := by decide +kernel
theorem dL_law_2209 : decode cL_law 2209 = .ok (.aload_n 0, 1) := by decide +kernel
theorem dL_law_2210 : decode cL_law 2210 = .ok (.iload 5, 2) := by decide +kernel
theorem dL_law_2212 : decode cL_law 2212 = .ok (.iconst 2, 1) := by decide +kernel
theorem dL_law_2213 : decode cL_law 2213 = .ok (.iadd, 1) := by decide +kernel
theorem dL_law_2214 : decode cL_law 2214 = .ok (.iaload, 1) := by decide +kernel
theorem dL_law_2215 : decode cL_law 2215 = .ok (.invokevirtual 270, 3) := by decide +kernel
theorem dL_law_2218 : decode cL_law 2218 = .ok (.istore 7, 2) := by decide +kernel
theorem dL_law_2220 : decode cL_law 2220 = .ok (.aload_n 2, 1) := by decide +kernel
theorem dL_law_2221 : decode cL_law 2221 = .ok (.invokevirtual 157, 3) := by decide +kernel
theorem dL_law_2224 : decode cL_law 2224 = .ok (.iload 6, 2) := by decide +kernel
theorem dL_law_2226 : decode cL_law 2226 = .ok (.if_icmp .eq 5, 3) := by decide +kernel
theorem dL_law_2231 : decode cL_law 2231 = .ok (.iload 6, 2) := by decide +kernel
theorem dL_law_2233 : decode cL_law 2233 = .ok (.ifCond .ne 15, 3) := by decide +kernel
theorem dL_law_2248 : decode cL_law 2248 = .ok (.goto 490, 3) := by decide +kernel
theorem dL_law_2251 : decode cL_law 2251 = .ok (.aload_n 1, 1) := by decide +kernel
theorem dL_law_2252 : decode cL_law 2252 = .ok (.aload_n 0, 1) := by decide +kernel
theorem dL_law_2253 : decode cL_law 2253 = .ok (.iload 5, 2) := by decide +kernel
theorem dL_law_2255 : decode cL_law 2255 = .ok (.iconst 1, 1) := by decide +kernel
theorem dL_law_2256 : decode cL_law 2256 = .ok (.iadd, 1) := by decide +kernel
theorem dL_law_2257 : decode cL_law 2257 = .ok (.iaload, 1) := by decide +kernel
theorem dL_law_2258 : decode cL_law 2258 = .ok (.aload_n 0, 1) := by decide +kernel
theorem dL_law_2259 : decode cL_law 2259 = .ok (.iload 5, 2) := by decide +kernel
theorem dL_law_2261 : decode cL_law 2261 = .ok (.iconst 2, 1) := by decide +kernel
theorem dL_law_2262 : decode cL_law 2262 = .ok (.iadd, 1) := by decide +kernel
theorem dL_law_2263 : decode cL_law 2263 = .ok (.iaload, 1) := by decide +kernel
theorem dL_law_2264 : decode cL_law 2264 = .ok (.aload 4, 2) := by decide +kernel
theorem dL_law_2266 : decode cL_law 2266 = .ok (.invokestatic 271, 3) := by decide +kernel
theorem dL_law_2269 : decode cL_law 2269 = .ok (.istore 6, 2) := by decide +kernel
theorem dL_law_2271 : decode cL_law 2271 = .ok (.aload_n 2, 1) := by decide +kernel
theorem dL_law_2272 : decode cL_law 2272 = .ok (.aload_n 0, 1) := by decide +kernel
theorem dL_law_2273 : decode cL_law 2273 = .ok (.iload 5, 2) := by decide +kernel
theorem dL_law_2275 : decode cL_law 2275 = .ok (.iconst 1, 1) := by decide +kernel
theorem dL_law_2276 : decode cL_law 2276 = .ok (.iadd, 1) := by decide +kernel
theorem dL_law_2277 : decode cL_law 2277 = .ok (.iaload, 1) := by decide +kernel
theorem dL_law_2278 : decode cL_law 2278 = .ok (.aload_n 0, 1) := by decide +kernel
theorem dL_law_2279 : decode cL_law 2279 = .ok (.iload 5, 2) := by decide +kernel
theorem dL_law_2281 : decode cL_law 2281 = .ok (.iconst 2, 1) := by decide +kernel
theorem dL_law_2282 : decode cL_law 2282 = .ok (.iadd, 1) := by decide +kernel
theorem dL_law_2283 : decode cL_law 2283 = .ok (.iaload, 1) := by decide +kernel
theorem dL_law_2284 : decode cL_law 2284 = .ok (.invokevirtual 274, 3) := by decide +kernel
theorem dL_law_2287 : decode cL_law 2287 = .ok (.fstore 7, 2) := by decide +kernel
theorem dL_law_2289 : decode cL_law 2289 = .ok (.aload_n 2, 1) := by decide +kernel
theorem dL_law_2290 : decode cL_law 2290 = .ok (.invokevirtual 157, 3) := by decide +kernel
theorem dL_law_2293 : decode cL_law 2293 = .ok (.iload 6, 2) := by decide +kernel
theorem dL_law_2295 : decode cL_law 2295 = .ok (.if_icmp .eq 5, 3) := by decide +kernel
theorem dL_law_2300 : decode cL_law 2300 = .ok (.iload 6, 2) := by decide +kernel
theorem dL_law_2302 : decode cL_law 2302 = .ok (.ifCond .ne 36, 3) := by decide +kernel
theorem dL_law_2338 : decode cL_law 2338 = .ok (.goto 400, 3) := by decide +kernel
theorem dL_law_2341 : decode cL_law 2341 = .ok (.aload_n 1, 1) := by decide +kernel
theorem dL_law_2342 : decode cL_law 2342 = .ok (.aload_n 0, 1) := by decide +kernel
theorem dL_law_2343 : decode cL_law 2343 = .ok (.iload 5, 2) := by decide +kernel
theorem dL_law_2345 : decode cL_law 2345 = .ok (.iconst 1, 1) := by decide +kernel
theorem dL_law_2346 : decode cL_law 2346 = .ok (.iadd, 1) := by decide +kernel
theorem dL_law_2347 : decode cL_law 2347 = .ok (.iaload, 1) := by decide +kernel
theorem dL_law_2348 : decode cL_law 2348 = .ok (.aload_n 0, 1) := by decide +kernel
theorem dL_law_2349 : decode cL_law 2349 = .ok (.iload 5, 2) := by decide +kernel
theorem dL_law_2351 : decode cL_law 2351 = .ok (.iconst 2, 1) := by decide +kernel
theorem dL_law_2352 : decode cL_law 2352 = .ok (.iadd, 1) := by decide +kernel
theorem dL_law_2353 : decode cL_law 2353 = .ok (.iaload, 1) := by decide +kernel
theorem dL_law_2354 : decode cL_law 2354 = .ok (.aload_n 3, 1) := by decide +kernel
theorem dL_law_2355 : decode cL_law 2355 = .ok (.invokestatic 275, 3) := by decide +kernel
theorem dL_law_2358 : decode cL_law 2358 = .ok (.istore 6, 2) := by decide +kernel
theorem dL_law_2360 : decode cL_law 2360 = .ok (.aload_n 2, 1) := by decide +kernel
theorem dL_law_2361 : decode cL_law 2361 = .ok (.aload_n 0, 1) := by decide +kernel
theorem dL_law_2362 : decode cL_law 2362 = .ok (.iload 5, 2) := by decide +kernel
theorem dL_law_2364 : decode cL_law 2364 = .ok (.iconst 1, 1) := by decide +kernel
theorem dL_law_2365 : decode cL_law 2365 = .ok (.iadd, 1) := by decide +kernel
theorem dL_law_2366 : decode cL_law 2366 = .ok (.iaload, 1) := by decide +kernel
theorem dL_law_2367 : decode cL_law 2367 = .ok (.aload_n 0, 1) := by decide +kernel
theorem dL_law_2368 : decode cL_law 2368 = .ok (.iload 5, 2) := by decide +kernel
theorem dL_law_2370 : decode cL_law 2370 = .ok (.iconst 2, 1) := by decide +kernel
theorem dL_law_2371 : decode cL_law 2371 = .ok (.iadd, 1) := by decide +kernel
theorem dL_law_2372 : decode cL_law 2372 = .ok (.iaload, 1) := by decide +kernel
theorem dL_law_2373 : decode cL_law 2373 = .ok (.invokevirtual 277, 3) := by decide +kernel
theorem dL_law_2376 : decode cL_law 2376 = .ok (.istore 7, 2) := by decide +kernel
theorem dL_law_2378 : decode cL_law 2378 = .ok (.aload_n 2, 1) := by decide +kernel
theorem dL_law_2379 : decode cL_law 2379 = .ok (.invokevirtual 157, 3) := by decide +kernel
theorem dL_law_2382 : decode cL_law 2382 = .ok (.iload 6, 2) := by decide +kernel
theorem dL_law_2384 : decode cL_law 2384 = .ok (.if_icmp .eq 5, 3) := by decide +kernel
theorem dL_law_2389 : decode cL_law 2389 = .ok (.iload 6, 2) := by decide +kernel
theorem dL_law_2391 : decode cL_law 2391 = .ok (.ifCond .ne 15, 3) := by decide +kernel
theorem dL_law_2406 : decode cL_law 2406 = .ok (.goto 332, 3) := by decide +kernel
theorem dL_law_2409 : decode cL_law 2409 = .ok (.aload_n 1, 1) := by decide +kernel
theorem dL_law_2410 : decode cL_law 2410 = .ok (.aload_n 0, 1) := by decide +kernel
theorem dL_law_2411 : decode cL_law 2411 = .ok (.iload 5, 2) := by decide +kernel
theorem dL_law_2413 : decode cL_law 2413 = .ok (.iconst 1, 1) := by decide +kernel
theorem dL_law_2414 : decode cL_law 2414 = .ok (.iadd, 1) := by decide +kernel
theorem dL_law_2415 : decode cL_law 2415 = .ok (.iaload, 1) := by decide +kernel
theorem dL_law_2416 : decode cL_law 2416 = .ok (.aload_n 0, 1) := by decide +kernel
theorem dL_law_2417 : decode cL_law 2417 = .ok (.iload 5, 2) := by decide +kernel
theorem dL_law_2419 : decode cL_law 2419 = .ok (.iconst 2, 1) := by decide +kernel
theorem dL_law_2420 : decode cL_law 2420 = .ok (.iadd, 1) := by decide +kernel
theorem dL_law_2421 : decode cL_law 2421 = .ok (.iaload, 1) := by decide +kernel
theorem dL_law_2422 : decode cL_law 2422 = .ok (.aload_n 3, 1) := by decide +kernel
theorem dL_law_2423 : decode cL_law 2423 = .ok (.invokestatic 278, 3) := by decide +kernel
theorem dL_law_2426 : decode cL_law 2426 = .ok (.istore 6, 2) := by decide +kernel
theorem dL_law_2428 : decode cL_law 2428 = .ok (.aload_n 2, 1) := by decide +kernel
theorem dL_law_2429 : decode cL_law 2429 = .ok (.aload_n 0, 1) := by decide +kernel
theorem dL_law_2430 : decode cL_law 2430 = .ok (.iload 5, 2) := by decide +kernel
theorem dL_law_2432 : decode cL_law 2432 = .ok (.iconst 1, 1) := by decide +kernel
theorem dL_law_2433 : decode cL_law 2433 = .ok (.iadd, 1) := by decide +kernel
theorem dL_law_2434 : decode cL_law 2434 = .ok (.iaload, 1) := by decide +kernel
theorem dL_law_2435 : decode cL_law 2435 = .ok (.aload_n 0, 1) := by decide +kernel
theorem dL_law_2436 : decode cL_law 2436 = .ok (.iload 5, 2) := by decide +kernel
theorem dL_law_2438 : decode cL_law 2438 = .ok (.iconst 2, 1) := by decide +kernel
theorem dL_law_2439 : decode cL_law 2439 = .ok (.iadd, 1) := by decide +kernel
theorem dL_law_2440 : decode cL_law 2440 = .ok (.iaload, 1) := by decide +kernel
theorem dL_law_2441 : decode cL_law 2441 = .ok (.invokevirtual 280, 3) := by decide +kernel
theorem dL_law_2444 : decode cL_law 2444 = .ok (.istore 7, 2) := by decide +kernel
theorem dL_law_2446 : decode cL_law 2446 = .ok (.aload_n 2, 1) := by decide +kernel
theorem dL_law_2447 : decode cL_law 2447 = .ok (.invokevirtual 157, 3) := by decide +kernel
theorem dL_law_2450 : decode cL_law 2450 = .ok (.iload 6, 2) := by decide +kernel
theorem dL_law_2452 : decode cL_law 2452 = .ok (.if_icmp .eq 5, 3) := by decide +kernel
theorem dL_law_2457 : decode cL_law 2457 = .ok (.iload 6, 2) := by decide +kernel
theorem dL_law_2459 : decode cL_law 2459 = .ok (.ifCond .ne 15, 3) := by decide +kernel
theorem dL_law_2474 : decode cL_law 2474 = .ok (.goto 264, 3) := by decide +kernel
theorem dL_law_2477 : decode cL_law 2477 = .ok (.aload_n 1, 1) := by decide +kernel
theorem dL_law_2478 : decode cL_law 2478 = .ok (.aload_n 0, 1) := by decide +kernel
theorem dL_law_2479 : decode cL_law 2479 = .ok (.iload 5, 2) := by decide +kernel
theorem dL_law_2481 : decode cL_law 2481 = .ok (.iconst 1, 1) := by decide +kernel
theorem dL_law_2482 : decode cL_law 2482 = .ok (.iadd, 1) := by decide +kernel
theorem dL_law_2483 : decode cL_law 2483 = .ok (.iaload, 1) := by decide +kernel
theorem dL_law_2484 : decode cL_law 2484 = .ok (.aload_n 3, 1) := by decide +kernel
theorem dL_law_2485 : decode cL_law 2485 = .ok (.invokestatic 281, 3) := by decide +kernel
theorem dL_law_2488 : decode cL_law 2488 = .ok (.istore 6, 2) := by decide +kernel
theorem dL_law_2490 : decode cL_law 2490 = .ok (.aload_n 2, 1) := by decide +kernel
theorem dL_law_2491 : decode cL_law 2491 = .ok (.aload_n 0, 1) := by decide +kernel
theorem dL_law_2492 : decode cL_law 2492 = .ok (.iload 5, 2) := by decide +kernel
theorem dL_law_2494 : decode cL_law 2494 = .ok (.iconst 1, 1) := by decide +kernel
theorem dL_law_2495 : decode cL_law 2495 = .ok (.iadd, 1) := by decide +kernel
theorem dL_law_2496 : decode cL_law 2496 = .ok (.iaload, 1) := by decide +kernel
theorem dL_law_2497 : decode cL_law 2497 = .ok (.invokevirtual 283, 3) := by decide +kernel
theorem dL_law_2500 : decode cL_law 2500 = .ok (.istore 7, 2) := by decide +kernel
theorem dL_law_2502 : decode cL_law 2502 = .ok (.aload_n 2, 1) := by decide +kernel
theorem dL_law_2503 : decode cL_law 2503 = .ok (.invokevirtual 157, 3) := by decide +kernel
theorem dL_law_2506 : decode cL_law 2506 = .ok (.iload 6, 2) := by decide +kernel
theorem dL_law_2508 : decode cL_law 2508 = .ok (.if_icmp .eq 5, 3) := by decide +kernel
theorem dL_law_2513 : decode cL_law 2513 = .ok (.iload 6, 2) := by decide +kernel
theorem dL_law_2515 : decode cL_law 2515 = .ok (.ifCond .ne 15, 3) := by decide +kernel
theorem dL_law_2530 : decode cL_law 2530 = .ok (.goto 208, 3) := by decide +kernel
theorem dL_law_2533 : decode cL_law 2533 = .ok (.aload_n 1, 1) := by decide +kernel
theorem dL_law_2534 : decode cL_law 2534 = .ok (.aload_n 0, 1) := by decide +kernel
theorem dL_law_2535 : decode cL_law 2535 = .ok (.iload 5, 2) := by decide +kernel
theorem dL_law_2537 : decode cL_law 2537 = .ok (.iconst 1, 1) := by decide +kernel
theorem dL_law_2538 : decode cL_law 2538 = .ok (.iadd, 1) := by decide +kernel
theorem dL_law_2539 : decode cL_law 2539 = .ok (.iaload, 1) := by decide +kernel
theorem dL_law_2540 : decode cL_law 2540 = .ok (.aload_n 0, 1) := by decide +kernel
theorem dL_law_2541 : decode cL_law 2541 = .ok (.iload 5, 2) := by decide +kernel
theorem dL_law_2543 : decode cL_law 2543 = .ok (.iconst 2, 1) := by decide +kernel
theorem dL_law_2544 : decode cL_law 2544 = .ok (.iadd, 1) := by decide +kernel
theorem dL_law_2545 : decode cL_law 2545 = .ok (.iaload, 1) := by decide +kernel
theorem dL_law_2546 : decode cL_law 2546 = .ok (.aload_n 3, 1) := by decide +kernel
theorem dL_law_2547 : decode cL_law 2547 = .ok (.invokestatic 284, 3) := by decide +kernel
theorem dL_law_2550 : decode cL_law 2550 = .ok (.istore 6, 2) := by decide +kernel
theorem dL_law_2552 : decode cL_law 2552 = .ok (.aload_n 2, 1) := by decide +kernel
theorem dL_law_2553 : decode cL_law 2553 = .ok (.aload_n 0, 1) := by decide +kernel
theorem dL_law_2554 : decode cL_law 2554 = .ok (.iload 5, 2) := by decide +kernel
theorem dL_law_2556 : decode cL_law 2556 = .ok (.iconst 1, 1) := by decide +kernel
theorem dL_law_2557 : decode cL_law 2557 = .ok (.iadd, 1) := by decide +kernel
theorem dL_law_2558 : decode cL_law 2558 = .ok (.iaload, 1) := by decide +kernel
theorem dL_law_2559 : decode cL_law 2559 = .ok (.aload_n 0, 1) := by decide +kernel
theorem dL_law_2560 : decode cL_law 2560 = .ok (.iload 5, 2) := by decide +kernel
theorem dL_law_2562 : decode cL_law 2562 = .ok (.iconst 2, 1) := by decide +kernel
theorem dL_law_2563 : decode cL_law 2563 = .ok (.iadd, 1) := by decide +kernel
theorem dL_law_2564 : decode cL_law 2564 = .ok (.iaload, 1) := by decide +kernel
theorem dL_law_2565 : decode cL_law 2565 = .ok (.invokevirtual 286, 3) := by decide +kernel
theorem dL_law_2568 : decode cL_law 2568 = .ok (.istore 7, 2) := by decide +kernel
theorem dL_law_2570 : decode cL_law 2570 = .ok (.aload_n 2, 1) := by decide +kernel
theorem dL_law_2571 : decode cL_law 2571 = .ok (.invokevirtual 157, 3) := by decide +kernel
theorem dL_law_2574 : decode cL_law 2574 = .ok (.iload 6, 2) := by decide +kernel
theorem dL_law_2576 : decode cL_law 2576 = .ok (.if_icmp .eq 5, 3) := by decide +kernel
theorem dL_law_2581 : decode cL_law 2581 = .ok (.iload 6, 2) := by decide +kernel
theorem dL_law_2583 : decode cL_law 2583 = .ok (.ifCond .ne 15, 3) := by decide +kernel
theorem dL_law_2598 : decode cL_law 2598 = .ok (.goto 140, 3) := by decide +kernel
theorem dL_law_2601 : decode cL_law 2601 = .ok (.aload_n 1, 1) := by decide +kernel
theorem dL_law_2602 : decode cL_law 2602 = .ok (.aload_n 0, 1) := by decide +kernel
theorem dL_law_2603 : decode cL_law 2603 = .ok (.iload 5, 2) := by decide +kernel
theorem dL_law_2605 : decode cL_law 2605 = .ok (.iconst 1, 1) := by decide +kernel
theorem dL_law_2606 : decode cL_law 2606 = .ok (.iadd, 1) := by decide +kernel
theorem dL_law_2607 : decode cL_law 2607 = .ok (.iaload, 1) := by decide +kernel
theorem dL_law_2608 : decode cL_law 2608 = .ok (.i2c, 1) := by decide +kernel
theorem dL_law_2609 : decode cL_law 2609 = .ok (.aload_n 3, 1) := by decide +kernel
theorem dL_law_2610 : decode cL_law 2610 = .ok (.invokestatic 287, 3) := by decide +kernel
theorem dL_law_2613 : decode cL_law 2613 = .ok (.istore 6, 2) := by decide +kernel
theorem dL_law_2615 : decode cL_law 2615 = .ok (.aload_n 2, 1) := by decide +kernel
theorem dL_law_2616 : decode cL_law 2616 = .ok (.aload_n 0, 1) := by decide +kernel
theorem dL_law_2617 : decode cL_law 2617 = .ok (.iload 5, 2) := by decide +kernel
theorem dL_law_2619 : decode cL_law 2619 = .ok (.iconst 1, 1) := by decide +kernel
theorem dL_law_2620 : decode cL_law 2620 = .ok (.iadd, 1) := by decide +kernel
theorem dL_law_2621 : decode cL_law 2621 = .ok (.iaload, 1) := by decide +kernel
theorem dL_law_2622 : decode cL_law 2622 = .ok (.i2c, 1) := by decide +kernel
theorem dL_law_2623 : decode cL_law 2623 = .ok (.invokevirtual 290, 3) := by decide +kernel
theorem dL_law_2626 : decode cL_law 2626 = .ok (.istore 7, 2) := by decide +kernel
theorem dL_law_2628 : decode cL_law 2628 = .ok (.aload_n 2, 1) := by decide +kernel
theorem dL_law_2629 : decode cL_law 2629 = .ok (.invokevirtual 157, 3) := by decide +kernel
theorem dL_law_2632 : decode cL_law 2632 = .ok (.iload 6, 2) := by decide +kernel
theorem dL_law_2634 : decode cL_law 2634 = .ok (.if_icmp .eq 5, 3) := by decide +kernel
theorem dL_law_2639 : decode cL_law 2639 = .ok (.iload 6, 2) := by decide +kernel
theorem dL_law_2641 : decode cL_law 2641 = .ok (.ifCond .ne 15, 3) := by decide +kernel
theorem dL_law_2644 : decode cL_law 2644 = .ok (.aload_n 3, 1) := by decide +kernel
theorem dL_law_2645 : decode cL_law 2645 = .ok (.iconst 0, 1) := by decide +kernel
theorem dL_law_2646 : decode cL_law 2646 = .ok (.laload, 1) := by decide +kernel
theorem dL_law_2647 : decode cL_law 2647 = .ok (.iload 7, 2) := by decide +kernel
theorem dL_law_2649 : decode cL_law 2649 = .ok (.i2l, 1) := by decide +kernel
theorem dL_law_2650 : decode cL_law 2650 = .ok (.lcmp, 1) := by decide +kernel
theorem dL_law_2651 : decode cL_law 2651 = .ok (.ifCond .eq 5, 3) := by decide +kernel
theorem dL_law_2656 : decode cL_law 2656 = .ok (.goto 82, 3) := by decide +kernel
theorem dL_law_2659 : decode cL_law 2659 = .ok (.aload_n 1, 1) := by decide +kernel
theorem dL_law_2660 : decode cL_law 2660 = .ok (.invokevirtual 291, 3) := by decide +kernel
theorem dL_law_2663 : decode cL_law 2663 = .ok (.aload_n 2, 1) := by decide +kernel
theorem dL_law_2664 : decode cL_law 2664 = .ok (.invokevirtual 295, 3) := by decide +kernel
theorem dL_law_2667 : decode cL_law 2667 = .ok (.lcmp, 1) := by decide +kernel
theorem dL_law_2668 : decode cL_law 2668 = .ok (.ifCond .eq 70, 3) := by decide +kernel
theorem dL_law_2673 : decode cL_law 2673 = .ok (.aload_n 1, 1) := by decide +kernel
theorem dL_law_2674 : decode cL_law 2674 = .ok (.aload 4, 2) := by decide +kernel
theorem dL_law_2676 : decode cL_law 2676 = .ok (.invokestatic 296, 3) := by decide +kernel
theorem dL_law_2679 : decode cL_law 2679 = .ok (.istore 6, 2) := by decide +kernel
theorem dL_law_2681 : decode cL_law 2681 = .ok (.aload_n 2, 1) := by decide +kernel
theorem dL_law_2682 : decode cL_law 2682 = .ok (.invokevirtual 299, 3) := by decide +kernel
theorem dL_law_2685 : decode cL_law 2685 = .ok (.dstore 7, 2) := by decide +kernel
theorem dL_law_2687 : decode cL_law 2687 = .ok (.aload_n 2, 1) := by decide +kernel
theorem dL_law_2688 : decode cL_law 2688 = .ok (.invokevirtual 157, 3) := by decide +kernel
theorem dL_law_2691 : decode cL_law 2691 = .ok (.iload 6, 2) := by decide +kernel
theorem dL_law_2693 : decode cL_law 2693 = .ok (.if_icmp .eq 5, 3) := by decide +kernel
theorem dL_law_2698 : decode cL_law 2698 = .ok (.iload 6, 2) := by decide +kernel
theorem dL_law_2700 : decode cL_law 2700 = .ok (.ifCond .ne 35, 3) := by decide +kernel
theorem dL_law_2735 : decode cL_law 2735 = .ok (.goto 3, 3) := by decide +kernel
theorem dL_law_2738 : decode cL_law 2738 = .ok (.iinc 5 6, 3) := by decide +kernel
theorem dL_law_2741 : decode cL_law 2741 = .ok (.goto (-2713), 3) := by decide +kernel
theorem dL_law_2744 : decode cL_law 2744 = .ok (.iconst 1, 1) := by decide +kernel
theorem dL_law_2745 : decode cL_law 2745 = .ok (.ireturn, 1) := by decide +kernel
