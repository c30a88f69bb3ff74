theorem dX0_isMissed_32 : decode cX0_isMissed 32 = .ok (.if_icmp .eq 7, 3) := by decide +kernel
theorem dX0_isMissed_35 : decode cX0_isMissed 35 = .ok (.iconst 1, 1) := by decide +kernel
theorem dX0_isMissed_36 : decode cX0_isMissed 36 = .ok (.goto 4, 3) := by decide +kernel
theorem dX0_isMissed_39 : decode cX0_isMissed 39 = .ok (.iconst 0, 1) := by decide +kernel
theorem dX0_isMissed_40 : decode cX0_isMissed 40 = .ok (.ireturn, 1) := by decide +kernel
theorem dX0_joinsGroup_0 : decode cX0_joinsGroup 0 = .ok (.iload_n 1, 1) := by decide +kernel
theorem dX0_joinsGroup_1 : decode cX0_joinsGroup 1 = .ok (.ifCond .eq 14, 3) := by decide +kernel
theorem dX0_joinsGroup_4 : decode cX0_joinsGroup 4 = .ok (.aload_n 0, 1) := by decide +kernel
theorem dX0_joinsGroup_5 : decode cX0_joinsGroup 5 = .ok (.getfield 42, 3) := by decide +kernel
theorem dX0_joinsGroup_8 : decode cX0_joinsGroup 8 = .ok (.iload_n 1, 1) := by decide +kernel
theorem dX0_joinsGroup_9 : decode cX0_joinsGroup 9 = .ok (.iconst 1, 1) := by decide +kernel
theorem dX0_joinsGroup_10 : decode cX0_joinsGroup 10 = .ok (.isub, 1) := by decide +kernel
theorem dX0_joinsGroup_11 : decode cX0_joinsGroup 11 = .ok (.baload, 1) := by decide +kernel
theorem dX0_joinsGroup_12 : decode cX0_joinsGroup 12 = .ok (.ifCond .ne 5, 3) := by decide +kernel
theorem dX0_joinsGroup_15 : decode cX0_joinsGroup 15 = .ok (.iconst 0, 1) := by decide +kernel
theorem dX0_joinsGroup_16 : decode cX0_joinsGroup 16 = .ok (.ireturn, 1) := by decide +kernel
theorem dX0_joinsGroup_17 : decode cX0_joinsGroup 17 = .ok (.aload_n 0, 1) := by decide +kernel
theorem dX0_joinsGroup_18 : decode cX0_joinsGroup 18 = .ok (.iload_n 1, 1) := by decide +kernel
theorem dX0_joinsGroup_19 : decode cX0_joinsGroup 19 = .ok (.invokevirtual 124, 3) := by decide +kernel
theorem dX0_joinsGroup_22 : decode cX0_joinsGroup 22 = .ok (.ifCond .eq 19, 3) := by decide +kernel
theorem dX0_joinsGroup_25 : decode cX0_joinsGroup 25 = .ok (.aload_n 0, 1) := by decide +kernel
theorem dX0_joinsGroup_26 : decode cX0_joinsGroup 26 = .ok (.getfield 26, 3) := by decide +kernel
theorem dX0_joinsGroup_29 : decode cX0_joinsGroup 29 = .ok (.iload_n 1, 1) := by decide +kernel
theorem dX0_joinsGroup_30 : decode cX0_joinsGroup 30 = .ok (.iconst 2, 1) := by decide +kernel
theorem dX0_joinsGroup_31 : decode cX0_joinsGroup 31 = .ok (.isub, 1) := by decide +kernel
theorem dX0_joinsGroup_32 : decode cX0_joinsGroup 32 = .ok (.iaload, 1) := by decide +kernel
theorem dX0_joinsGroup_33 : decode cX0_joinsGroup 33 = .ok (.iconst 1, 1) := by decide +kernel
theorem dX0_joinsGroup_34 : decode cX0_joinsGroup 34 = .ok (.if_icmp .ne 7, 3) := by decide +kernel
theorem dX0_joinsGroup_37 : decode cX0_joinsGroup 37 = .ok (.iconst 1, 1) := by decide +kernel
theorem dX0_joinsGroup_38 : decode cX0_joinsGroup 38 = .ok (.goto 4, 3) := by decide +kernel
theorem dX0_joinsGroup_41 : decode cX0_joinsGroup 41 = .ok (.iconst 0, 1) := by decide +kernel
theorem dX0_joinsGroup_42 : decode cX0_joinsGroup 42 = .ok (.istore_n 2, 1) := by decide +kernel
theorem dX0_joinsGroup_43 : decode cX0_joinsGroup 43 = .ok (.aload_n 0, 1) := by decide +kernel
theorem dX0_joinsGroup_44 : decode cX0_joinsGroup 44 = .ok (.iload_n 1, 1) := by decide +kernel
theorem dX0_joinsGroup_45 : decode cX0_joinsGroup 45 = .ok (.invokevirtual 82, 3) := by decide +kernel
theorem dX0_joinsGroup_48 : decode cX0_joinsGroup 48 = .ok (.ifCond .eq 19, 3) := by decide +kernel
theorem dX0_joinsGroup_51 : decode cX0_joinsGroup 51 = .ok (.aload_n 0, 1) := by decide +kernel
theorem dX0_joinsGroup_52 : decode cX0_joinsGroup 52 = .ok (.iload_n 1, 1) := by decide +kernel
theorem dX0_joinsGroup_53 : decode cX0_joinsGroup 53 = .ok (.invokevirtual 79, 3) := by decide +kernel
theorem dX0_joinsGroup_56 : decode cX0_joinsGroup 56 = .ok (.ifCond .ne 11, 3) := by decide +kernel
theorem dX0_joinsGroup_59 : decode cX0_joinsGroup 59 = .ok (.iload_n 2, 1) := by decide +kernel
theorem dX0_joinsGroup_60 : decode cX0_joinsGroup 60 = .ok (.ifCond .ne 7, 3) := by decide +kernel
theorem dX0_joinsGroup_63 : decode cX0_joinsGroup 63 = .ok (.iconst 1, 1) := by decide +kernel
theorem dX0_joinsGroup_64 : decode cX0_joinsGroup 64 = .ok (.goto 4, 3) := by decide +kernel
theorem dX0_joinsGroup_67 : decode cX0_joinsGroup 67 = .ok (.iconst 0, 1) := by decide +kernel
theorem dX0_joinsGroup_68 : decode cX0_joinsGroup 68 = .ok (.ireturn, 1) := by decide +kernel
theorem dX0_leastFetchTime_0 : decode cX0_leastFetchTime 0 = .ok (.iload_n 1, 1) := by decide +kernel
theorem dX0_leastFetchTime_1 : decode cX0_leastFetchTime 1 = .ok (.ifCond .ne 5, 3) := by decide +kernel
theorem dX0_leastFetchTime_4 : decode cX0_leastFetchTime 4 = .ok (.iconst 1, 1) := by decide +kernel
theorem dX0_leastFetchTime_5 : decode cX0_leastFetchTime 5 = .ok (.ireturn, 1) := by decide +kernel
theorem dX0_leastFetchTime_6 : decode cX0_leastFetchTime 6 = .ok (.aload_n 0, 1) := by decide +kernel
theorem dX0_leastFetchTime_7 : decode cX0_leastFetchTime 7 = .ok (.getfield 42, 3) := by decide +kernel
theorem dX0_leastFetchTime_10 : decode cX0_leastFetchTime 10 = .ok (.iload_n 1, 1) := by decide +kernel
theorem dX0_leastFetchTime_11 : decode cX0_leastFetchTime 11 = .ok (.baload, 1) := by decide +kernel
theorem dX0_leastFetchTime_12 : decode cX0_leastFetchTime 12 = .ok (.ifCond .ne 12, 3) := by decide +kernel
theorem dX0_leastFetchTime_15 : decode cX0_leastFetchTime 15 = .ok (.aload_n 0, 1) := by decide +kernel
theorem dX0_leastFetchTime_16 : decode cX0_leastFetchTime 16 = .ok (.getfield 45, 3) := by decide +kernel
theorem dX0_leastFetchTime_19 : decode cX0_leastFetchTime 19 = .ok (.iload_n 1, 1) := by decide +kernel
theorem dX0_leastFetchTime_20 : decode cX0_leastFetchTime 20 = .ok (.iconst 1, 1) := by decide +kernel
theorem dX0_leastFetchTime_21 : decode cX0_leastFetchTime 21 = .ok (.isub, 1) := by decide +kernel
theorem dX0_leastFetchTime_22 : decode cX0_leastFetchTime 22 = .ok (.iaload, 1) := by decide +kernel
theorem dX0_leastFetchTime_23 : decode cX0_leastFetchTime 23 = .ok (.ireturn, 1) := by decide +kernel
theorem dX0_leastFetchTime_24 : decode cX0_leastFetchTime 24 = .ok (.aload_n 0, 1) := by decide +kernel
theorem dX0_leastFetchTime_25 : decode cX0_leastFetchTime 25 = .ok (.getfield 45, 3) := by decide +kernel
theorem dX0_leastFetchTime_28 : decode cX0_leastFetchTime 28 = .ok (.iload_n 1, 1) := by decide +kernel
theorem dX0_leastFetchTime_29 : decode cX0_leastFetchTime 29 = .ok (.iconst 1, 1) := by decide +kernel
theorem dX0_leastFetchTime_30 : decode cX0_leastFetchTime 30 = .ok (.isub, 1) := by decide +kernel
theorem dX0_leastFetchTime_31 : decode cX0_leastFetchTime 31 = .ok (.iaload, 1) := by decide +kernel
theorem dX0_leastFetchTime_32 : decode cX0_leastFetchTime 32 = .ok (.iconst 1, 1) := by decide +kernel
theorem dX0_leastFetchTime_33 : decode cX0_leastFetchTime 33 = .ok (.iadd, 1) := by decide +kernel
theorem dX0_leastFetchTime_34 : decode cX0_leastFetchTime 34 = .ok (.istore_n 2, 1) := by decide +kernel
theorem dX0_leastFetchTime_35 : decode cX0_leastFetchTime 35 = .ok (.iload_n 1, 1) := by decide +kernel
theorem dX0_leastFetchTime_36 : decode cX0_leastFetchTime 36 = .ok (.iconst 5, 1) := by decide +kernel
theorem dX0_leastFetchTime_37 : decode cX0_leastFetchTime 37 = .ok (.if_icmp .lt 18, 3) := by decide +kernel
theorem dX0_leastFetchTime_40 : decode cX0_leastFetchTime 40 = .ok (.iload_n 2, 1) := by decide +kernel
theorem dX0_leastFetchTime_41 : decode cX0_leastFetchTime 41 = .ok (.aload_n 0, 1) := by decide +kernel
theorem dX0_leastFetchTime_42 : decode cX0_leastFetchTime 42 = .ok (.getfield 48, 3) := by decide +kernel
theorem dX0_leastFetchTime_45 : decode cX0_leastFetchTime 45 = .ok (.iload_n 1, 1) := by decide +kernel
theorem dX0_leastFetchTime_46 : decode cX0_leastFetchTime 46 = .ok (.iconst 5, 1) := by decide +kernel
theorem dX0_leastFetchTime_47 : decode cX0_leastFetchTime 47 = .ok (.isub, 1) := by decide +kernel
theorem dX0_leastFetchTime_48 : decode cX0_leastFetchTime 48 = .ok (.iaload, 1) := by decide +kernel
theorem dX0_leastFetchTime_49 : decode cX0_leastFetchTime 49 = .ok (.iconst 1, 1) := by decide +kernel
theorem dX0_leastFetchTime_50 : decode cX0_leastFetchTime 50 = .ok (.iadd, 1) := by decide +kernel
theorem dX0_leastFetchTime_51 : decode cX0_leastFetchTime 51 = .ok (.invokestatic 136, 3) := by decide +kernel
theorem dX0_leastFetchTime_54 : decode cX0_leastFetchTime 54 = .ok (.istore_n 2, 1) := by decide +kernel
theorem dX0_leastFetchTime_55 : decode cX0_leastFetchTime 55 = .ok (.aload_n 0, 1) := by decide +kernel
theorem dX0_leastFetchTime_56 : decode cX0_leastFetchTime 56 = .ok (.iload_n 1, 1) := by decide +kernel
theorem dX0_leastFetchTime_57 : decode cX0_leastFetchTime 57 = .ok (.invokevirtual 127, 3) := by decide +kernel
theorem dX0_leastFetchTime_60 : decode cX0_leastFetchTime 60 = .ok (.ifCond .eq 18, 3) := by decide +kernel
theorem dX0_leastFetchTime_63 : decode cX0_leastFetchTime 63 = .ok (.iload_n 2, 1) := by decide +kernel
theorem dX0_leastFetchTime_64 : decode cX0_leastFetchTime 64 = .ok (.aload_n 0, 1) := by decide +kernel
theorem dX0_leastFetchTime_65 : decode cX0_leastFetchTime 65 = .ok (.getfield 51, 3) := by decide +kernel
theorem dX0_leastFetchTime_68 : decode cX0_leastFetchTime 68 = .ok (.iload_n 1, 1) := by decide +kernel
theorem dX0_leastFetchTime_69 : decode cX0_leastFetchTime 69 = .ok (.iconst 1, 1) := by decide +kernel
theorem dX0_leastFetchTime_70 : decode cX0_leastFetchTime 70 = .ok (.isub, 1) := by decide +kernel
theorem dX0_leastFetchTime_71 : decode cX0_leastFetchTime 71 = .ok (.iaload, 1) := by decide +kernel
theorem dX0_leastFetchTime_72 : decode cX0_leastFetchTime 72 = .ok (.iconst 1, 1) := by decide +kernel
theorem dX0_leastFetchTime_73 : decode cX0_leastFetchTime 73 = .ok (.iadd, 1) := by decide +kernel
theorem dX0_leastFetchTime_74 : decode cX0_leastFetchTime 74 = .ok (.invokestatic 136, 3) := by decide +kernel
theorem dX0_leastFetchTime_77 : decode cX0_leastFetchTime 77 = .ok (.istore_n 2, 1) := by decide +kernel
theorem dX0_leastFetchTime_78 : decode cX0_leastFetchTime 78 = .ok (.aload_n 0, 1) := by decide +kernel
theorem dX0_leastFetchTime_79 : decode cX0_leastFetchTime 79 = .ok (.iload_n 1, 1) := by decide +kernel
theorem dX0_leastFetchTime_80 : decode cX0_leastFetchTime 80 = .ok (.invokevirtual 130, 3) := by decide +kernel
theorem dX0_leastFetchTime_83 : decode cX0_leastFetchTime 83 = .ok (.ifCond .eq 18, 3) := by decide +kernel
theorem dX0_leastFetchTime_86 : decode cX0_leastFetchTime 86 = .ok (.iload_n 2, 1) := by decide +kernel
theorem dX0_leastFetchTime_87 : decode cX0_leastFetchTime 87 = .ok (.aload_n 0, 1) := by decide +kernel
theorem dX0_leastFetchTime_88 : decode cX0_leastFetchTime 88 = .ok (.getfield 48, 3) := by decide +kernel
theorem dX0_leastFetchTime_91 : decode cX0_leastFetchTime 91 = .ok (.iload_n 1, 1) := by decide +kernel
theorem dX0_leastFetchTime_92 : decode cX0_leastFetchTime 92 = .ok (.iconst 2, 1) := by decide +kernel
theorem dX0_leastFetchTime_93 : decode cX0_leastFetchTime 93 = .ok (.isub, 1) := by decide +kernel
theorem dX0_leastFetchTime_94 : decode cX0_leastFetchTime 94 = .ok (.iaload, 1) := by decide +kernel
theorem dX0_leastFetchTime_95 : decode cX0_leastFetchTime 95 = .ok (.iconst 2, 1) := by decide +kernel
theorem dX0_leastFetchTime_96 : decode cX0_leastFetchTime 96 = .ok (.iadd, 1) := by decide +kernel
theorem dX0_leastFetchTime_97 : decode cX0_leastFetchTime 97 = .ok (.invokestatic 136, 3) := by decide +kernel
theorem dX0_leastFetchTime_100 : decode cX0_leastFetchTime 100 = .ok (.istore_n 2, 1) := by decide +kernel
theorem dX0_leastFetchTime_101 : decode cX0_leastFetchTime 101 = .ok (.iload_n 2, 1) := by decide +kernel
theorem dX0_leastFetchTime_102 : decode cX0_leastFetchTime 102 = .ok (.ireturn, 1) := by decide +kernel
theorem dX0_groupSize_0 : decode cX0_groupSize 0 = .ok (.aload_n 0, 1) := by decide +kernel
theorem dX0_groupSize_1 : decode cX0_groupSize 1 = .ok (.getfield 42, 3) := by decide +kernel
theorem dX0_groupSize_4 : decode cX0_groupSize 4 = .ok (.iload_n 1, 1) := by decide +kernel
theorem dX0_groupSize_5 : decode cX0_groupSize 5 = .ok (.baload, 1) := by decide +kernel
theorem dX0_groupSize_6 : decode cX0_groupSize 6 = .ok (.ifCond .ne 5, 3) := by decide +kernel
theorem dX0_groupSize_9 : decode cX0_groupSize 9 = .ok (.iconst 2, 1) := by decide +kernel
theorem dX0_groupSize_10 : decode cX0_groupSize 10 = .ok (.ireturn, 1) := by decide +kernel
theorem dX0_groupSize_11 : decode cX0_groupSize 11 = .ok (.iload_n 1, 1) := by decide +kernel
theorem dX0_groupSize_12 : decode cX0_groupSize 12 = .ok (.iconst 1, 1) := by decide +kernel
theorem dX0_groupSize_13 : decode cX0_groupSize 13 = .ok (.iadd, 1) := by decide +kernel
theorem dX0_groupSize_14 : decode cX0_groupSize 14 = .ok (.aload_n 0, 1) := by decide +kernel
theorem dX0_groupSize_15 : decode cX0_groupSize 15 = .ok (.getfield 7, 3) := by decide +kernel
theorem dX0_groupSize_18 : decode cX0_groupSize 18 = .ok (.if_icmp .ge 18, 3) := by decide +kernel
theorem dX0_groupSize_21 : decode cX0_groupSize 21 = .ok (.aload_n 0, 1) := by decide +kernel
theorem dX0_groupSize_22 : decode cX0_groupSize 22 = .ok (.getfield 42, 3) := by decide +kernel
theorem dX0_groupSize_25 : decode cX0_groupSize 25 = .ok (.iload_n 1, 1) := by decide +kernel
theorem dX0_groupSize_26 : decode cX0_groupSize 26 = .ok (.iconst 1, 1) := by decide +kernel
theorem dX0_groupSize_27 : decode cX0_groupSize 27 = .ok (.iadd, 1) := by decide +kernel
theorem dX0_groupSize_28 : decode cX0_groupSize 28 = .ok (.baload, 1) := by decide +kernel
theorem dX0_groupSize_29 : decode cX0_groupSize 29 = .ok (.ifCond .ne 7, 3) := by decide +kernel
theorem dX0_groupSize_32 : decode cX0_groupSize 32 = .ok (.iconst 2, 1) := by decide +kernel
theorem dX0_groupSize_33 : decode cX0_groupSize 33 = .ok (.goto 4, 3) := by decide +kernel
theorem dX0_groupSize_36 : decode cX0_groupSize 36 = .ok (.iconst 1, 1) := by decide +kernel
theorem dX0_groupSize_37 : decode cX0_groupSize 37 = .ok (.ireturn, 1) := by decide +kernel
theorem dX0_leastIssueTime_0 : decode cX0_leastIssueTime 0 = .ok (.aload_n 0, 1) := by decide +kernel
theorem dX0_leastIssueTime_1 : decode cX0_leastIssueTime 1 = .ok (.getfield 45, 3) := by decide +kernel
theorem dX0_leastIssueTime_4 : decode cX0_leastIssueTime 4 = .ok (.iload_n 1, 1) := by decide +kernel
theorem dX0_leastIssueTime_5 : decode cX0_leastIssueTime 5 = .ok (.iaload, 1) := by decide +kernel
theorem dX0_leastIssueTime_6 : decode cX0_leastIssueTime 6 = .ok (.iconst 2, 1) := by decide +kernel
theorem dX0_leastIssueTime_7 : decode cX0_leastIssueTime 7 = .ok (.iadd, 1) := by decide +kernel
theorem dX0_leastIssueTime_8 : decode cX0_leastIssueTime 8 = .ok (.aload_n 0, 1) := by decide +kernel
theorem dX0_leastIssueTime_9 : decode cX0_leastIssueTime 9 = .ok (.iload_n 1, 1) := by decide +kernel
theorem dX0_leastIssueTime_10 : decode cX0_leastIssueTime 10 = .ok (.invokevirtual 141, 3) := by decide +kernel
theorem dX0_leastIssueTime_13 : decode cX0_leastIssueTime 13 = .ok (.invokestatic 136, 3) := by decide +kernel
theorem dX0_leastIssueTime_16 : decode cX0_leastIssueTime 16 = .ok (.istore_n 2, 1) := by decide +kernel
theorem dX0_leastIssueTime_17 : decode cX0_leastIssueTime 17 = .ok (.iload_n 2, 1) := by decide +kernel
theorem dX0_leastIssueTime_18 : decode cX0_leastIssueTime 18 = .ok (.aload_n 0, 1) := by decide +kernel
theorem dX0_leastIssueTime_19 : decode cX0_leastIssueTime 19 = .ok (.aload_n 0, 1) := by decide +kernel
theorem dX0_leastIssueTime_20 : decode cX0_leastIssueTime 20 = .ok (.getfield 20, 3) := by decide +kernel
theorem dX0_leastIssueTime_23 : decode cX0_leastIssueTime 23 = .ok (.iload_n 1, 1) := by decide +kernel
theorem dX0_leastIssueTime_24 : decode cX0_leastIssueTime 24 = .ok (.iaload, 1) := by decide +kernel
theorem dX0_leastIssueTime_25 : decode cX0_leastIssueTime 25 = .ok (.iload_n 1, 1) := by decide +kernel
theorem dX0_leastIssueTime_26 : decode cX0_leastIssueTime 26 = .ok (.invokevirtual 144, 3) := by decide +kernel
theorem dX0_leastIssueTime_29 : decode cX0_leastIssueTime 29 = .ok (.invokestatic 136, 3) := by decide +kernel
theorem dX0_leastIssueTime_32 : decode cX0_leastIssueTime 32 = .ok (.istore_n 2, 1) := by decide +kernel
theorem dX0_leastIssueTime_33 : decode cX0_leastIssueTime 33 = .ok (.iload_n 2, 1) := by decide +kernel
theorem dX0_leastIssueTime_34 : decode cX0_leastIssueTime 34 = .ok (.aload_n 0, 1) := by decide +kernel
theorem dX0_leastIssueTime_35 : decode cX0_leastIssueTime 35 = .ok (.aload_n 0, 1) := by decide +kernel
theorem dX0_leastIssueTime_36 : decode cX0_leastIssueTime 36 = .ok (.getfield 23, 3) := by decide +kernel
theorem dX0_leastIssueTime_39 : decode cX0_leastIssueTime 39 = .ok (.iload_n 1, 1) := by decide +kernel
theorem dX0_leastIssueTime_40 : decode cX0_leastIssueTime 40 = .ok (.iaload, 1) := by decide +kernel
theorem dX0_leastIssueTime_41 : decode cX0_leastIssueTime 41 = .ok (.iload_n 1, 1) := by decide +kernel
theorem dX0_leastIssueTime_42 : decode cX0_leastIssueTime 42 = .ok (.invokevirtual 144, 3) := by decide +kernel
theorem dX0_leastIssueTime_45 : decode cX0_leastIssueTime 45 = .ok (.invokestatic 136, 3) := by decide +kernel
theorem dX0_leastIssueTime_48 : decode cX0_leastIssueTime 48 = .ok (.istore_n 2, 1) := by decide +kernel
theorem dX0_leastIssueTime_49 : decode cX0_leastIssueTime 49 = .ok (.aload_n 0, 1) := by decide +kernel
theorem dX0_leastIssueTime_50 : decode cX0_leastIssueTime 50 = .ok (.getfield 13, 3) := by decide +kernel
theorem dX0_leastIssueTime_53 : decode cX0_leastIssueTime 53 = .ok (.iload_n 1, 1) := by decide +kernel
theorem dX0_leastIssueTime_54 : decode cX0_leastIssueTime 54 = .ok (.iaload, 1) := by decide +kernel
theorem dX0_leastIssueTime_55 : decode cX0_leastIssueTime 55 = .ok (.iconst 4, 1) := by decide +kernel
theorem dX0_leastIssueTime_56 : decode cX0_leastIssueTime 56 = .ok (.if_icmp .ne 13, 3) := by decide +kernel
theorem dX0_leastIssueTime_59 : decode cX0_leastIssueTime 59 = .ok (.iload_n 2, 1) := by decide +kernel
theorem dX0_leastIssueTime_60 : decode cX0_leastIssueTime 60 = .ok (.aload_n 0, 1) := by decide +kernel
theorem dX0_leastIssueTime_61 : decode cX0_leastIssueTime 61 = .ok (.iload_n 1, 1) := by decide +kernel
theorem dX0_leastIssueTime_62 : decode cX0_leastIssueTime 62 = .ok (.invokevirtual 147, 3) := by decide +kernel
theorem dX0_leastIssueTime_65 : decode cX0_leastIssueTime 65 = .ok (.invokestatic 136, 3) := by decide +kernel
theorem dX0_leastIssueTime_68 : decode cX0_leastIssueTime 68 = .ok (.istore_n 2, 1) := by decide +kernel
theorem dX0_leastIssueTime_69 : decode cX0_leastIssueTime 69 = .ok (.aload_n 0, 1) := by decide +kernel
theorem dX0_leastIssueTime_70 : decode cX0_leastIssueTime 70 = .ok (.getfield 13, 3) := by decide +kernel
theorem dX0_leastIssueTime_73 : decode cX0_leastIssueTime 73 = .ok (.iload_n 1, 1) := by decide +kernel
theorem dX0_leastIssueTime_74 : decode cX0_leastIssueTime 74 = .ok (.iaload, 1) := by decide +kernel
theorem dX0_leastIssueTime_75 : decode cX0_leastIssueTime 75 = .ok (.bipush 6, 2) := by decide +kernel
theorem dX0_leastIssueTime_77 : decode cX0_leastIssueTime 77 = .ok (.if_icmp .ne 15, 3) := by decide +kernel
theorem dX0_leastIssueTime_80 : decode cX0_leastIssueTime 80 = .ok (.iload_n 2, 1) := by decide +kernel
theorem dX0_leastIssueTime_81 : decode cX0_leastIssueTime 81 = .ok (.aload_n 0, 1) := by decide +kernel
theorem dX0_leastIssueTime_82 : decode cX0_leastIssueTime 82 = .ok (.iload_n 1, 1) := by decide +kernel
theorem dX0_leastIssueTime_83 : decode cX0_leastIssueTime 83 = .ok (.invokevirtual 89, 3) := by decide +kernel
theorem dX0_leastIssueTime_86 : decode cX0_leastIssueTime 86 = .ok (.iconst 1, 1) := by decide +kernel
theorem dX0_leastIssueTime_87 : decode cX0_leastIssueTime 87 = .ok (.iadd, 1) := by decide +kernel
theorem dX0_leastIssueTime_88 : decode cX0_leastIssueTime 88 = .ok (.invokestatic 136, 3) := by decide +kernel
theorem dX0_leastIssueTime_91 : decode cX0_leastIssueTime 91 = .ok (.istore_n 2, 1) := by decide +kernel
theorem dX0_leastIssueTime_92 : decode cX0_leastIssueTime 92 = .ok (.iload_n 2, 1) := by decide +kernel
theorem dX0_leastIssueTime_93 : decode cX0_leastIssueTime 93 = .ok (.ireturn, 1) := by decide +kernel
theorem dX0_leastInOrder_0 : decode cX0_leastInOrder 0 = .ok (.iload_n 1, 1) := by decide +kernel
theorem dX0_leastInOrder_1 : decode cX0_leastInOrder 1 = .ok (.ifCond .ne 5, 3) := by decide +kernel
theorem dX0_leastInOrder_4 : decode cX0_leastInOrder 4 = .ok (.iconst 1, 1) := by decide +kernel
theorem dX0_leastInOrder_5 : decode cX0_leastInOrder 5 = .ok (.ireturn, 1) := by decide +kernel
theorem dX0_leastInOrder_6 : decode cX0_leastInOrder 6 = .ok (.iload_n 1, 1) := by decide +kernel
theorem dX0_leastInOrder_7 : decode cX0_leastInOrder 7 = .ok (.iconst 1, 1) := by decide +kernel
theorem dX0_leastInOrder_8 : decode cX0_leastInOrder 8 = .ok (.if_icmp .eq 22, 3) := by decide +kernel
theorem dX0_leastInOrder_11 : decode cX0_leastInOrder 11 = .ok (.aload_n 0, 1) := by decide +kernel
theorem dX0_leastInOrder_12 : decode cX0_leastInOrder 12 = .ok (.getfield 48, 3) := by decide +kernel
theorem dX0_leastInOrder_15 : decode cX0_leastInOrder 15 = .ok (.iload_n 1, 1) := by decide +kernel
theorem dX0_leastInOrder_16 : decode cX0_leastInOrder 16 = .ok (.iconst 2, 1) := by decide +kernel
theorem dX0_leastInOrder_17 : decode cX0_leastInOrder 17 = .ok (.isub, 1) := by decide +kernel
theorem dX0_leastInOrder_18 : decode cX0_leastInOrder 18 = .ok (.iaload, 1) := by decide +kernel
theorem dX0_leastInOrder_19 : decode cX0_leastInOrder 19 = .ok (.aload_n 0, 1) := by decide +kernel
theorem dX0_leastInOrder_20 : decode cX0_leastInOrder 20 = .ok (.getfield 48, 3) := by decide +kernel
theorem dX0_leastInOrder_23 : decode cX0_leastInOrder 23 = .ok (.iload_n 1, 1) := by decide +kernel
theorem dX0_leastInOrder_24 : decode cX0_leastInOrder 24 = .ok (.iconst 1, 1) := by decide +kernel
theorem dX0_leastInOrder_25 : decode cX0_leastInOrder 25 = .ok (.isub, 1) := by decide +kernel
theorem dX0_leastInOrder_26 : decode cX0_leastInOrder 26 = .ok (.iaload, 1) := by decide +kernel
theorem dX0_leastInOrder_27 : decode cX0_leastInOrder 27 = .ok (.if_icmp .ge 7, 3) := by decide +kernel
theorem dX0_leastInOrder_30 : decode cX0_leastInOrder 30 = .ok (.iconst 1, 1) := by decide +kernel
theorem dX0_leastInOrder_31 : decode cX0_leastInOrder 31 = .ok (.goto 4, 3) := by decide +kernel
theorem dX0_leastInOrder_34 : decode cX0_leastInOrder 34 = .ok (.iconst 0, 1) := by decide +kernel
theorem dX0_leastInOrder_35 : decode cX0_leastInOrder 35 = .ok (.istore_n 2, 1) := by decide +kernel
theorem dX0_leastInOrder_36 : decode cX0_leastInOrder 36 = .ok (.iload_n 2, 1) := by decide +kernel
theorem dX0_leastInOrder_37 : decode cX0_leastInOrder 37 = .ok (.ifCond .eq 22, 3) := by decide +kernel
theorem dX0_leastInOrder_40 : decode cX0_leastInOrder 40 = .ok (.aload_n 0, 1) := by decide +kernel
theorem dX0_leastInOrder_41 : decode cX0_leastInOrder 41 = .ok (.iload_n 1, 1) := by decide +kernel
theorem dX0_leastInOrder_42 : decode cX0_leastInOrder 42 = .ok (.invokevirtual 150, 3) := by decide +kernel
theorem dX0_leastInOrder_45 : decode cX0_leastInOrder 45 = .ok (.ifCond .eq 14, 3) := by decide +kernel
theorem dX0_leastInOrder_48 : decode cX0_leastInOrder 48 = .ok (.aload_n 0, 1) := by decide +kernel
theorem dX0_leastInOrder_49 : decode cX0_leastInOrder 49 = .ok (.getfield 48, 3) := by decide +kernel
theorem dX0_leastInOrder_52 : decode cX0_leastInOrder 52 = .ok (.iload_n 1, 1) := by decide +kernel
theorem dX0_leastInOrder_53 : decode cX0_leastInOrder 53 = .ok (.iconst 1, 1) := by decide +kernel
theorem dX0_leastInOrder_54 : decode cX0_leastInOrder 54 = .ok (.isub, 1) := by decide +kernel
theorem dX0_leastInOrder_55 : decode cX0_leastInOrder 55 = .ok (.iaload, 1) := by decide +kernel
theorem dX0_leastInOrder_56 : decode cX0_leastInOrder 56 = .ok (.goto 13, 3) := by decide +kernel
theorem dX0_leastInOrder_59 : decode cX0_leastInOrder 59 = .ok (.aload_n 0, 1) := by decide +kernel
theorem dX0_leastInOrder_60 : decode cX0_leastInOrder 60 = .ok (.getfield 48, 3) := by decide +kernel
theorem dX0_leastInOrder_63 : decode cX0_leastInOrder 63 = .ok (.iload_n 1, 1) := by decide +kernel
theorem dX0_leastInOrder_64 : decode cX0_leastInOrder 64 = .ok (.iconst 1, 1) := by decide +kernel
theorem dX0_leastInOrder_65 : decode cX0_leastInOrder 65 = .ok (.isub, 1) := by decide +kernel
theorem dX0_leastInOrder_66 : decode cX0_leastInOrder 66 = .ok (.iaload, 1) := by decide +kernel
theorem dX0_leastInOrder_67 : decode cX0_leastInOrder 67 = .ok (.iconst 1, 1) := by decide +kernel
theorem dX0_leastInOrder_68 : decode cX0_leastInOrder 68 = .ok (.iadd, 1) := by decide +kernel
theorem dX0_leastInOrder_69 : decode cX0_leastInOrder 69 = .ok (.ireturn, 1) := by decide +kernel
theorem dX0_makesPair_0 : decode cX0_makesPair 0 = .ok (.iload_n 1, 1) := by decide +kernel
theorem dX0_makesPair_1 : decode cX0_makesPair 1 = .ok (.ifCond .ne 5, 3) := by decide +kernel
theorem dX0_makesPair_4 : decode cX0_makesPair 4 = .ok (.iconst 0, 1) := by decide +kernel
theorem dX0_makesPair_5 : decode cX0_makesPair 5 = .ok (.ireturn, 1) := by decide +kernel
theorem dX0_makesPair_6 : decode cX0_makesPair 6 = .ok (.aload_n 0, 1) := by decide +kernel
theorem dX0_makesPair_7 : decode cX0_makesPair 7 = .ok (.getfield 13, 3) := by decide +kernel
theorem dX0_makesPair_10 : decode cX0_makesPair 10 = .ok (.iload_n 1, 1) := by decide +kernel
theorem dX0_makesPair_11 : decode cX0_makesPair 11 = .ok (.iconst 1, 1) := by decide +kernel
theorem dX0_makesPair_12 : decode cX0_makesPair 12 = .ok (.isub, 1) := by decide +kernel
theorem dX0_makesPair_13 : decode cX0_makesPair 13 = .ok (.iaload, 1) := by decide +kernel
theorem dX0_makesPair_14 : decode cX0_makesPair 14 = .ok (.istore_n 2, 1) := by decide +kernel
theorem dX0_makesPair_15 : decode cX0_makesPair 15 = .ok (.aload_n 0, 1) := by decide +kernel
theorem dX0_makesPair_16 : decode cX0_makesPair 16 = .ok (.getfield 13, 3) := by decide +kernel
theorem dX0_makesPair_19 : decode cX0_makesPair 19 = .ok (.iload_n 1, 1) := by decide +kernel
theorem dX0_makesPair_20 : decode cX0_makesPair 20 = .ok (.iaload, 1) := by decide +kernel
theorem dX0_makesPair_21 : decode cX0_makesPair 21 = .ok (.istore_n 3, 1) := by decide +kernel
theorem dX0_makesPair_22 : decode cX0_makesPair 22 = .ok (.iload_n 2, 1) := by decide +kernel
theorem dX0_makesPair_23 : decode cX0_makesPair 23 = .ok (.bipush 6, 2) := by decide +kernel
theorem dX0_makesPair_25 : decode cX0_makesPair 25 = .ok (.if_icmp .eq 14, 3) := by decide +kernel
theorem dX0_makesPair_28 : decode cX0_makesPair 28 = .ok (.iload_n 3, 1) := by decide +kernel
theorem dX0_makesPair_29 : decode cX0_makesPair 29 = .ok (.bipush 6, 2) := by decide +kernel
theorem dX0_makesPair_31 : decode cX0_makesPair 31 = .ok (.if_icmp .eq 8, 3) := by decide +kernel
theorem dX0_makesPair_34 : decode cX0_makesPair 34 = .ok (.iload_n 2, 1) := by decide +kernel
theorem dX0_makesPair_35 : decode cX0_makesPair 35 = .ok (.iconst 5, 1) := by decide +kernel
theorem dX0_makesPair_36 : decode cX0_makesPair 36 = .ok (.if_icmp .ne 5, 3) := by decide +kernel
theorem dX0_makesPair_39 : decode cX0_makesPair 39 = .ok (.iconst 0, 1) := by decide +kernel
theorem dX0_makesPair_40 : decode cX0_makesPair 40 = .ok (.ireturn, 1) := by decide +kernel
theorem dX0_makesPair_41 : decode cX0_makesPair 41 = .ok (.iload_n 2, 1) := by decide +kernel
theorem dX0_makesPair_42 : decode cX0_makesPair 42 = .ok (.invokestatic 153, 3) := by decide +kernel
theorem dX0_makesPair_45 : decode cX0_makesPair 45 = .ok (.ifCond .eq 12, 3) := by decide +kernel
theorem dX0_makesPair_48 : decode cX0_makesPair 48 = .ok (.iload_n 3, 1) := by decide +kernel
theorem dX0_makesPair_49 : decode cX0_makesPair 49 = .ok (.invokestatic 153, 3) := by decide +kernel
theorem dX0_makesPair_52 : decode cX0_makesPair 52 = .ok (.ifCond .eq 5, 3) := by decide +kernel
theorem dX0_makesPair_55 : decode cX0_makesPair 55 = .ok (.iconst 0, 1) := by decide +kernel
theorem dX0_makesPair_56 : decode cX0_makesPair 56 = .ok (.ireturn, 1) := by decide +kernel
theorem dX0_makesPair_57 : decode cX0_makesPair 57 = .ok (.iload_n 2, 1) := by decide +kernel
theorem dX0_makesPair_58 : decode cX0_makesPair 58 = .ok (.invokestatic 156, 3) := by decide +kernel
theorem dX0_makesPair_61 : decode cX0_makesPair 61 = .ok (.ifCond .eq 12, 3) := by decide +kernel
theorem dX0_makesPair_64 : decode cX0_makesPair 64 = .ok (.iload_n 3, 1) := by decide +kernel
theorem dX0_makesPair_65 : decode cX0_makesPair 65 = .ok (.invokestatic 156, 3) := by decide +kernel
theorem dX0_makesPair_68 : decode cX0_makesPair 68 = .ok (.ifCond .eq 5, 3) := by decide +kernel
theorem dX0_makesPair_71 : decode cX0_makesPair 71 = .ok (.iconst 0, 1) := by decide +kernel
theorem dX0_makesPair_72 : decode cX0_makesPair 72 = .ok (.ireturn, 1) := by decide +kernel
theorem dX0_makesPair_73 : decode cX0_makesPair 73 = .ok (.aload_n 0, 1) := by decide +kernel
theorem dX0_makesPair_74 : decode cX0_makesPair 74 = .ok (.iload_n 1, 1) := by decide +kernel
theorem dX0_makesPair_75 : decode cX0_makesPair 75 = .ok (.aload_n 0, 1) := by decide +kernel
theorem dX0_makesPair_76 : decode cX0_makesPair 76 = .ok (.getfield 17, 3) := by decide +kernel
theorem dX0_makesPair_79 : decode cX0_makesPair 79 = .ok (.iload_n 1, 1) := by decide +kernel
theorem dX0_makesPair_80 : decode cX0_makesPair 80 = .ok (.iconst 1, 1) := by decide +kernel
theorem dX0_makesPair_81 : decode cX0_makesPair 81 = .ok (.isub, 1) := by decide +kernel
theorem dX0_makesPair_82 : decode cX0_makesPair 82 = .ok (.iaload, 1) := by decide +kernel
theorem dX0_makesPair_83 : decode cX0_makesPair 83 = .ok (.invokevirtual 159, 3) := by decide +kernel
theorem dX0_makesPair_86 : decode cX0_makesPair 86 = .ok (.ifCond .ne 7, 3) := by decide +kernel
theorem dX0_makesPair_89 : decode cX0_makesPair 89 = .ok (.iconst 1, 1) := by decide +kernel
theorem dX0_makesPair_90 : decode cX0_makesPair 90 = .ok (.goto 4, 3) := by decide +kernel
theorem dX0_makesPair_93 : decode cX0_makesPair 93 = .ok (.iconst 0, 1) := by decide +kernel
theorem dX0_makesPair_94 : decode cX0_makesPair 94 = .ok (.ireturn, 1) := by decide +kernel
theorem dX0_usesMemory_0 : decode cX0_usesMemory 0 = .ok (.iload_n 0, 1) := by decide +kernel
theorem dX0_usesMemory_1 : decode cX0_usesMemory 1 = .ok (.iconst 1, 1) := by decide +kernel
theorem dX0_usesMemory_2 : decode cX0_usesMemory 2 = .ok (.if_icmp .eq 8, 3) := by decide +kernel
theorem dX0_usesMemory_5 : decode cX0_usesMemory 5 = .ok (.iload_n 0, 1) := by decide +kernel
theorem dX0_usesMemory_6 : decode cX0_usesMemory 6 = .ok (.iconst 2, 1) := by decide +kernel
theorem dX0_usesMemory_7 : decode cX0_usesMemory 7 = .ok (.if_icmp .ne 7, 3) := by decide +kernel
theorem dX0_usesMemory_10 : decode cX0_usesMemory 10 = .ok (.iconst 1, 1) := by decide +kernel
theorem dX0_usesMemory_11 : decode cX0_usesMemory 11 = .ok (.goto 4, 3) := by decide +kernel
theorem dX0_usesMemory_14 : decode cX0_usesMemory 14 = .ok (.iconst 0, 1) := by decide +kernel
theorem dX0_usesMemory_15 : decode cX0_usesMemory 15 = .ok (.ireturn, 1) := by decide +kernel
theorem dX0_usesMultiplier_0 : decode cX0_usesMultiplier 0 = .ok (.iload_n 0, 1) := by decide +kernel
theorem dX0_usesMultiplier_1 : decode cX0_usesMultiplier 1 = .ok (.iconst 3, 1) := by decide +kernel
theorem dX0_usesMultiplier_2 : decode cX0_usesMultiplier 2 = .ok (.if_icmp .eq 8, 3) := by decide +kernel
theorem dX0_usesMultiplier_5 : decode cX0_usesMultiplier 5 = .ok (.iload_n 0, 1) := by decide +kernel
theorem dX0_usesMultiplier_6 : decode cX0_usesMultiplier 6 = .ok (.iconst 4, 1) := by decide +kernel
theorem dX0_usesMultiplier_7 : decode cX0_usesMultiplier 7 = .ok (.if_icmp .ne 7, 3) := by decide +kernel
theorem dX0_usesMultiplier_10 : decode cX0_usesMultiplier 10 = .ok (.iconst 1, 1) := by decide +kernel
theorem dX0_usesMultiplier_11 : decode cX0_usesMultiplier 11 = .ok (.goto 4, 3) := by decide +kernel
theorem dX0_usesMultiplier_14 : decode cX0_usesMultiplier 14 = .ok (.iconst 0, 1) := by decide +kernel
theorem dX0_usesMultiplier_15 : decode cX0_usesMultiplier 15 = .ok (.ireturn, 1) := by decide +kernel
theorem dX0_reads_0 : decode cX0_reads 0 = .ok (.iload_n 2, 1) := by decide +kernel
theorem dX0_reads_1 : decode cX0_reads 1 = .ok (.ifCond .eq 27, 3) := by decide +kernel
theorem dX0_reads_4 : decode cX0_reads 4 = .ok (.aload_n 0, 1) := by decide +kernel
theorem dX0_reads_5 : decode cX0_reads 5 = .ok (.getfield 20, 3) := by decide +kernel
theorem dX0_reads_8 : decode cX0_reads 8 = .ok (.iload_n 1, 1) := by decide +kernel
theorem dX0_reads_9 : decode cX0_reads 9 = .ok (.iaload, 1) := by decide +kernel
theorem dX0_reads_10 : decode cX0_reads 10 = .ok (.iload_n 2, 1) := by decide +kernel
