theorem dX0_init_0 : decode cX0_init 0 = .ok (.aload_n 0, 1) := by decide +kernel
theorem dX0_init_1 : decode cX0_init 1 = .ok (.invokespecial 1, 3) := by decide +kernel
theorem dX0_init_4 : decode cX0_init 4 = .ok (.aload_n 0, 1) := by decide +kernel
theorem dX0_init_5 : decode cX0_init 5 = .ok (.iconst 0, 1) := by decide +kernel
theorem dX0_init_6 : decode cX0_init 6 = .ok (.putfield 7, 3) := by decide +kernel
theorem dX0_init_9 : decode cX0_init 9 = .ok (.aload_n 0, 1) := by decide +kernel
theorem dX0_init_10 : decode cX0_init 10 = .ok (.sipush 400, 3) := by decide +kernel
theorem dX0_init_13 : decode cX0_init 13 = .ok (.newarray .int, 2) := by decide +kernel
theorem dX0_init_15 : decode cX0_init 15 = .ok (.putfield 13, 3) := by decide +kernel
theorem dX0_init_18 : decode cX0_init 18 = .ok (.aload_n 0, 1) := by decide +kernel
theorem dX0_init_19 : decode cX0_init 19 = .ok (.sipush 400, 3) := by decide +kernel
theorem dX0_init_22 : decode cX0_init 22 = .ok (.newarray .int, 2) := by decide +kernel
theorem dX0_init_24 : decode cX0_init 24 = .ok (.putfield 17, 3) := by decide +kernel
theorem dX0_init_27 : decode cX0_init 27 = .ok (.aload_n 0, 1) := by decide +kernel
theorem dX0_init_28 : decode cX0_init 28 = .ok (.sipush 400, 3) := by decide +kernel
theorem dX0_init_31 : decode cX0_init 31 = .ok (.newarray .int, 2) := by decide +kernel
theorem dX0_init_33 : decode cX0_init 33 = .ok (.putfield 20, 3) := by decide +kernel
theorem dX0_init_36 : decode cX0_init 36 = .ok (.aload_n 0, 1) := by decide +kernel
theorem dX0_init_37 : decode cX0_init 37 = .ok (.sipush 400, 3) := by decide +kernel
theorem dX0_init_40 : decode cX0_init 40 = .ok (.newarray .int, 2) := by decide +kernel
theorem dX0_init_42 : decode cX0_init 42 = .ok (.putfield 23, 3) := by decide +kernel
theorem dX0_init_45 : decode cX0_init 45 = .ok (.aload_n 0, 1) := by decide +kernel
theorem dX0_init_46 : decode cX0_init 46 = .ok (.sipush 400, 3) := by decide +kernel
theorem dX0_init_49 : decode cX0_init 49 = .ok (.newarray .int, 2) := by decide +kernel
theorem dX0_init_51 : decode cX0_init 51 = .ok (.putfield 26, 3) := by decide +kernel
theorem dX0_init_54 : decode cX0_init 54 = .ok (.aload_n 0, 1) := by decide +kernel
theorem dX0_init_55 : decode cX0_init 55 = .ok (.sipush 400, 3) := by decide +kernel
theorem dX0_init_58 : decode cX0_init 58 = .ok (.newarray .boolean, 2) := by decide +kernel
theorem dX0_init_60 : decode cX0_init 60 = .ok (.putfield 29, 3) := by decide +kernel
theorem dX0_init_63 : decode cX0_init 63 = .ok (.aload_n 0, 1) := by decide +kernel
theorem dX0_init_64 : decode cX0_init 64 = .ok (.sipush 400, 3) := by decide +kernel
theorem dX0_init_67 : decode cX0_init 67 = .ok (.newarray .boolean, 2) := by decide +kernel
theorem dX0_init_69 : decode cX0_init 69 = .ok (.putfield 33, 3) := by decide +kernel
theorem dX0_init_72 : decode cX0_init 72 = .ok (.aload_n 0, 1) := by decide +kernel
theorem dX0_init_73 : decode cX0_init 73 = .ok (.sipush 400, 3) := by decide +kernel
theorem dX0_init_76 : decode cX0_init 76 = .ok (.newarray .boolean, 2) := by decide +kernel
theorem dX0_init_78 : decode cX0_init 78 = .ok (.putfield 36, 3) := by decide +kernel
theorem dX0_init_81 : decode cX0_init 81 = .ok (.aload_n 0, 1) := by decide +kernel
theorem dX0_init_82 : decode cX0_init 82 = .ok (.sipush 400, 3) := by decide +kernel
theorem dX0_init_85 : decode cX0_init 85 = .ok (.newarray .boolean, 2) := by decide +kernel
theorem dX0_init_87 : decode cX0_init 87 = .ok (.putfield 39, 3) := by decide +kernel
theorem dX0_init_90 : decode cX0_init 90 = .ok (.aload_n 0, 1) := by decide +kernel
theorem dX0_init_91 : decode cX0_init 91 = .ok (.sipush 400, 3) := by decide +kernel
theorem dX0_init_94 : decode cX0_init 94 = .ok (.newarray .boolean, 2) := by decide +kernel
theorem dX0_init_96 : decode cX0_init 96 = .ok (.putfield 42, 3) := by decide +kernel
theorem dX0_init_99 : decode cX0_init 99 = .ok (.aload_n 0, 1) := by decide +kernel
theorem dX0_init_100 : decode cX0_init 100 = .ok (.sipush 400, 3) := by decide +kernel
theorem dX0_init_103 : decode cX0_init 103 = .ok (.newarray .int, 2) := by decide +kernel
theorem dX0_init_105 : decode cX0_init 105 = .ok (.putfield 45, 3) := by decide +kernel
theorem dX0_init_108 : decode cX0_init 108 = .ok (.aload_n 0, 1) := by decide +kernel
theorem dX0_init_109 : decode cX0_init 109 = .ok (.sipush 400, 3) := by decide +kernel
theorem dX0_init_112 : decode cX0_init 112 = .ok (.newarray .int, 2) := by decide +kernel
theorem dX0_init_114 : decode cX0_init 114 = .ok (.putfield 48, 3) := by decide +kernel
theorem dX0_init_117 : decode cX0_init 117 = .ok (.aload_n 0, 1) := by decide +kernel
theorem dX0_init_118 : decode cX0_init 118 = .ok (.sipush 400, 3) := by decide +kernel
theorem dX0_init_121 : decode cX0_init 121 = .ok (.newarray .int, 2) := by decide +kernel
theorem dX0_init_123 : decode cX0_init 123 = .ok (.putfield 51, 3) := by decide +kernel
theorem dX0_init_126 : decode cX0_init 126 = .ok (.return_, 1) := by decide +kernel
theorem dX0_put_0 : decode cX0_put 0 = .ok (.iload_n 1, 1) := by decide +kernel
theorem dX0_put_1 : decode cX0_put 1 = .ok (.ifCond .lt 14, 3) := by decide +kernel
theorem dX0_put_4 : decode cX0_put 4 = .ok (.iload_n 1, 1) := by decide +kernel
theorem dX0_put_5 : decode cX0_put 5 = .ok (.bipush 7, 2) := by decide +kernel
theorem dX0_put_7 : decode cX0_put 7 = .ok (.if_icmp .gt 8, 3) := by decide +kernel
theorem dX0_put_10 : decode cX0_put 10 = .ok (.iload_n 1, 1) := by decide +kernel
theorem dX0_put_11 : decode cX0_put 11 = .ok (.iconst 5, 1) := by decide +kernel
theorem dX0_put_12 : decode cX0_put 12 = .ok (.if_icmp .ne 5, 3) := by decide +kernel
theorem dX0_put_15 : decode cX0_put 15 = .ok (.iconst (-1), 1) := by decide +kernel
theorem dX0_put_16 : decode cX0_put 16 = .ok (.ireturn, 1) := by decide +kernel
theorem dX0_put_17 : decode cX0_put 17 = .ok (.iload_n 2, 1) := by decide +kernel
theorem dX0_put_18 : decode cX0_put 18 = .ok (.invokestatic 54, 3) := by decide +kernel
theorem dX0_put_21 : decode cX0_put 21 = .ok (.ifCond .eq 18, 3) := by decide +kernel
theorem dX0_put_24 : decode cX0_put 24 = .ok (.iload_n 3, 1) := by decide +kernel
theorem dX0_put_25 : decode cX0_put 25 = .ok (.invokestatic 54, 3) := by decide +kernel
theorem dX0_put_28 : decode cX0_put 28 = .ok (.ifCond .eq 11, 3) := by decide +kernel
theorem dX0_put_31 : decode cX0_put 31 = .ok (.iload 4, 2) := by decide +kernel
theorem dX0_put_33 : decode cX0_put 33 = .ok (.invokestatic 54, 3) := by decide +kernel
theorem dX0_put_36 : decode cX0_put 36 = .ok (.ifCond .ne 5, 3) := by decide +kernel
theorem dX0_put_39 : decode cX0_put 39 = .ok (.iconst (-1), 1) := by decide +kernel
theorem dX0_put_40 : decode cX0_put 40 = .ok (.ireturn, 1) := by decide +kernel
theorem dX0_put_41 : decode cX0_put 41 = .ok (.iload_n 1, 1) := by decide +kernel
theorem dX0_put_42 : decode cX0_put 42 = .ok (.bipush 7, 2) := by decide +kernel
theorem dX0_put_44 : decode cX0_put 44 = .ok (.if_icmp .ne 18, 3) := by decide +kernel
theorem dX0_put_47 : decode cX0_put 47 = .ok (.iload_n 2, 1) := by decide +kernel
theorem dX0_put_48 : decode cX0_put 48 = .ok (.ifCond .ne 12, 3) := by decide +kernel
theorem dX0_put_51 : decode cX0_put 51 = .ok (.iload_n 3, 1) := by decide +kernel
theorem dX0_put_52 : decode cX0_put 52 = .ok (.ifCond .ne 8, 3) := by decide +kernel
theorem dX0_put_55 : decode cX0_put 55 = .ok (.iload 4, 2) := by decide +kernel
theorem dX0_put_57 : decode cX0_put 57 = .ok (.ifCond .eq 5, 3) := by decide +kernel
theorem dX0_put_60 : decode cX0_put 60 = .ok (.iconst (-1), 1) := by decide +kernel
theorem dX0_put_61 : decode cX0_put 61 = .ok (.ireturn, 1) := by decide +kernel
theorem dX0_put_62 : decode cX0_put 62 = .ok (.aload_n 0, 1) := by decide +kernel
theorem dX0_put_63 : decode cX0_put 63 = .ok (.iload_n 1, 1) := by decide +kernel
theorem dX0_put_64 : decode cX0_put 64 = .ok (.iload_n 2, 1) := by decide +kernel
theorem dX0_put_65 : decode cX0_put 65 = .ok (.iload_n 3, 1) := by decide +kernel
theorem dX0_put_66 : decode cX0_put 66 = .ok (.iload 4, 2) := by decide +kernel
theorem dX0_put_68 : decode cX0_put 68 = .ok (.iconst 0, 1) := by decide +kernel
theorem dX0_put_69 : decode cX0_put 69 = .ok (.iconst 0, 1) := by decide +kernel
theorem dX0_put_70 : decode cX0_put 70 = .ok (.invokevirtual 58, 3) := by decide +kernel
theorem dX0_put_73 : decode cX0_put 73 = .ok (.ireturn, 1) := by decide +kernel
theorem dX0_branch_0 : decode cX0_branch 0 = .ok (.iload_n 1, 1) := by decide +kernel
theorem dX0_branch_1 : decode cX0_branch 1 = .ok (.ifCond .lt 8, 3) := by decide +kernel
theorem dX0_branch_4 : decode cX0_branch 4 = .ok (.iload_n 1, 1) := by decide +kernel
theorem dX0_branch_5 : decode cX0_branch 5 = .ok (.iconst 2, 1) := by decide +kernel
theorem dX0_branch_6 : decode cX0_branch 6 = .ok (.if_icmp .le 5, 3) := by decide +kernel
theorem dX0_branch_9 : decode cX0_branch 9 = .ok (.iconst (-1), 1) := by decide +kernel
theorem dX0_branch_10 : decode cX0_branch 10 = .ok (.ireturn, 1) := by decide +kernel
theorem dX0_branch_11 : decode cX0_branch 11 = .ok (.iload_n 3, 1) := by decide +kernel
theorem dX0_branch_12 : decode cX0_branch 12 = .ok (.invokestatic 54, 3) := by decide +kernel
theorem dX0_branch_15 : decode cX0_branch 15 = .ok (.ifCond .eq 11, 3) := by decide +kernel
theorem dX0_branch_18 : decode cX0_branch 18 = .ok (.iload 4, 2) := by decide +kernel
theorem dX0_branch_20 : decode cX0_branch 20 = .ok (.invokestatic 54, 3) := by decide +kernel
theorem dX0_branch_23 : decode cX0_branch 23 = .ok (.ifCond .ne 5, 3) := by decide +kernel
theorem dX0_branch_26 : decode cX0_branch 26 = .ok (.iconst (-1), 1) := by decide +kernel
theorem dX0_branch_27 : decode cX0_branch 27 = .ok (.ireturn, 1) := by decide +kernel
theorem dX0_branch_28 : decode cX0_branch 28 = .ok (.aload_n 0, 1) := by decide +kernel
theorem dX0_branch_29 : decode cX0_branch 29 = .ok (.iconst 5, 1) := by decide +kernel
theorem dX0_branch_30 : decode cX0_branch 30 = .ok (.iload_n 3, 1) := by decide +kernel
theorem dX0_branch_31 : decode cX0_branch 31 = .ok (.iload 4, 2) := by decide +kernel
theorem dX0_branch_33 : decode cX0_branch 33 = .ok (.iconst 0, 1) := by decide +kernel
theorem dX0_branch_34 : decode cX0_branch 34 = .ok (.iload_n 1, 1) := by decide +kernel
theorem dX0_branch_35 : decode cX0_branch 35 = .ok (.iload_n 2, 1) := by decide +kernel
theorem dX0_branch_36 : decode cX0_branch 36 = .ok (.invokevirtual 58, 3) := by decide +kernel
theorem dX0_branch_39 : decode cX0_branch 39 = .ok (.ireturn, 1) := by decide +kernel
theorem dX0_fail_0 : decode cX0_fail 0 = .ok (.aload_n 0, 1) := by decide +kernel
theorem dX0_fail_1 : decode cX0_fail 1 = .ok (.getfield 7, 3) := by decide +kernel
theorem dX0_fail_4 : decode cX0_fail 4 = .ok (.ifCond .ne 5, 3) := by decide +kernel
theorem dX0_fail_7 : decode cX0_fail 7 = .ok (.iconst 0, 1) := by decide +kernel
theorem dX0_fail_8 : decode cX0_fail 8 = .ok (.ireturn, 1) := by decide +kernel
theorem dX0_fail_9 : decode cX0_fail 9 = .ok (.aload_n 0, 1) := by decide +kernel
theorem dX0_fail_10 : decode cX0_fail 10 = .ok (.invokevirtual 62, 3) := by decide +kernel
theorem dX0_fail_13 : decode cX0_fail 13 = .ok (.iconst 1, 1) := by decide +kernel
theorem dX0_fail_14 : decode cX0_fail 14 = .ok (.ireturn, 1) := by decide +kernel
theorem dX0_drop_0 : decode cX0_drop 0 = .ok (.iload_n 1, 1) := by decide +kernel
theorem dX0_drop_1 : decode cX0_drop 1 = .ok (.ifCond .lt 11, 3) := by decide +kernel
theorem dX0_drop_4 : decode cX0_drop 4 = .ok (.iload_n 1, 1) := by decide +kernel
theorem dX0_drop_5 : decode cX0_drop 5 = .ok (.aload_n 0, 1) := by decide +kernel
theorem dX0_drop_6 : decode cX0_drop 6 = .ok (.getfield 7, 3) := by decide +kernel
theorem dX0_drop_9 : decode cX0_drop 9 = .ok (.if_icmp .le 5, 3) := by decide +kernel
theorem dX0_drop_12 : decode cX0_drop 12 = .ok (.iconst 0, 1) := by decide +kernel
theorem dX0_drop_13 : decode cX0_drop 13 = .ok (.ireturn, 1) := by decide +kernel
theorem dX0_drop_14 : decode cX0_drop 14 = .ok (.aload_n 0, 1) := by decide +kernel
theorem dX0_drop_15 : decode cX0_drop 15 = .ok (.dup, 1) := by decide +kernel
theorem dX0_drop_16 : decode cX0_drop 16 = .ok (.getfield 7, 3) := by decide +kernel
theorem dX0_drop_19 : decode cX0_drop 19 = .ok (.iload_n 1, 1) := by decide +kernel
theorem dX0_drop_20 : decode cX0_drop 20 = .ok (.isub, 1) := by decide +kernel
theorem dX0_drop_21 : decode cX0_drop 21 = .ok (.putfield 7, 3) := by decide +kernel
theorem dX0_drop_24 : decode cX0_drop 24 = .ok (.iconst 1, 1) := by decide +kernel
theorem dX0_drop_25 : decode cX0_drop 25 = .ok (.ireturn, 1) := by decide +kernel
theorem dX0_clear_0 : decode cX0_clear 0 = .ok (.aload_n 0, 1) := by decide +kernel
theorem dX0_clear_1 : decode cX0_clear 1 = .ok (.iconst 0, 1) := by decide +kernel
theorem dX0_clear_2 : decode cX0_clear 2 = .ok (.putfield 7, 3) := by decide +kernel
theorem dX0_clear_5 : decode cX0_clear 5 = .ok (.return_, 1) := by decide +kernel
theorem dX0_again_0 : decode cX0_again 0 = .ok (.aload_n 0, 1) := by decide +kernel
theorem dX0_again_1 : decode cX0_again 1 = .ok (.iload_n 1, 1) := by decide +kernel
theorem dX0_again_2 : decode cX0_again 2 = .ok (.invokevirtual 65, 3) := by decide +kernel
theorem dX0_again_5 : decode cX0_again 5 = .ok (.ifCond .eq 30, 3) := by decide +kernel
theorem dX0_again_8 : decode cX0_again 8 = .ok (.iload_n 2, 1) := by decide +kernel
theorem dX0_again_9 : decode cX0_again 9 = .ok (.iconst 1, 1) := by decide +kernel
theorem dX0_again_10 : decode cX0_again 10 = .ok (.if_icmp .lt 25, 3) := by decide +kernel
theorem dX0_again_13 : decode cX0_again 13 = .ok (.iload_n 2, 1) := by decide +kernel
theorem dX0_again_14 : decode cX0_again 14 = .ok (.aload_n 0, 1) := by decide +kernel
theorem dX0_again_15 : decode cX0_again 15 = .ok (.getfield 7, 3) := by decide +kernel
theorem dX0_again_18 : decode cX0_again 18 = .ok (.iload_n 1, 1) := by decide +kernel
theorem dX0_again_19 : decode cX0_again 19 = .ok (.isub, 1) := by decide +kernel
theorem dX0_again_20 : decode cX0_again 20 = .ok (.if_icmp .gt 15, 3) := by decide +kernel
theorem dX0_again_23 : decode cX0_again 23 = .ok (.iload_n 2, 1) := by decide +kernel
theorem dX0_again_24 : decode cX0_again 24 = .ok (.sipush 400, 3) := by decide +kernel
theorem dX0_again_27 : decode cX0_again 27 = .ok (.aload_n 0, 1) := by decide +kernel
theorem dX0_again_28 : decode cX0_again 28 = .ok (.getfield 7, 3) := by decide +kernel
theorem dX0_again_31 : decode cX0_again 31 = .ok (.isub, 1) := by decide +kernel
theorem dX0_again_32 : decode cX0_again 32 = .ok (.if_icmp .le 5, 3) := by decide +kernel
theorem dX0_again_35 : decode cX0_again 35 = .ok (.iconst (-1), 1) := by decide +kernel
theorem dX0_again_36 : decode cX0_again 36 = .ok (.ireturn, 1) := by decide +kernel
theorem dX0_again_37 : decode cX0_again 37 = .ok (.iload_n 1, 1) := by decide +kernel
theorem dX0_again_38 : decode cX0_again 38 = .ok (.istore_n 3, 1) := by decide +kernel
theorem dX0_again_39 : decode cX0_again 39 = .ok (.iload_n 3, 1) := by decide +kernel
theorem dX0_again_40 : decode cX0_again 40 = .ok (.iload_n 1, 1) := by decide +kernel
theorem dX0_again_41 : decode cX0_again 41 = .ok (.iload_n 2, 1) := by decide +kernel
theorem dX0_again_42 : decode cX0_again 42 = .ok (.iadd, 1) := by decide +kernel
theorem dX0_again_43 : decode cX0_again 43 = .ok (.if_icmp .ge 63, 3) := by decide +kernel
theorem dX0_again_46 : decode cX0_again 46 = .ok (.aload_n 0, 1) := by decide +kernel
theorem dX0_again_47 : decode cX0_again 47 = .ok (.aload_n 0, 1) := by decide +kernel
theorem dX0_again_48 : decode cX0_again 48 = .ok (.getfield 13, 3) := by decide +kernel
theorem dX0_again_51 : decode cX0_again 51 = .ok (.iload_n 3, 1) := by decide +kernel
theorem dX0_again_52 : decode cX0_again 52 = .ok (.iaload, 1) := by decide +kernel
theorem dX0_again_53 : decode cX0_again 53 = .ok (.aload_n 0, 1) := by decide +kernel
theorem dX0_again_54 : decode cX0_again 54 = .ok (.getfield 17, 3) := by decide +kernel
theorem dX0_again_57 : decode cX0_again 57 = .ok (.iload_n 3, 1) := by decide +kernel
theorem dX0_again_58 : decode cX0_again 58 = .ok (.iaload, 1) := by decide +kernel
theorem dX0_again_59 : decode cX0_again 59 = .ok (.aload_n 0, 1) := by decide +kernel
theorem dX0_again_60 : decode cX0_again 60 = .ok (.getfield 20, 3) := by decide +kernel
theorem dX0_again_63 : decode cX0_again 63 = .ok (.iload_n 3, 1) := by decide +kernel
theorem dX0_again_64 : decode cX0_again 64 = .ok (.iaload, 1) := by decide +kernel
theorem dX0_again_65 : decode cX0_again 65 = .ok (.aload_n 0, 1) := by decide +kernel
theorem dX0_again_66 : decode cX0_again 66 = .ok (.getfield 23, 3) := by decide +kernel
theorem dX0_again_69 : decode cX0_again 69 = .ok (.iload_n 3, 1) := by decide +kernel
theorem dX0_again_70 : decode cX0_again 70 = .ok (.iaload, 1) := by decide +kernel
theorem dX0_again_71 : decode cX0_again 71 = .ok (.aload_n 0, 1) := by decide +kernel
theorem dX0_again_72 : decode cX0_again 72 = .ok (.getfield 26, 3) := by decide +kernel
theorem dX0_again_75 : decode cX0_again 75 = .ok (.iload_n 3, 1) := by decide +kernel
theorem dX0_again_76 : decode cX0_again 76 = .ok (.iaload, 1) := by decide +kernel
theorem dX0_again_77 : decode cX0_again 77 = .ok (.aload_n 0, 1) := by decide +kernel
theorem dX0_again_78 : decode cX0_again 78 = .ok (.getfield 29, 3) := by decide +kernel
theorem dX0_again_81 : decode cX0_again 81 = .ok (.iload_n 3, 1) := by decide +kernel
theorem dX0_again_82 : decode cX0_again 82 = .ok (.baload, 1) := by decide +kernel
theorem dX0_again_83 : decode cX0_again 83 = .ok (.invokevirtual 58, 3) := by decide +kernel
theorem dX0_again_86 : decode cX0_again 86 = .ok (.pop, 1) := by decide +kernel
theorem dX0_again_87 : decode cX0_again 87 = .ok (.aload_n 0, 1) := by decide +kernel
theorem dX0_again_88 : decode cX0_again 88 = .ok (.getfield 33, 3) := by decide +kernel
theorem dX0_again_91 : decode cX0_again 91 = .ok (.iload_n 3, 1) := by decide +kernel
theorem dX0_again_92 : decode cX0_again 92 = .ok (.baload, 1) := by decide +kernel
theorem dX0_again_93 : decode cX0_again 93 = .ok (.ifCond .eq 7, 3) := by decide +kernel
theorem dX0_again_96 : decode cX0_again 96 = .ok (.aload_n 0, 1) := by decide +kernel
theorem dX0_again_97 : decode cX0_again 97 = .ok (.invokevirtual 62, 3) := by decide +kernel
theorem dX0_again_100 : decode cX0_again 100 = .ok (.iinc 3 1, 3) := by decide +kernel
theorem dX0_again_103 : decode cX0_again 103 = .ok (.goto (-64), 3) := by decide +kernel
theorem dX0_again_106 : decode cX0_again 106 = .ok (.aload_n 0, 1) := by decide +kernel
theorem dX0_again_107 : decode cX0_again 107 = .ok (.getfield 7, 3) := by decide +kernel
theorem dX0_again_110 : decode cX0_again 110 = .ok (.ireturn, 1) := by decide +kernel
theorem dX0_time_0 : decode cX0_time 0 = .ok (.aload_n 0, 1) := by decide +kernel
theorem dX0_time_1 : decode cX0_time 1 = .ok (.iload_n 1, 1) := by decide +kernel
theorem dX0_time_2 : decode cX0_time 2 = .ok (.invokevirtual 65, 3) := by decide +kernel
theorem dX0_time_5 : decode cX0_time 5 = .ok (.ifCond .ne 5, 3) := by decide +kernel
theorem dX0_time_8 : decode cX0_time 8 = .ok (.iconst (-1), 1) := by decide +kernel
theorem dX0_time_9 : decode cX0_time 9 = .ok (.ireturn, 1) := by decide +kernel
theorem dX0_time_10 : decode cX0_time 10 = .ok (.iload_n 2, 1) := by decide +kernel
theorem dX0_time_11 : decode cX0_time 11 = .ok (.tableswitch 69 0 4 #[33, 40, 47, 54, 60], 33) := by decide +kernel
theorem dX0_time_44 : decode cX0_time 44 = .ok (.aload_n 0, 1) := by decide +kernel
theorem dX0_time_45 : decode cX0_time 45 = .ok (.getfield 45, 3) := by decide +kernel
theorem dX0_time_48 : decode cX0_time 48 = .ok (.iload_n 1, 1) := by decide +kernel
theorem dX0_time_49 : decode cX0_time 49 = .ok (.iaload, 1) := by decide +kernel
theorem dX0_time_50 : decode cX0_time 50 = .ok (.ireturn, 1) := by decide +kernel
theorem dX0_time_51 : decode cX0_time 51 = .ok (.aload_n 0, 1) := by decide +kernel
theorem dX0_time_52 : decode cX0_time 52 = .ok (.getfield 48, 3) := by decide +kernel
theorem dX0_time_55 : decode cX0_time 55 = .ok (.iload_n 1, 1) := by decide +kernel
theorem dX0_time_56 : decode cX0_time 56 = .ok (.iaload, 1) := by decide +kernel
theorem dX0_time_57 : decode cX0_time 57 = .ok (.ireturn, 1) := by decide +kernel
theorem dX0_time_58 : decode cX0_time 58 = .ok (.aload_n 0, 1) := by decide +kernel
theorem dX0_time_59 : decode cX0_time 59 = .ok (.getfield 51, 3) := by decide +kernel
theorem dX0_time_62 : decode cX0_time 62 = .ok (.iload_n 1, 1) := by decide +kernel
theorem dX0_time_63 : decode cX0_time 63 = .ok (.iaload, 1) := by decide +kernel
theorem dX0_time_64 : decode cX0_time 64 = .ok (.ireturn, 1) := by decide +kernel
theorem dX0_time_65 : decode cX0_time 65 = .ok (.aload_n 0, 1) := by decide +kernel
theorem dX0_time_66 : decode cX0_time 66 = .ok (.iload_n 1, 1) := by decide +kernel
theorem dX0_time_67 : decode cX0_time 67 = .ok (.invokevirtual 68, 3) := by decide +kernel
theorem dX0_time_70 : decode cX0_time 70 = .ok (.ireturn, 1) := by decide +kernel
theorem dX0_time_71 : decode cX0_time 71 = .ok (.aload_n 0, 1) := by decide +kernel
theorem dX0_time_72 : decode cX0_time 72 = .ok (.iload_n 1, 1) := by decide +kernel
theorem dX0_time_73 : decode cX0_time 73 = .ok (.invokevirtual 72, 3) := by decide +kernel
theorem dX0_time_76 : decode cX0_time 76 = .ok (.invokestatic 75, 3) := by decide +kernel
theorem dX0_time_79 : decode cX0_time 79 = .ok (.ireturn, 1) := by decide +kernel
theorem dX0_time_80 : decode cX0_time 80 = .ok (.iconst (-1), 1) := by decide +kernel
theorem dX0_time_81 : decode cX0_time 81 = .ok (.ireturn, 1) := by decide +kernel
theorem dX0_of_0 : decode cX0_of 0 = .ok (.aload_n 0, 1) := by decide +kernel
theorem dX0_of_1 : decode cX0_of 1 = .ok (.iload_n 1, 1) := by decide +kernel
theorem dX0_of_2 : decode cX0_of 2 = .ok (.invokevirtual 65, 3) := by decide +kernel
theorem dX0_of_5 : decode cX0_of 5 = .ok (.ifCond .ne 5, 3) := by decide +kernel
theorem dX0_of_8 : decode cX0_of 8 = .ok (.iconst (-1), 1) := by decide +kernel
theorem dX0_of_9 : decode cX0_of 9 = .ok (.ireturn, 1) := by decide +kernel
theorem dX0_of_10 : decode cX0_of 10 = .ok (.iload_n 2, 1) := by decide +kernel
theorem dX0_of_11 : decode cX0_of 11 = .ok (.tableswitch 111 0 7 #[45, 52, 59, 66, 73, 83, 93, 102], 45) := by decide +kernel
theorem dX0_of_56 : decode cX0_of 56 = .ok (.aload_n 0, 1) := by decide +kernel
theorem dX0_of_57 : decode cX0_of 57 = .ok (.getfield 13, 3) := by decide +kernel
theorem dX0_of_60 : decode cX0_of 60 = .ok (.iload_n 1, 1) := by decide +kernel
theorem dX0_of_61 : decode cX0_of 61 = .ok (.iaload, 1) := by decide +kernel
theorem dX0_of_62 : decode cX0_of 62 = .ok (.ireturn, 1) := by decide +kernel
theorem dX0_of_63 : decode cX0_of 63 = .ok (.aload_n 0, 1) := by decide +kernel
theorem dX0_of_64 : decode cX0_of 64 = .ok (.getfield 17, 3) := by decide +kernel
theorem dX0_of_67 : decode cX0_of 67 = .ok (.iload_n 1, 1) := by decide +kernel
theorem dX0_of_68 : decode cX0_of 68 = .ok (.iaload, 1) := by decide +kernel
theorem dX0_of_69 : decode cX0_of 69 = .ok (.ireturn, 1) := by decide +kernel
theorem dX0_of_70 : decode cX0_of 70 = .ok (.aload_n 0, 1) := by decide +kernel
theorem dX0_of_71 : decode cX0_of 71 = .ok (.getfield 20, 3) := by decide +kernel
theorem dX0_of_74 : decode cX0_of 74 = .ok (.iload_n 1, 1) := by decide +kernel
theorem dX0_of_75 : decode cX0_of 75 = .ok (.iaload, 1) := by decide +kernel
theorem dX0_of_76 : decode cX0_of 76 = .ok (.ireturn, 1) := by decide +kernel
theorem dX0_of_77 : decode cX0_of 77 = .ok (.aload_n 0, 1) := by decide +kernel
theorem dX0_of_78 : decode cX0_of 78 = .ok (.getfield 23, 3) := by decide +kernel
theorem dX0_of_81 : decode cX0_of 81 = .ok (.iload_n 1, 1) := by decide +kernel
theorem dX0_of_82 : decode cX0_of 82 = .ok (.iaload, 1) := by decide +kernel
theorem dX0_of_83 : decode cX0_of 83 = .ok (.ireturn, 1) := by decide +kernel
theorem dX0_of_84 : decode cX0_of 84 = .ok (.aload_n 0, 1) := by decide +kernel
theorem dX0_of_85 : decode cX0_of 85 = .ok (.getfield 39, 3) := by decide +kernel
theorem dX0_of_88 : decode cX0_of 88 = .ok (.iload_n 1, 1) := by decide +kernel
theorem dX0_of_89 : decode cX0_of 89 = .ok (.baload, 1) := by decide +kernel
theorem dX0_of_90 : decode cX0_of 90 = .ok (.invokestatic 75, 3) := by decide +kernel
theorem dX0_of_93 : decode cX0_of 93 = .ok (.ireturn, 1) := by decide +kernel
theorem dX0_of_94 : decode cX0_of 94 = .ok (.aload_n 0, 1) := by decide +kernel
theorem dX0_of_95 : decode cX0_of 95 = .ok (.getfield 36, 3) := by decide +kernel
theorem dX0_of_98 : decode cX0_of 98 = .ok (.iload_n 1, 1) := by decide +kernel
theorem dX0_of_99 : decode cX0_of 99 = .ok (.baload, 1) := by decide +kernel
theorem dX0_of_100 : decode cX0_of 100 = .ok (.invokestatic 75, 3) := by decide +kernel
theorem dX0_of_103 : decode cX0_of 103 = .ok (.ireturn, 1) := by decide +kernel
theorem dX0_of_104 : decode cX0_of 104 = .ok (.aload_n 0, 1) := by decide +kernel
theorem dX0_of_105 : decode cX0_of 105 = .ok (.iload_n 1, 1) := by decide +kernel
theorem dX0_of_106 : decode cX0_of 106 = .ok (.invokevirtual 79, 3) := by decide +kernel
theorem dX0_of_109 : decode cX0_of 109 = .ok (.invokestatic 75, 3) := by decide +kernel
theorem dX0_of_112 : decode cX0_of 112 = .ok (.ireturn, 1) := by decide +kernel
theorem dX0_of_113 : decode cX0_of 113 = .ok (.aload_n 0, 1) := by decide +kernel
theorem dX0_of_114 : decode cX0_of 114 = .ok (.iload_n 1, 1) := by decide +kernel
theorem dX0_of_115 : decode cX0_of 115 = .ok (.invokevirtual 82, 3) := by decide +kernel
theorem dX0_of_118 : decode cX0_of 118 = .ok (.invokestatic 75, 3) := by decide +kernel
theorem dX0_of_121 : decode cX0_of 121 = .ok (.ireturn, 1) := by decide +kernel
theorem dX0_of_122 : decode cX0_of 122 = .ok (.iconst (-1), 1) := by decide +kernel
theorem dX0_of_123 : decode cX0_of 123 = .ok (.ireturn, 1) := by decide +kernel
theorem dX0_stage_0 : decode cX0_stage 0 = .ok (.aload_n 0, 1) := by decide +kernel
theorem dX0_stage_1 : decode cX0_stage 1 = .ok (.iload_n 1, 1) := by decide +kernel
theorem dX0_stage_2 : decode cX0_stage 2 = .ok (.invokevirtual 65, 3) := by decide +kernel
theorem dX0_stage_5 : decode cX0_stage 5 = .ok (.ifCond .eq 7, 3) := by decide +kernel
theorem dX0_stage_8 : decode cX0_stage 8 = .ok (.iload_n 2, 1) := by decide +kernel
theorem dX0_stage_9 : decode cX0_stage 9 = .ok (.ifCond .ge 5, 3) := by decide +kernel
theorem dX0_stage_12 : decode cX0_stage 12 = .ok (.iconst (-1), 1) := by decide +kernel
theorem dX0_stage_13 : decode cX0_stage 13 = .ok (.ireturn, 1) := by decide +kernel
theorem dX0_stage_14 : decode cX0_stage 14 = .ok (.aload_n 0, 1) := by decide +kernel
theorem dX0_stage_15 : decode cX0_stage 15 = .ok (.iload_n 1, 1) := by decide +kernel
theorem dX0_stage_16 : decode cX0_stage 16 = .ok (.iload_n 2, 1) := by decide +kernel
theorem dX0_stage_17 : decode cX0_stage 17 = .ok (.invokevirtual 85, 3) := by decide +kernel
theorem dX0_stage_20 : decode cX0_stage 20 = .ok (.ireturn, 1) := by decide +kernel
theorem dX0_many_0 : decode cX0_many 0 = .ok (.iload_n 1, 1) := by decide +kernel
theorem dX0_many_1 : decode cX0_many 1 = .ok (.ifCond .lt 12, 3) := by decide +kernel
theorem dX0_many_4 : decode cX0_many 4 = .ok (.iload_n 1, 1) := by decide +kernel
theorem dX0_many_5 : decode cX0_many 5 = .ok (.iconst 3, 1) := by decide +kernel
theorem dX0_many_6 : decode cX0_many 6 = .ok (.if_icmp .gt 7, 3) := by decide +kernel
theorem dX0_many_9 : decode cX0_many 9 = .ok (.iload_n 2, 1) := by decide +kernel
theorem dX0_many_10 : decode cX0_many 10 = .ok (.ifCond .ge 5, 3) := by decide +kernel
theorem dX0_many_13 : decode cX0_many 13 = .ok (.iconst (-1), 1) := by decide +kernel
theorem dX0_many_14 : decode cX0_many 14 = .ok (.ireturn, 1) := by decide +kernel
theorem dX0_many_15 : decode cX0_many 15 = .ok (.iconst 0, 1) := by decide +kernel
theorem dX0_many_16 : decode cX0_many 16 = .ok (.istore_n 3, 1) := by decide +kernel
theorem dX0_many_17 : decode cX0_many 17 = .ok (.iconst 0, 1) := by decide +kernel
