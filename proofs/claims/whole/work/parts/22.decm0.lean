theorem dX1_init_0 : decode cX1_init 0 = .ok (.aload_n 0, 1) := by decide +kernel
theorem dX1_init_1 : decode cX1_init 1 = .ok (.invokespecial 1, 3) := by decide +kernel
theorem dX1_init_4 : decode cX1_init 4 = .ok (.aload_n 0, 1) := by decide +kernel
theorem dX1_init_5 : decode cX1_init 5 = .ok (.sipush 400, 3) := by decide +kernel
theorem dX1_init_8 : decode cX1_init 8 = .ok (.newarray .int, 2) := by decide +kernel
theorem dX1_init_10 : decode cX1_init 10 = .ok (.putfield 7, 3) := by decide +kernel
theorem dX1_init_13 : decode cX1_init 13 = .ok (.aload_n 0, 1) := by decide +kernel
theorem dX1_init_14 : decode cX1_init 14 = .ok (.sipush 400, 3) := by decide +kernel
theorem dX1_init_17 : decode cX1_init 17 = .ok (.newarray .int, 2) := by decide +kernel
theorem dX1_init_19 : decode cX1_init 19 = .ok (.putfield 13, 3) := by decide +kernel
theorem dX1_init_22 : decode cX1_init 22 = .ok (.aload_n 0, 1) := by decide +kernel
theorem dX1_init_23 : decode cX1_init 23 = .ok (.sipush 400, 3) := by decide +kernel
theorem dX1_init_26 : decode cX1_init 26 = .ok (.newarray .int, 2) := by decide +kernel
theorem dX1_init_28 : decode cX1_init 28 = .ok (.putfield 16, 3) := by decide +kernel
theorem dX1_init_31 : decode cX1_init 31 = .ok (.aload_n 0, 1) := by decide +kernel
theorem dX1_init_32 : decode cX1_init 32 = .ok (.sipush 400, 3) := by decide +kernel
theorem dX1_init_35 : decode cX1_init 35 = .ok (.newarray .int, 2) := by decide +kernel
theorem dX1_init_37 : decode cX1_init 37 = .ok (.putfield 19, 3) := by decide +kernel
theorem dX1_init_40 : decode cX1_init 40 = .ok (.aload_n 0, 1) := by decide +kernel
theorem dX1_init_41 : decode cX1_init 41 = .ok (.sipush 400, 3) := by decide +kernel
theorem dX1_init_44 : decode cX1_init 44 = .ok (.newarray .int, 2) := by decide +kernel
theorem dX1_init_46 : decode cX1_init 46 = .ok (.putfield 22, 3) := by decide +kernel
theorem dX1_init_49 : decode cX1_init 49 = .ok (.aload_n 0, 1) := by decide +kernel
theorem dX1_init_50 : decode cX1_init 50 = .ok (.sipush 400, 3) := by decide +kernel
theorem dX1_init_53 : decode cX1_init 53 = .ok (.newarray .boolean, 2) := by decide +kernel
theorem dX1_init_55 : decode cX1_init 55 = .ok (.putfield 25, 3) := by decide +kernel
theorem dX1_init_58 : decode cX1_init 58 = .ok (.aload_n 0, 1) := by decide +kernel
theorem dX1_init_59 : decode cX1_init 59 = .ok (.sipush 400, 3) := by decide +kernel
theorem dX1_init_62 : decode cX1_init 62 = .ok (.newarray .boolean, 2) := by decide +kernel
theorem dX1_init_64 : decode cX1_init 64 = .ok (.putfield 29, 3) := by decide +kernel
theorem dX1_init_67 : decode cX1_init 67 = .ok (.aload_n 0, 1) := by decide +kernel
theorem dX1_init_68 : decode cX1_init 68 = .ok (.sipush 400, 3) := by decide +kernel
theorem dX1_init_71 : decode cX1_init 71 = .ok (.newarray .boolean, 2) := by decide +kernel
theorem dX1_init_73 : decode cX1_init 73 = .ok (.putfield 32, 3) := by decide +kernel
theorem dX1_init_76 : decode cX1_init 76 = .ok (.aload_n 0, 1) := by decide +kernel
theorem dX1_init_77 : decode cX1_init 77 = .ok (.sipush 400, 3) := by decide +kernel
theorem dX1_init_80 : decode cX1_init 80 = .ok (.newarray .boolean, 2) := by decide +kernel
theorem dX1_init_82 : decode cX1_init 82 = .ok (.putfield 35, 3) := by decide +kernel
theorem dX1_init_85 : decode cX1_init 85 = .ok (.aload_n 0, 1) := by decide +kernel
theorem dX1_init_86 : decode cX1_init 86 = .ok (.sipush 400, 3) := by decide +kernel
theorem dX1_init_89 : decode cX1_init 89 = .ok (.newarray .boolean, 2) := by decide +kernel
theorem dX1_init_91 : decode cX1_init 91 = .ok (.putfield 38, 3) := by decide +kernel
theorem dX1_init_94 : decode cX1_init 94 = .ok (.aload_n 0, 1) := by decide +kernel
theorem dX1_init_95 : decode cX1_init 95 = .ok (.sipush 400, 3) := by decide +kernel
theorem dX1_init_98 : decode cX1_init 98 = .ok (.newarray .boolean, 2) := by decide +kernel
theorem dX1_init_100 : decode cX1_init 100 = .ok (.putfield 41, 3) := by decide +kernel
theorem dX1_init_103 : decode cX1_init 103 = .ok (.aload_n 0, 1) := by decide +kernel
theorem dX1_init_104 : decode cX1_init 104 = .ok (.sipush 400, 3) := by decide +kernel
theorem dX1_init_107 : decode cX1_init 107 = .ok (.newarray .int, 2) := by decide +kernel
theorem dX1_init_109 : decode cX1_init 109 = .ok (.putfield 44, 3) := by decide +kernel
theorem dX1_init_112 : decode cX1_init 112 = .ok (.aload_n 0, 1) := by decide +kernel
theorem dX1_init_113 : decode cX1_init 113 = .ok (.sipush 400, 3) := by decide +kernel
theorem dX1_init_116 : decode cX1_init 116 = .ok (.newarray .int, 2) := by decide +kernel
theorem dX1_init_118 : decode cX1_init 118 = .ok (.putfield 47, 3) := by decide +kernel
theorem dX1_init_121 : decode cX1_init 121 = .ok (.aload_n 0, 1) := by decide +kernel
theorem dX1_init_122 : decode cX1_init 122 = .ok (.sipush 400, 3) := by decide +kernel
theorem dX1_init_125 : decode cX1_init 125 = .ok (.newarray .int, 2) := by decide +kernel
theorem dX1_init_127 : decode cX1_init 127 = .ok (.putfield 50, 3) := by decide +kernel
theorem dX1_init_130 : decode cX1_init 130 = .ok (.aload_n 0, 1) := by decide +kernel
theorem dX1_init_131 : decode cX1_init 131 = .ok (.sipush 400, 3) := by decide +kernel
theorem dX1_init_134 : decode cX1_init 134 = .ok (.newarray .boolean, 2) := by decide +kernel
theorem dX1_init_136 : decode cX1_init 136 = .ok (.putfield 53, 3) := by decide +kernel
theorem dX1_init_139 : decode cX1_init 139 = .ok (.aload_n 0, 1) := by decide +kernel
theorem dX1_init_140 : decode cX1_init 140 = .ok (.bipush 32, 2) := by decide +kernel
theorem dX1_init_142 : decode cX1_init 142 = .ok (.newarray .int, 2) := by decide +kernel
theorem dX1_init_144 : decode cX1_init 144 = .ok (.putfield 56, 3) := by decide +kernel
theorem dX1_init_147 : decode cX1_init 147 = .ok (.return_, 1) := by decide +kernel
theorem dX1_isRegister_0 : decode cX1_isRegister 0 = .ok (.iload_n 0, 1) := by decide +kernel
theorem dX1_isRegister_1 : decode cX1_isRegister 1 = .ok (.ifCond .lt 13, 3) := by decide +kernel
theorem dX1_isRegister_4 : decode cX1_isRegister 4 = .ok (.iload_n 0, 1) := by decide +kernel
theorem dX1_isRegister_5 : decode cX1_isRegister 5 = .ok (.bipush 32, 2) := by decide +kernel
theorem dX1_isRegister_7 : decode cX1_isRegister 7 = .ok (.if_icmp .ge 7, 3) := by decide +kernel
theorem dX1_isRegister_10 : decode cX1_isRegister 10 = .ok (.iconst 1, 1) := by decide +kernel
theorem dX1_isRegister_11 : decode cX1_isRegister 11 = .ok (.goto 4, 3) := by decide +kernel
theorem dX1_isRegister_14 : decode cX1_isRegister 14 = .ok (.iconst 0, 1) := by decide +kernel
theorem dX1_isRegister_15 : decode cX1_isRegister 15 = .ok (.ireturn, 1) := by decide +kernel
theorem dX1_come_0 : decode cX1_come 0 = .ok (.aload_n 0, 1) := by decide +kernel
theorem dX1_come_1 : decode cX1_come 1 = .ok (.getfield 7, 3) := by decide +kernel
theorem dX1_come_4 : decode cX1_come 4 = .ok (.aload_n 0, 1) := by decide +kernel
theorem dX1_come_5 : decode cX1_come 5 = .ok (.getfield 63, 3) := by decide +kernel
theorem dX1_come_8 : decode cX1_come 8 = .ok (.iload_n 1, 1) := by decide +kernel
theorem dX1_come_9 : decode cX1_come 9 = .ok (.iastore, 1) := by decide +kernel
theorem dX1_come_10 : decode cX1_come 10 = .ok (.aload_n 0, 1) := by decide +kernel
theorem dX1_come_11 : decode cX1_come 11 = .ok (.getfield 13, 3) := by decide +kernel
theorem dX1_come_14 : decode cX1_come 14 = .ok (.aload_n 0, 1) := by decide +kernel
theorem dX1_come_15 : decode cX1_come 15 = .ok (.getfield 63, 3) := by decide +kernel
theorem dX1_come_18 : decode cX1_come 18 = .ok (.iload_n 2, 1) := by decide +kernel
theorem dX1_come_19 : decode cX1_come 19 = .ok (.iastore, 1) := by decide +kernel
theorem dX1_come_20 : decode cX1_come 20 = .ok (.aload_n 0, 1) := by decide +kernel
theorem dX1_come_21 : decode cX1_come 21 = .ok (.getfield 16, 3) := by decide +kernel
theorem dX1_come_24 : decode cX1_come 24 = .ok (.aload_n 0, 1) := by decide +kernel
theorem dX1_come_25 : decode cX1_come 25 = .ok (.getfield 63, 3) := by decide +kernel
theorem dX1_come_28 : decode cX1_come 28 = .ok (.iload_n 3, 1) := by decide +kernel
theorem dX1_come_29 : decode cX1_come 29 = .ok (.iastore, 1) := by decide +kernel
theorem dX1_come_30 : decode cX1_come 30 = .ok (.aload_n 0, 1) := by decide +kernel
theorem dX1_come_31 : decode cX1_come 31 = .ok (.getfield 19, 3) := by decide +kernel
theorem dX1_come_34 : decode cX1_come 34 = .ok (.aload_n 0, 1) := by decide +kernel
theorem dX1_come_35 : decode cX1_come 35 = .ok (.getfield 63, 3) := by decide +kernel
theorem dX1_come_38 : decode cX1_come 38 = .ok (.iload 4, 2) := by decide +kernel
theorem dX1_come_40 : decode cX1_come 40 = .ok (.iastore, 1) := by decide +kernel
theorem dX1_come_41 : decode cX1_come 41 = .ok (.aload_n 0, 1) := by decide +kernel
theorem dX1_come_42 : decode cX1_come 42 = .ok (.getfield 22, 3) := by decide +kernel
theorem dX1_come_45 : decode cX1_come 45 = .ok (.aload_n 0, 1) := by decide +kernel
theorem dX1_come_46 : decode cX1_come 46 = .ok (.getfield 63, 3) := by decide +kernel
theorem dX1_come_49 : decode cX1_come 49 = .ok (.iload 5, 2) := by decide +kernel
theorem dX1_come_51 : decode cX1_come 51 = .ok (.iastore, 1) := by decide +kernel
theorem dX1_come_52 : decode cX1_come 52 = .ok (.aload_n 0, 1) := by decide +kernel
theorem dX1_come_53 : decode cX1_come 53 = .ok (.getfield 25, 3) := by decide +kernel
theorem dX1_come_56 : decode cX1_come 56 = .ok (.aload_n 0, 1) := by decide +kernel
theorem dX1_come_57 : decode cX1_come 57 = .ok (.getfield 63, 3) := by decide +kernel
theorem dX1_come_60 : decode cX1_come 60 = .ok (.iload 6, 2) := by decide +kernel
theorem dX1_come_62 : decode cX1_come 62 = .ok (.bastore, 1) := by decide +kernel
theorem dX1_come_63 : decode cX1_come 63 = .ok (.aload_n 0, 1) := by decide +kernel
theorem dX1_come_64 : decode cX1_come 64 = .ok (.getfield 29, 3) := by decide +kernel
theorem dX1_come_67 : decode cX1_come 67 = .ok (.aload_n 0, 1) := by decide +kernel
theorem dX1_come_68 : decode cX1_come 68 = .ok (.getfield 63, 3) := by decide +kernel
theorem dX1_come_71 : decode cX1_come 71 = .ok (.iconst 0, 1) := by decide +kernel
theorem dX1_come_72 : decode cX1_come 72 = .ok (.bastore, 1) := by decide +kernel
theorem dX1_come_73 : decode cX1_come 73 = .ok (.aload_n 0, 1) := by decide +kernel
theorem dX1_come_74 : decode cX1_come 74 = .ok (.dup, 1) := by decide +kernel
theorem dX1_come_75 : decode cX1_come 75 = .ok (.getfield 63, 3) := by decide +kernel
theorem dX1_come_78 : decode cX1_come 78 = .ok (.iconst 1, 1) := by decide +kernel
theorem dX1_come_79 : decode cX1_come 79 = .ok (.iadd, 1) := by decide +kernel
theorem dX1_come_80 : decode cX1_come 80 = .ok (.putfield 63, 3) := by decide +kernel
theorem dX1_come_83 : decode cX1_come 83 = .ok (.aload_n 0, 1) := by decide +kernel
theorem dX1_come_84 : decode cX1_come 84 = .ok (.getfield 63, 3) := by decide +kernel
theorem dX1_come_87 : decode cX1_come 87 = .ok (.iconst 1, 1) := by decide +kernel
theorem dX1_come_88 : decode cX1_come 88 = .ok (.isub, 1) := by decide +kernel
theorem dX1_come_89 : decode cX1_come 89 = .ok (.ireturn, 1) := by decide +kernel
theorem dX1_put_0 : decode cX1_put 0 = .ok (.aload_n 0, 1) := by decide +kernel
theorem dX1_put_1 : decode cX1_put 1 = .ok (.iconst 0, 1) := by decide +kernel
theorem dX1_put_2 : decode cX1_put 2 = .ok (.putfield 59, 3) := by decide +kernel
theorem dX1_put_5 : decode cX1_put 5 = .ok (.iload_n 1, 1) := by decide +kernel
theorem dX1_put_6 : decode cX1_put 6 = .ok (.ifCond .lt 61, 3) := by decide +kernel
theorem dX1_put_9 : decode cX1_put 9 = .ok (.iload_n 1, 1) := by decide +kernel
theorem dX1_put_10 : decode cX1_put 10 = .ok (.bipush 7, 2) := by decide +kernel
theorem dX1_put_12 : decode cX1_put 12 = .ok (.if_icmp .gt 55, 3) := by decide +kernel
theorem dX1_put_15 : decode cX1_put 15 = .ok (.iload_n 1, 1) := by decide +kernel
theorem dX1_put_16 : decode cX1_put 16 = .ok (.iconst 5, 1) := by decide +kernel
theorem dX1_put_17 : decode cX1_put 17 = .ok (.if_icmp .eq 50, 3) := by decide +kernel
theorem dX1_put_20 : decode cX1_put 20 = .ok (.iload_n 2, 1) := by decide +kernel
theorem dX1_put_21 : decode cX1_put 21 = .ok (.invokestatic 66, 3) := by decide +kernel
theorem dX1_put_24 : decode cX1_put 24 = .ok (.ifCond .eq 43, 3) := by decide +kernel
theorem dX1_put_27 : decode cX1_put 27 = .ok (.iload_n 3, 1) := by decide +kernel
theorem dX1_put_28 : decode cX1_put 28 = .ok (.invokestatic 66, 3) := by decide +kernel
theorem dX1_put_31 : decode cX1_put 31 = .ok (.ifCond .eq 36, 3) := by decide +kernel
theorem dX1_put_34 : decode cX1_put 34 = .ok (.iload 4, 2) := by decide +kernel
theorem dX1_put_36 : decode cX1_put 36 = .ok (.invokestatic 66, 3) := by decide +kernel
theorem dX1_put_39 : decode cX1_put 39 = .ok (.ifCond .eq 28, 3) := by decide +kernel
theorem dX1_put_42 : decode cX1_put 42 = .ok (.iload_n 1, 1) := by decide +kernel
theorem dX1_put_43 : decode cX1_put 43 = .ok (.bipush 7, 2) := by decide +kernel
theorem dX1_put_45 : decode cX1_put 45 = .ok (.if_icmp .ne 12, 3) := by decide +kernel
theorem dX1_put_48 : decode cX1_put 48 = .ok (.iload_n 2, 1) := by decide +kernel
theorem dX1_put_49 : decode cX1_put 49 = .ok (.iload_n 3, 1) := by decide +kernel
theorem dX1_put_50 : decode cX1_put 50 = .ok (.iadd, 1) := by decide +kernel
theorem dX1_put_51 : decode cX1_put 51 = .ok (.iload 4, 2) := by decide +kernel
theorem dX1_put_53 : decode cX1_put 53 = .ok (.iadd, 1) := by decide +kernel
theorem dX1_put_54 : decode cX1_put 54 = .ok (.ifCond .gt 13, 3) := by decide +kernel
theorem dX1_put_57 : decode cX1_put 57 = .ok (.aload_n 0, 1) := by decide +kernel
theorem dX1_put_58 : decode cX1_put 58 = .ok (.getfield 63, 3) := by decide +kernel
theorem dX1_put_61 : decode cX1_put 61 = .ok (.sipush 400, 3) := by decide +kernel
theorem dX1_put_64 : decode cX1_put 64 = .ok (.if_icmp .ne 5, 3) := by decide +kernel
theorem dX1_put_67 : decode cX1_put 67 = .ok (.iconst (-1), 1) := by decide +kernel
theorem dX1_put_68 : decode cX1_put 68 = .ok (.ireturn, 1) := by decide +kernel
theorem dX1_put_69 : decode cX1_put 69 = .ok (.aload_n 0, 1) := by decide +kernel
theorem dX1_put_70 : decode cX1_put 70 = .ok (.iload_n 1, 1) := by decide +kernel
theorem dX1_put_71 : decode cX1_put 71 = .ok (.iload_n 2, 1) := by decide +kernel
theorem dX1_put_72 : decode cX1_put 72 = .ok (.iload_n 3, 1) := by decide +kernel
theorem dX1_put_73 : decode cX1_put 73 = .ok (.iload 4, 2) := by decide +kernel
theorem dX1_put_75 : decode cX1_put 75 = .ok (.iconst 0, 1) := by decide +kernel
theorem dX1_put_76 : decode cX1_put 76 = .ok (.iconst 0, 1) := by decide +kernel
theorem dX1_put_77 : decode cX1_put 77 = .ok (.invokevirtual 70, 3) := by decide +kernel
theorem dX1_put_80 : decode cX1_put 80 = .ok (.ireturn, 1) := by decide +kernel
theorem dX1_branch_0 : decode cX1_branch 0 = .ok (.aload_n 0, 1) := by decide +kernel
theorem dX1_branch_1 : decode cX1_branch 1 = .ok (.iconst 0, 1) := by decide +kernel
theorem dX1_branch_2 : decode cX1_branch 2 = .ok (.putfield 59, 3) := by decide +kernel
theorem dX1_branch_5 : decode cX1_branch 5 = .ok (.iload_n 1, 1) := by decide +kernel
theorem dX1_branch_6 : decode cX1_branch 6 = .ok (.ifCond .lt 33, 3) := by decide +kernel
theorem dX1_branch_9 : decode cX1_branch 9 = .ok (.iload_n 1, 1) := by decide +kernel
theorem dX1_branch_10 : decode cX1_branch 10 = .ok (.iconst 2, 1) := by decide +kernel
theorem dX1_branch_11 : decode cX1_branch 11 = .ok (.if_icmp .gt 28, 3) := by decide +kernel
theorem dX1_branch_14 : decode cX1_branch 14 = .ok (.iload_n 3, 1) := by decide +kernel
theorem dX1_branch_15 : decode cX1_branch 15 = .ok (.invokestatic 66, 3) := by decide +kernel
theorem dX1_branch_18 : decode cX1_branch 18 = .ok (.ifCond .eq 21, 3) := by decide +kernel
theorem dX1_branch_21 : decode cX1_branch 21 = .ok (.iload 4, 2) := by decide +kernel
theorem dX1_branch_23 : decode cX1_branch 23 = .ok (.invokestatic 66, 3) := by decide +kernel
theorem dX1_branch_26 : decode cX1_branch 26 = .ok (.ifCond .eq 13, 3) := by decide +kernel
theorem dX1_branch_29 : decode cX1_branch 29 = .ok (.aload_n 0, 1) := by decide +kernel
theorem dX1_branch_30 : decode cX1_branch 30 = .ok (.getfield 63, 3) := by decide +kernel
theorem dX1_branch_33 : decode cX1_branch 33 = .ok (.sipush 400, 3) := by decide +kernel
theorem dX1_branch_36 : decode cX1_branch 36 = .ok (.if_icmp .ne 5, 3) := by decide +kernel
theorem dX1_branch_39 : decode cX1_branch 39 = .ok (.iconst (-1), 1) := by decide +kernel
theorem dX1_branch_40 : decode cX1_branch 40 = .ok (.ireturn, 1) := by decide +kernel
theorem dX1_branch_41 : decode cX1_branch 41 = .ok (.aload_n 0, 1) := by decide +kernel
theorem dX1_branch_42 : decode cX1_branch 42 = .ok (.iconst 5, 1) := by decide +kernel
theorem dX1_branch_43 : decode cX1_branch 43 = .ok (.iload_n 3, 1) := by decide +kernel
theorem dX1_branch_44 : decode cX1_branch 44 = .ok (.iload 4, 2) := by decide +kernel
theorem dX1_branch_46 : decode cX1_branch 46 = .ok (.iconst 0, 1) := by decide +kernel
theorem dX1_branch_47 : decode cX1_branch 47 = .ok (.iload_n 1, 1) := by decide +kernel
theorem dX1_branch_48 : decode cX1_branch 48 = .ok (.iload_n 2, 1) := by decide +kernel
theorem dX1_branch_49 : decode cX1_branch 49 = .ok (.invokevirtual 70, 3) := by decide +kernel
theorem dX1_branch_52 : decode cX1_branch 52 = .ok (.ireturn, 1) := by decide +kernel
theorem dX1_fail_0 : decode cX1_fail 0 = .ok (.aload_n 0, 1) := by decide +kernel
theorem dX1_fail_1 : decode cX1_fail 1 = .ok (.iconst 0, 1) := by decide +kernel
theorem dX1_fail_2 : decode cX1_fail 2 = .ok (.putfield 59, 3) := by decide +kernel
theorem dX1_fail_5 : decode cX1_fail 5 = .ok (.aload_n 0, 1) := by decide +kernel
theorem dX1_fail_6 : decode cX1_fail 6 = .ok (.getfield 63, 3) := by decide +kernel
theorem dX1_fail_9 : decode cX1_fail 9 = .ok (.ifCond .ne 5, 3) := by decide +kernel
theorem dX1_fail_12 : decode cX1_fail 12 = .ok (.iconst 0, 1) := by decide +kernel
theorem dX1_fail_13 : decode cX1_fail 13 = .ok (.ireturn, 1) := by decide +kernel
theorem dX1_fail_14 : decode cX1_fail 14 = .ok (.aload_n 0, 1) := by decide +kernel
theorem dX1_fail_15 : decode cX1_fail 15 = .ok (.getfield 29, 3) := by decide +kernel
theorem dX1_fail_18 : decode cX1_fail 18 = .ok (.aload_n 0, 1) := by decide +kernel
theorem dX1_fail_19 : decode cX1_fail 19 = .ok (.getfield 63, 3) := by decide +kernel
theorem dX1_fail_22 : decode cX1_fail 22 = .ok (.iconst 1, 1) := by decide +kernel
theorem dX1_fail_23 : decode cX1_fail 23 = .ok (.isub, 1) := by decide +kernel
theorem dX1_fail_24 : decode cX1_fail 24 = .ok (.iconst 1, 1) := by decide +kernel
theorem dX1_fail_25 : decode cX1_fail 25 = .ok (.bastore, 1) := by decide +kernel
theorem dX1_fail_26 : decode cX1_fail 26 = .ok (.iconst 1, 1) := by decide +kernel
theorem dX1_fail_27 : decode cX1_fail 27 = .ok (.ireturn, 1) := by decide +kernel
theorem dX1_drop_0 : decode cX1_drop 0 = .ok (.aload_n 0, 1) := by decide +kernel
theorem dX1_drop_1 : decode cX1_drop 1 = .ok (.iconst 0, 1) := by decide +kernel
theorem dX1_drop_2 : decode cX1_drop 2 = .ok (.putfield 59, 3) := by decide +kernel
theorem dX1_drop_5 : decode cX1_drop 5 = .ok (.iload_n 1, 1) := by decide +kernel
theorem dX1_drop_6 : decode cX1_drop 6 = .ok (.ifCond .lt 11, 3) := by decide +kernel
theorem dX1_drop_9 : decode cX1_drop 9 = .ok (.iload_n 1, 1) := by decide +kernel
theorem dX1_drop_10 : decode cX1_drop 10 = .ok (.aload_n 0, 1) := by decide +kernel
theorem dX1_drop_11 : decode cX1_drop 11 = .ok (.getfield 63, 3) := by decide +kernel
theorem dX1_drop_14 : decode cX1_drop 14 = .ok (.if_icmp .le 5, 3) := by decide +kernel
theorem dX1_drop_17 : decode cX1_drop 17 = .ok (.iconst 0, 1) := by decide +kernel
theorem dX1_drop_18 : decode cX1_drop 18 = .ok (.ireturn, 1) := by decide +kernel
theorem dX1_drop_19 : decode cX1_drop 19 = .ok (.aload_n 0, 1) := by decide +kernel
theorem dX1_drop_20 : decode cX1_drop 20 = .ok (.dup, 1) := by decide +kernel
theorem dX1_drop_21 : decode cX1_drop 21 = .ok (.getfield 63, 3) := by decide +kernel
theorem dX1_drop_24 : decode cX1_drop 24 = .ok (.iload_n 1, 1) := by decide +kernel
theorem dX1_drop_25 : decode cX1_drop 25 = .ok (.isub, 1) := by decide +kernel
theorem dX1_drop_26 : decode cX1_drop 26 = .ok (.putfield 63, 3) := by decide +kernel
theorem dX1_drop_29 : decode cX1_drop 29 = .ok (.iconst 1, 1) := by decide +kernel
theorem dX1_drop_30 : decode cX1_drop 30 = .ok (.ireturn, 1) := by decide +kernel
theorem dX1_clear_0 : decode cX1_clear 0 = .ok (.aload_n 0, 1) := by decide +kernel
theorem dX1_clear_1 : decode cX1_clear 1 = .ok (.iconst 0, 1) := by decide +kernel
theorem dX1_clear_2 : decode cX1_clear 2 = .ok (.putfield 59, 3) := by decide +kernel
theorem dX1_clear_5 : decode cX1_clear 5 = .ok (.aload_n 0, 1) := by decide +kernel
theorem dX1_clear_6 : decode cX1_clear 6 = .ok (.iconst 0, 1) := by decide +kernel
theorem dX1_clear_7 : decode cX1_clear 7 = .ok (.putfield 63, 3) := by decide +kernel
theorem dX1_clear_10 : decode cX1_clear 10 = .ok (.return_, 1) := by decide +kernel
theorem dX1_again_0 : decode cX1_again 0 = .ok (.aload_n 0, 1) := by decide +kernel
theorem dX1_again_1 : decode cX1_again 1 = .ok (.iconst 0, 1) := by decide +kernel
theorem dX1_again_2 : decode cX1_again 2 = .ok (.putfield 59, 3) := by decide +kernel
theorem dX1_again_5 : decode cX1_again 5 = .ok (.iload_n 1, 1) := by decide +kernel
theorem dX1_again_6 : decode cX1_again 6 = .ok (.ifCond .lt 30, 3) := by decide +kernel
theorem dX1_again_9 : decode cX1_again 9 = .ok (.iload_n 2, 1) := by decide +kernel
theorem dX1_again_10 : decode cX1_again 10 = .ok (.iconst 1, 1) := by decide +kernel
theorem dX1_again_11 : decode cX1_again 11 = .ok (.if_icmp .lt 25, 3) := by decide +kernel
theorem dX1_again_14 : decode cX1_again 14 = .ok (.iload_n 2, 1) := by decide +kernel
theorem dX1_again_15 : decode cX1_again 15 = .ok (.sipush 400, 3) := by decide +kernel
theorem dX1_again_18 : decode cX1_again 18 = .ok (.aload_n 0, 1) := by decide +kernel
theorem dX1_again_19 : decode cX1_again 19 = .ok (.getfield 63, 3) := by decide +kernel
theorem dX1_again_22 : decode cX1_again 22 = .ok (.isub, 1) := by decide +kernel
theorem dX1_again_23 : decode cX1_again 23 = .ok (.if_icmp .gt 13, 3) := by decide +kernel
theorem dX1_again_26 : decode cX1_again 26 = .ok (.iload_n 1, 1) := by decide +kernel
theorem dX1_again_27 : decode cX1_again 27 = .ok (.aload_n 0, 1) := by decide +kernel
theorem dX1_again_28 : decode cX1_again 28 = .ok (.getfield 63, 3) := by decide +kernel
theorem dX1_again_31 : decode cX1_again 31 = .ok (.iload_n 2, 1) := by decide +kernel
theorem dX1_again_32 : decode cX1_again 32 = .ok (.isub, 1) := by decide +kernel
theorem dX1_again_33 : decode cX1_again 33 = .ok (.if_icmp .le 5, 3) := by decide +kernel
theorem dX1_again_36 : decode cX1_again 36 = .ok (.iconst (-1), 1) := by decide +kernel
theorem dX1_again_37 : decode cX1_again 37 = .ok (.ireturn, 1) := by decide +kernel
theorem dX1_again_38 : decode cX1_again 38 = .ok (.iload_n 1, 1) := by decide +kernel
theorem dX1_again_39 : decode cX1_again 39 = .ok (.istore_n 3, 1) := by decide +kernel
theorem dX1_again_40 : decode cX1_again 40 = .ok (.iload_n 3, 1) := by decide +kernel
theorem dX1_again_41 : decode cX1_again 41 = .ok (.iload_n 1, 1) := by decide +kernel
theorem dX1_again_42 : decode cX1_again 42 = .ok (.iload_n 2, 1) := by decide +kernel
theorem dX1_again_43 : decode cX1_again 43 = .ok (.iadd, 1) := by decide +kernel
theorem dX1_again_44 : decode cX1_again 44 = .ok (.if_icmp .ge 64, 3) := by decide +kernel
theorem dX1_again_47 : decode cX1_again 47 = .ok (.aload_n 0, 1) := by decide +kernel
theorem dX1_again_48 : decode cX1_again 48 = .ok (.aload_n 0, 1) := by decide +kernel
theorem dX1_again_49 : decode cX1_again 49 = .ok (.getfield 7, 3) := by decide +kernel
theorem dX1_again_52 : decode cX1_again 52 = .ok (.iload_n 3, 1) := by decide +kernel
theorem dX1_again_53 : decode cX1_again 53 = .ok (.iaload, 1) := by decide +kernel
theorem dX1_again_54 : decode cX1_again 54 = .ok (.aload_n 0, 1) := by decide +kernel
theorem dX1_again_55 : decode cX1_again 55 = .ok (.getfield 13, 3) := by decide +kernel
theorem dX1_again_58 : decode cX1_again 58 = .ok (.iload_n 3, 1) := by decide +kernel
theorem dX1_again_59 : decode cX1_again 59 = .ok (.iaload, 1) := by decide +kernel
theorem dX1_again_60 : decode cX1_again 60 = .ok (.aload_n 0, 1) := by decide +kernel
theorem dX1_again_61 : decode cX1_again 61 = .ok (.getfield 16, 3) := by decide +kernel
theorem dX1_again_64 : decode cX1_again 64 = .ok (.iload_n 3, 1) := by decide +kernel
theorem dX1_again_65 : decode cX1_again 65 = .ok (.iaload, 1) := by decide +kernel
theorem dX1_again_66 : decode cX1_again 66 = .ok (.aload_n 0, 1) := by decide +kernel
theorem dX1_again_67 : decode cX1_again 67 = .ok (.getfield 19, 3) := by decide +kernel
theorem dX1_again_70 : decode cX1_again 70 = .ok (.iload_n 3, 1) := by decide +kernel
theorem dX1_again_71 : decode cX1_again 71 = .ok (.iaload, 1) := by decide +kernel
theorem dX1_again_72 : decode cX1_again 72 = .ok (.aload_n 0, 1) := by decide +kernel
theorem dX1_again_73 : decode cX1_again 73 = .ok (.getfield 22, 3) := by decide +kernel
theorem dX1_again_76 : decode cX1_again 76 = .ok (.iload_n 3, 1) := by decide +kernel
theorem dX1_again_77 : decode cX1_again 77 = .ok (.iaload, 1) := by decide +kernel
theorem dX1_again_78 : decode cX1_again 78 = .ok (.aload_n 0, 1) := by decide +kernel
theorem dX1_again_79 : decode cX1_again 79 = .ok (.getfield 25, 3) := by decide +kernel
theorem dX1_again_82 : decode cX1_again 82 = .ok (.iload_n 3, 1) := by decide +kernel
theorem dX1_again_83 : decode cX1_again 83 = .ok (.baload, 1) := by decide +kernel
