theorem dX0_many_18 : decode cX0_many 18 = .ok (.istore 4, 2) := by decide +kernel
theorem dX0_many_20 : decode cX0_many 20 = .ok (.iload 4, 2) := by decide +kernel
theorem dX0_many_22 : decode cX0_many 22 = .ok (.aload_n 0, 1) := by decide +kernel
theorem dX0_many_23 : decode cX0_many 23 = .ok (.getfield 7, 3) := by decide +kernel
theorem dX0_many_26 : decode cX0_many 26 = .ok (.if_icmp .ge 23, 3) := by decide +kernel
theorem dX0_many_29 : decode cX0_many 29 = .ok (.aload_n 0, 1) := by decide +kernel
theorem dX0_many_30 : decode cX0_many 30 = .ok (.iload 4, 2) := by decide +kernel
theorem dX0_many_32 : decode cX0_many 32 = .ok (.iload_n 2, 1) := by decide +kernel
theorem dX0_many_33 : decode cX0_many 33 = .ok (.invokevirtual 85, 3) := by decide +kernel
theorem dX0_many_36 : decode cX0_many 36 = .ok (.iload_n 1, 1) := by decide +kernel
theorem dX0_many_37 : decode cX0_many 37 = .ok (.if_icmp .ne 6, 3) := by decide +kernel
theorem dX0_many_40 : decode cX0_many 40 = .ok (.iinc 3 1, 3) := by decide +kernel
theorem dX0_many_43 : decode cX0_many 43 = .ok (.iinc 4 1, 3) := by decide +kernel
theorem dX0_many_46 : decode cX0_many 46 = .ok (.goto (-26), 3) := by decide +kernel
theorem dX0_many_49 : decode cX0_many 49 = .ok (.iload_n 3, 1) := by decide +kernel
theorem dX0_many_50 : decode cX0_many 50 = .ok (.ireturn, 1) := by decide +kernel
theorem dX0_look_0 : decode cX0_look 0 = .ok (.iload_n 1, 1) := by decide +kernel
theorem dX0_look_1 : decode cX0_look 1 = .ok (.tableswitch 82 0 6 #[43, 48, 57, 62, 67, 72, 77], 43) := by decide +kernel
theorem dX0_look_44 : decode cX0_look 44 = .ok (.aload_n 0, 1) := by decide +kernel
theorem dX0_look_45 : decode cX0_look 45 = .ok (.getfield 7, 3) := by decide +kernel
theorem dX0_look_48 : decode cX0_look 48 = .ok (.ireturn, 1) := by decide +kernel
theorem dX0_look_49 : decode cX0_look 49 = .ok (.aload_n 0, 1) := by decide +kernel
theorem dX0_look_50 : decode cX0_look 50 = .ok (.aload_n 0, 1) := by decide +kernel
theorem dX0_look_51 : decode cX0_look 51 = .ok (.getfield 7, 3) := by decide +kernel
theorem dX0_look_54 : decode cX0_look 54 = .ok (.invokevirtual 89, 3) := by decide +kernel
theorem dX0_look_57 : decode cX0_look 57 = .ok (.ireturn, 1) := by decide +kernel
theorem dX0_look_58 : decode cX0_look 58 = .ok (.aload_n 0, 1) := by decide +kernel
theorem dX0_look_59 : decode cX0_look 59 = .ok (.invokevirtual 92, 3) := by decide +kernel
theorem dX0_look_62 : decode cX0_look 62 = .ok (.ireturn, 1) := by decide +kernel
theorem dX0_look_63 : decode cX0_look 63 = .ok (.aload_n 0, 1) := by decide +kernel
theorem dX0_look_64 : decode cX0_look 64 = .ok (.invokevirtual 96, 3) := by decide +kernel
theorem dX0_look_67 : decode cX0_look 67 = .ok (.ireturn, 1) := by decide +kernel
theorem dX0_look_68 : decode cX0_look 68 = .ok (.aload_n 0, 1) := by decide +kernel
theorem dX0_look_69 : decode cX0_look 69 = .ok (.invokevirtual 99, 3) := by decide +kernel
theorem dX0_look_72 : decode cX0_look 72 = .ok (.ireturn, 1) := by decide +kernel
theorem dX0_look_73 : decode cX0_look 73 = .ok (.aload_n 0, 1) := by decide +kernel
theorem dX0_look_74 : decode cX0_look 74 = .ok (.invokevirtual 102, 3) := by decide +kernel
theorem dX0_look_77 : decode cX0_look 77 = .ok (.ireturn, 1) := by decide +kernel
theorem dX0_look_78 : decode cX0_look 78 = .ok (.aload_n 0, 1) := by decide +kernel
theorem dX0_look_79 : decode cX0_look 79 = .ok (.invokevirtual 105, 3) := by decide +kernel
theorem dX0_look_82 : decode cX0_look 82 = .ok (.ireturn, 1) := by decide +kernel
theorem dX0_look_83 : decode cX0_look 83 = .ok (.iconst (-1), 1) := by decide +kernel
theorem dX0_look_84 : decode cX0_look 84 = .ok (.ireturn, 1) := by decide +kernel
theorem dX0_isRegister_0 : decode cX0_isRegister 0 = .ok (.iload_n 0, 1) := by decide +kernel
theorem dX0_isRegister_1 : decode cX0_isRegister 1 = .ok (.ifCond .lt 13, 3) := by decide +kernel
theorem dX0_isRegister_4 : decode cX0_isRegister 4 = .ok (.iload_n 0, 1) := by decide +kernel
theorem dX0_isRegister_5 : decode cX0_isRegister 5 = .ok (.bipush 31, 2) := by decide +kernel
theorem dX0_isRegister_7 : decode cX0_isRegister 7 = .ok (.if_icmp .gt 7, 3) := by decide +kernel
theorem dX0_isRegister_10 : decode cX0_isRegister 10 = .ok (.iconst 1, 1) := by decide +kernel
theorem dX0_isRegister_11 : decode cX0_isRegister 11 = .ok (.goto 4, 3) := by decide +kernel
theorem dX0_isRegister_14 : decode cX0_isRegister 14 = .ok (.iconst 0, 1) := by decide +kernel
theorem dX0_isRegister_15 : decode cX0_isRegister 15 = .ok (.ireturn, 1) := by decide +kernel
theorem dX0_isInstruction_0 : decode cX0_isInstruction 0 = .ok (.iload_n 1, 1) := by decide +kernel
theorem dX0_isInstruction_1 : decode cX0_isInstruction 1 = .ok (.ifCond .lt 15, 3) := by decide +kernel
theorem dX0_isInstruction_4 : decode cX0_isInstruction 4 = .ok (.iload_n 1, 1) := by decide +kernel
theorem dX0_isInstruction_5 : decode cX0_isInstruction 5 = .ok (.aload_n 0, 1) := by decide +kernel
theorem dX0_isInstruction_6 : decode cX0_isInstruction 6 = .ok (.getfield 7, 3) := by decide +kernel
theorem dX0_isInstruction_9 : decode cX0_isInstruction 9 = .ok (.if_icmp .ge 7, 3) := by decide +kernel
theorem dX0_isInstruction_12 : decode cX0_isInstruction 12 = .ok (.iconst 1, 1) := by decide +kernel
theorem dX0_isInstruction_13 : decode cX0_isInstruction 13 = .ok (.goto 4, 3) := by decide +kernel
theorem dX0_isInstruction_16 : decode cX0_isInstruction 16 = .ok (.iconst 0, 1) := by decide +kernel
theorem dX0_isInstruction_17 : decode cX0_isInstruction 17 = .ok (.ireturn, 1) := by decide +kernel
theorem dX0_oneIf_0 : decode cX0_oneIf 0 = .ok (.iload_n 0, 1) := by decide +kernel
theorem dX0_oneIf_1 : decode cX0_oneIf 1 = .ok (.ifCond .eq 7, 3) := by decide +kernel
theorem dX0_oneIf_4 : decode cX0_oneIf 4 = .ok (.iconst 1, 1) := by decide +kernel
theorem dX0_oneIf_5 : decode cX0_oneIf 5 = .ok (.goto 4, 3) := by decide +kernel
theorem dX0_oneIf_8 : decode cX0_oneIf 8 = .ok (.iconst 0, 1) := by decide +kernel
theorem dX0_oneIf_9 : decode cX0_oneIf 9 = .ok (.ireturn, 1) := by decide +kernel
theorem dX0_append_0 : decode cX0_append 0 = .ok (.aload_n 0, 1) := by decide +kernel
theorem dX0_append_1 : decode cX0_append 1 = .ok (.getfield 7, 3) := by decide +kernel
theorem dX0_append_4 : decode cX0_append 4 = .ok (.sipush 400, 3) := by decide +kernel
theorem dX0_append_7 : decode cX0_append 7 = .ok (.if_icmp .lt 5, 3) := by decide +kernel
theorem dX0_append_10 : decode cX0_append 10 = .ok (.iconst (-1), 1) := by decide +kernel
theorem dX0_append_11 : decode cX0_append 11 = .ok (.ireturn, 1) := by decide +kernel
theorem dX0_append_12 : decode cX0_append 12 = .ok (.aload_n 0, 1) := by decide +kernel
theorem dX0_append_13 : decode cX0_append 13 = .ok (.getfield 7, 3) := by decide +kernel
theorem dX0_append_16 : decode cX0_append 16 = .ok (.istore 7, 2) := by decide +kernel
theorem dX0_append_18 : decode cX0_append 18 = .ok (.aload_n 0, 1) := by decide +kernel
theorem dX0_append_19 : decode cX0_append 19 = .ok (.getfield 13, 3) := by decide +kernel
theorem dX0_append_22 : decode cX0_append 22 = .ok (.iload 7, 2) := by decide +kernel
theorem dX0_append_24 : decode cX0_append 24 = .ok (.iload_n 1, 1) := by decide +kernel
theorem dX0_append_25 : decode cX0_append 25 = .ok (.iastore, 1) := by decide +kernel
theorem dX0_append_26 : decode cX0_append 26 = .ok (.aload_n 0, 1) := by decide +kernel
theorem dX0_append_27 : decode cX0_append 27 = .ok (.getfield 17, 3) := by decide +kernel
theorem dX0_append_30 : decode cX0_append 30 = .ok (.iload 7, 2) := by decide +kernel
theorem dX0_append_32 : decode cX0_append 32 = .ok (.iload_n 2, 1) := by decide +kernel
theorem dX0_append_33 : decode cX0_append 33 = .ok (.iastore, 1) := by decide +kernel
theorem dX0_append_34 : decode cX0_append 34 = .ok (.aload_n 0, 1) := by decide +kernel
theorem dX0_append_35 : decode cX0_append 35 = .ok (.getfield 20, 3) := by decide +kernel
theorem dX0_append_38 : decode cX0_append 38 = .ok (.iload 7, 2) := by decide +kernel
theorem dX0_append_40 : decode cX0_append 40 = .ok (.iload_n 3, 1) := by decide +kernel
theorem dX0_append_41 : decode cX0_append 41 = .ok (.iastore, 1) := by decide +kernel
theorem dX0_append_42 : decode cX0_append 42 = .ok (.aload_n 0, 1) := by decide +kernel
theorem dX0_append_43 : decode cX0_append 43 = .ok (.getfield 23, 3) := by decide +kernel
theorem dX0_append_46 : decode cX0_append 46 = .ok (.iload 7, 2) := by decide +kernel
theorem dX0_append_48 : decode cX0_append 48 = .ok (.iload 4, 2) := by decide +kernel
theorem dX0_append_50 : decode cX0_append 50 = .ok (.iastore, 1) := by decide +kernel
theorem dX0_append_51 : decode cX0_append 51 = .ok (.aload_n 0, 1) := by decide +kernel
theorem dX0_append_52 : decode cX0_append 52 = .ok (.getfield 26, 3) := by decide +kernel
theorem dX0_append_55 : decode cX0_append 55 = .ok (.iload 7, 2) := by decide +kernel
theorem dX0_append_57 : decode cX0_append 57 = .ok (.iload 5, 2) := by decide +kernel
theorem dX0_append_59 : decode cX0_append 59 = .ok (.iastore, 1) := by decide +kernel
theorem dX0_append_60 : decode cX0_append 60 = .ok (.aload_n 0, 1) := by decide +kernel
theorem dX0_append_61 : decode cX0_append 61 = .ok (.getfield 29, 3) := by decide +kernel
theorem dX0_append_64 : decode cX0_append 64 = .ok (.iload 7, 2) := by decide +kernel
theorem dX0_append_66 : decode cX0_append 66 = .ok (.iload 6, 2) := by decide +kernel
theorem dX0_append_68 : decode cX0_append 68 = .ok (.bastore, 1) := by decide +kernel
theorem dX0_append_69 : decode cX0_append 69 = .ok (.aload_n 0, 1) := by decide +kernel
theorem dX0_append_70 : decode cX0_append 70 = .ok (.getfield 33, 3) := by decide +kernel
theorem dX0_append_73 : decode cX0_append 73 = .ok (.iload 7, 2) := by decide +kernel
theorem dX0_append_75 : decode cX0_append 75 = .ok (.iconst 0, 1) := by decide +kernel
theorem dX0_append_76 : decode cX0_append 76 = .ok (.bastore, 1) := by decide +kernel
theorem dX0_append_77 : decode cX0_append 77 = .ok (.aload_n 0, 1) := by decide +kernel
theorem dX0_append_78 : decode cX0_append 78 = .ok (.dup, 1) := by decide +kernel
theorem dX0_append_79 : decode cX0_append 79 = .ok (.getfield 7, 3) := by decide +kernel
theorem dX0_append_82 : decode cX0_append 82 = .ok (.iconst 1, 1) := by decide +kernel
theorem dX0_append_83 : decode cX0_append 83 = .ok (.iadd, 1) := by decide +kernel
theorem dX0_append_84 : decode cX0_append 84 = .ok (.putfield 7, 3) := by decide +kernel
theorem dX0_append_87 : decode cX0_append 87 = .ok (.aload_n 0, 1) := by decide +kernel
theorem dX0_append_88 : decode cX0_append 88 = .ok (.iload 7, 2) := by decide +kernel
theorem dX0_append_90 : decode cX0_append 90 = .ok (.invokevirtual 108, 3) := by decide +kernel
theorem dX0_append_93 : decode cX0_append 93 = .ok (.iload 7, 2) := by decide +kernel
theorem dX0_append_95 : decode cX0_append 95 = .ok (.ireturn, 1) := by decide +kernel
theorem dX0_failLast_0 : decode cX0_failLast 0 = .ok (.aload_n 0, 1) := by decide +kernel
theorem dX0_failLast_1 : decode cX0_failLast 1 = .ok (.getfield 7, 3) := by decide +kernel
theorem dX0_failLast_4 : decode cX0_failLast 4 = .ok (.iconst 1, 1) := by decide +kernel
theorem dX0_failLast_5 : decode cX0_failLast 5 = .ok (.isub, 1) := by decide +kernel
theorem dX0_failLast_6 : decode cX0_failLast 6 = .ok (.istore_n 1, 1) := by decide +kernel
theorem dX0_failLast_7 : decode cX0_failLast 7 = .ok (.iload_n 1, 1) := by decide +kernel
theorem dX0_failLast_8 : decode cX0_failLast 8 = .ok (.ifCond .lt 15, 3) := by decide +kernel
theorem dX0_failLast_11 : decode cX0_failLast 11 = .ok (.aload_n 0, 1) := by decide +kernel
theorem dX0_failLast_12 : decode cX0_failLast 12 = .ok (.getfield 33, 3) := by decide +kernel
theorem dX0_failLast_15 : decode cX0_failLast 15 = .ok (.iload_n 1, 1) := by decide +kernel
theorem dX0_failLast_16 : decode cX0_failLast 16 = .ok (.iconst 1, 1) := by decide +kernel
theorem dX0_failLast_17 : decode cX0_failLast 17 = .ok (.bastore, 1) := by decide +kernel
theorem dX0_failLast_18 : decode cX0_failLast 18 = .ok (.aload_n 0, 1) := by decide +kernel
theorem dX0_failLast_19 : decode cX0_failLast 19 = .ok (.iload_n 1, 1) := by decide +kernel
theorem dX0_failLast_20 : decode cX0_failLast 20 = .ok (.invokevirtual 108, 3) := by decide +kernel
theorem dX0_failLast_23 : decode cX0_failLast 23 = .ok (.return_, 1) := by decide +kernel
theorem dX0_settle_0 : decode cX0_settle 0 = .ok (.aload_n 0, 1) := by decide +kernel
theorem dX0_settle_1 : decode cX0_settle 1 = .ok (.getfield 36, 3) := by decide +kernel
theorem dX0_settle_4 : decode cX0_settle 4 = .ok (.iload_n 1, 1) := by decide +kernel
theorem dX0_settle_5 : decode cX0_settle 5 = .ok (.iload_n 1, 1) := by decide +kernel
theorem dX0_settle_6 : decode cX0_settle 6 = .ok (.ifCond .le 30, 3) := by decide +kernel
theorem dX0_settle_9 : decode cX0_settle 9 = .ok (.aload_n 0, 1) := by decide +kernel
theorem dX0_settle_10 : decode cX0_settle 10 = .ok (.getfield 13, 3) := by decide +kernel
theorem dX0_settle_13 : decode cX0_settle 13 = .ok (.iload_n 1, 1) := by decide +kernel
theorem dX0_settle_14 : decode cX0_settle 14 = .ok (.iconst 1, 1) := by decide +kernel
theorem dX0_settle_15 : decode cX0_settle 15 = .ok (.isub, 1) := by decide +kernel
theorem dX0_settle_16 : decode cX0_settle 16 = .ok (.iaload, 1) := by decide +kernel
theorem dX0_settle_17 : decode cX0_settle 17 = .ok (.iconst 5, 1) := by decide +kernel
theorem dX0_settle_18 : decode cX0_settle 18 = .ok (.if_icmp .ne 18, 3) := by decide +kernel
theorem dX0_settle_21 : decode cX0_settle 21 = .ok (.aload_n 0, 1) := by decide +kernel
theorem dX0_settle_22 : decode cX0_settle 22 = .ok (.getfield 39, 3) := by decide +kernel
theorem dX0_settle_25 : decode cX0_settle 25 = .ok (.iload_n 1, 1) := by decide +kernel
theorem dX0_settle_26 : decode cX0_settle 26 = .ok (.iconst 1, 1) := by decide +kernel
theorem dX0_settle_27 : decode cX0_settle 27 = .ok (.isub, 1) := by decide +kernel
theorem dX0_settle_28 : decode cX0_settle 28 = .ok (.baload, 1) := by decide +kernel
theorem dX0_settle_29 : decode cX0_settle 29 = .ok (.ifCond .ne 7, 3) := by decide +kernel
theorem dX0_settle_32 : decode cX0_settle 32 = .ok (.iconst 1, 1) := by decide +kernel
theorem dX0_settle_33 : decode cX0_settle 33 = .ok (.goto 4, 3) := by decide +kernel
theorem dX0_settle_36 : decode cX0_settle 36 = .ok (.iconst 0, 1) := by decide +kernel
theorem dX0_settle_37 : decode cX0_settle 37 = .ok (.bastore, 1) := by decide +kernel
theorem dX0_settle_38 : decode cX0_settle 38 = .ok (.aload_n 0, 1) := by decide +kernel
theorem dX0_settle_39 : decode cX0_settle 39 = .ok (.getfield 39, 3) := by decide +kernel
theorem dX0_settle_42 : decode cX0_settle 42 = .ok (.iload_n 1, 1) := by decide +kernel
theorem dX0_settle_43 : decode cX0_settle 43 = .ok (.aload_n 0, 1) := by decide +kernel
theorem dX0_settle_44 : decode cX0_settle 44 = .ok (.getfield 33, 3) := by decide +kernel
theorem dX0_settle_47 : decode cX0_settle 47 = .ok (.iload_n 1, 1) := by decide +kernel
theorem dX0_settle_48 : decode cX0_settle 48 = .ok (.baload, 1) := by decide +kernel
theorem dX0_settle_49 : decode cX0_settle 49 = .ok (.ifCond .ne 33, 3) := by decide +kernel
theorem dX0_settle_52 : decode cX0_settle 52 = .ok (.aload_n 0, 1) := by decide +kernel
theorem dX0_settle_53 : decode cX0_settle 53 = .ok (.getfield 13, 3) := by decide +kernel
theorem dX0_settle_56 : decode cX0_settle 56 = .ok (.iload_n 1, 1) := by decide +kernel
theorem dX0_settle_57 : decode cX0_settle 57 = .ok (.iaload, 1) := by decide +kernel
theorem dX0_settle_58 : decode cX0_settle 58 = .ok (.bipush 7, 2) := by decide +kernel
theorem dX0_settle_60 : decode cX0_settle 60 = .ok (.if_icmp .eq 22, 3) := by decide +kernel
theorem dX0_settle_63 : decode cX0_settle 63 = .ok (.aload_n 0, 1) := by decide +kernel
theorem dX0_settle_64 : decode cX0_settle 64 = .ok (.getfield 13, 3) := by decide +kernel
theorem dX0_settle_67 : decode cX0_settle 67 = .ok (.iload_n 1, 1) := by decide +kernel
theorem dX0_settle_68 : decode cX0_settle 68 = .ok (.iaload, 1) := by decide +kernel
theorem dX0_settle_69 : decode cX0_settle 69 = .ok (.iconst 5, 1) := by decide +kernel
theorem dX0_settle_70 : decode cX0_settle 70 = .ok (.if_icmp .ne 16, 3) := by decide +kernel
theorem dX0_settle_73 : decode cX0_settle 73 = .ok (.aload_n 0, 1) := by decide +kernel
theorem dX0_settle_74 : decode cX0_settle 74 = .ok (.getfield 36, 3) := by decide +kernel
theorem dX0_settle_77 : decode cX0_settle 77 = .ok (.iload_n 1, 1) := by decide +kernel
theorem dX0_settle_78 : decode cX0_settle 78 = .ok (.baload, 1) := by decide +kernel
theorem dX0_settle_79 : decode cX0_settle 79 = .ok (.ifCond .eq 7, 3) := by decide +kernel
theorem dX0_settle_82 : decode cX0_settle 82 = .ok (.iconst 1, 1) := by decide +kernel
theorem dX0_settle_83 : decode cX0_settle 83 = .ok (.goto 4, 3) := by decide +kernel
theorem dX0_settle_86 : decode cX0_settle 86 = .ok (.iconst 0, 1) := by decide +kernel
theorem dX0_settle_87 : decode cX0_settle 87 = .ok (.bastore, 1) := by decide +kernel
theorem dX0_settle_88 : decode cX0_settle 88 = .ok (.aload_n 0, 1) := by decide +kernel
theorem dX0_settle_89 : decode cX0_settle 89 = .ok (.getfield 42, 3) := by decide +kernel
theorem dX0_settle_92 : decode cX0_settle 92 = .ok (.iload_n 1, 1) := by decide +kernel
theorem dX0_settle_93 : decode cX0_settle 93 = .ok (.aload_n 0, 1) := by decide +kernel
theorem dX0_settle_94 : decode cX0_settle 94 = .ok (.iload_n 1, 1) := by decide +kernel
theorem dX0_settle_95 : decode cX0_settle 95 = .ok (.invokevirtual 112, 3) := by decide +kernel
theorem dX0_settle_98 : decode cX0_settle 98 = .ok (.ifCond .ne 7, 3) := by decide +kernel
theorem dX0_settle_101 : decode cX0_settle 101 = .ok (.iconst 1, 1) := by decide +kernel
theorem dX0_settle_102 : decode cX0_settle 102 = .ok (.goto 4, 3) := by decide +kernel
theorem dX0_settle_105 : decode cX0_settle 105 = .ok (.iconst 0, 1) := by decide +kernel
theorem dX0_settle_106 : decode cX0_settle 106 = .ok (.bastore, 1) := by decide +kernel
theorem dX0_settle_107 : decode cX0_settle 107 = .ok (.aload_n 0, 1) := by decide +kernel
theorem dX0_settle_108 : decode cX0_settle 108 = .ok (.getfield 45, 3) := by decide +kernel
theorem dX0_settle_111 : decode cX0_settle 111 = .ok (.iload_n 1, 1) := by decide +kernel
theorem dX0_settle_112 : decode cX0_settle 112 = .ok (.aload_n 0, 1) := by decide +kernel
theorem dX0_settle_113 : decode cX0_settle 113 = .ok (.iload_n 1, 1) := by decide +kernel
theorem dX0_settle_114 : decode cX0_settle 114 = .ok (.invokevirtual 115, 3) := by decide +kernel
theorem dX0_settle_117 : decode cX0_settle 117 = .ok (.iastore, 1) := by decide +kernel
theorem dX0_settle_118 : decode cX0_settle 118 = .ok (.aload_n 0, 1) := by decide +kernel
theorem dX0_settle_119 : decode cX0_settle 119 = .ok (.getfield 48, 3) := by decide +kernel
theorem dX0_settle_122 : decode cX0_settle 122 = .ok (.iload_n 1, 1) := by decide +kernel
theorem dX0_settle_123 : decode cX0_settle 123 = .ok (.aload_n 0, 1) := by decide +kernel
theorem dX0_settle_124 : decode cX0_settle 124 = .ok (.iload_n 1, 1) := by decide +kernel
theorem dX0_settle_125 : decode cX0_settle 125 = .ok (.invokevirtual 118, 3) := by decide +kernel
theorem dX0_settle_128 : decode cX0_settle 128 = .ok (.iastore, 1) := by decide +kernel
theorem dX0_settle_129 : decode cX0_settle 129 = .ok (.aload_n 0, 1) := by decide +kernel
theorem dX0_settle_130 : decode cX0_settle 130 = .ok (.getfield 51, 3) := by decide +kernel
theorem dX0_settle_133 : decode cX0_settle 133 = .ok (.iload_n 1, 1) := by decide +kernel
theorem dX0_settle_134 : decode cX0_settle 134 = .ok (.aload_n 0, 1) := by decide +kernel
theorem dX0_settle_135 : decode cX0_settle 135 = .ok (.iload_n 1, 1) := by decide +kernel
theorem dX0_settle_136 : decode cX0_settle 136 = .ok (.invokevirtual 121, 3) := by decide +kernel
theorem dX0_settle_139 : decode cX0_settle 139 = .ok (.iastore, 1) := by decide +kernel
theorem dX0_settle_140 : decode cX0_settle 140 = .ok (.return_, 1) := by decide +kernel
theorem dX0_liesBehind_0 : decode cX0_liesBehind 0 = .ok (.iload_n 1, 1) := by decide +kernel
theorem dX0_liesBehind_1 : decode cX0_liesBehind 1 = .ok (.ifCond .le 37, 3) := by decide +kernel
theorem dX0_liesBehind_4 : decode cX0_liesBehind 4 = .ok (.aload_n 0, 1) := by decide +kernel
theorem dX0_liesBehind_5 : decode cX0_liesBehind 5 = .ok (.getfield 39, 3) := by decide +kernel
theorem dX0_liesBehind_8 : decode cX0_liesBehind 8 = .ok (.iload_n 1, 1) := by decide +kernel
theorem dX0_liesBehind_9 : decode cX0_liesBehind 9 = .ok (.iconst 1, 1) := by decide +kernel
theorem dX0_liesBehind_10 : decode cX0_liesBehind 10 = .ok (.isub, 1) := by decide +kernel
theorem dX0_liesBehind_11 : decode cX0_liesBehind 11 = .ok (.baload, 1) := by decide +kernel
theorem dX0_liesBehind_12 : decode cX0_liesBehind 12 = .ok (.ifCond .ne 26, 3) := by decide +kernel
theorem dX0_liesBehind_15 : decode cX0_liesBehind 15 = .ok (.aload_n 0, 1) := by decide +kernel
theorem dX0_liesBehind_16 : decode cX0_liesBehind 16 = .ok (.iload_n 1, 1) := by decide +kernel
theorem dX0_liesBehind_17 : decode cX0_liesBehind 17 = .ok (.invokevirtual 124, 3) := by decide +kernel
theorem dX0_liesBehind_20 : decode cX0_liesBehind 20 = .ok (.ifCond .eq 14, 3) := by decide +kernel
theorem dX0_liesBehind_23 : decode cX0_liesBehind 23 = .ok (.aload_n 0, 1) := by decide +kernel
theorem dX0_liesBehind_24 : decode cX0_liesBehind 24 = .ok (.getfield 29, 3) := by decide +kernel
theorem dX0_liesBehind_27 : decode cX0_liesBehind 27 = .ok (.iload_n 1, 1) := by decide +kernel
theorem dX0_liesBehind_28 : decode cX0_liesBehind 28 = .ok (.iconst 2, 1) := by decide +kernel
theorem dX0_liesBehind_29 : decode cX0_liesBehind 29 = .ok (.isub, 1) := by decide +kernel
theorem dX0_liesBehind_30 : decode cX0_liesBehind 30 = .ok (.baload, 1) := by decide +kernel
theorem dX0_liesBehind_31 : decode cX0_liesBehind 31 = .ok (.ifCond .ne 7, 3) := by decide +kernel
theorem dX0_liesBehind_34 : decode cX0_liesBehind 34 = .ok (.iconst 1, 1) := by decide +kernel
theorem dX0_liesBehind_35 : decode cX0_liesBehind 35 = .ok (.goto 4, 3) := by decide +kernel
theorem dX0_liesBehind_38 : decode cX0_liesBehind 38 = .ok (.iconst 0, 1) := by decide +kernel
theorem dX0_liesBehind_39 : decode cX0_liesBehind 39 = .ok (.ireturn, 1) := by decide +kernel
theorem dX0_isRedirected_0 : decode cX0_isRedirected 0 = .ok (.aload_n 0, 1) := by decide +kernel
theorem dX0_isRedirected_1 : decode cX0_isRedirected 1 = .ok (.iload_n 1, 1) := by decide +kernel
theorem dX0_isRedirected_2 : decode cX0_isRedirected 2 = .ok (.invokevirtual 127, 3) := by decide +kernel
theorem dX0_isRedirected_5 : decode cX0_isRedirected 5 = .ok (.ifCond .ne 11, 3) := by decide +kernel
theorem dX0_isRedirected_8 : decode cX0_isRedirected 8 = .ok (.aload_n 0, 1) := by decide +kernel
theorem dX0_isRedirected_9 : decode cX0_isRedirected 9 = .ok (.iload_n 1, 1) := by decide +kernel
theorem dX0_isRedirected_10 : decode cX0_isRedirected 10 = .ok (.invokevirtual 130, 3) := by decide +kernel
theorem dX0_isRedirected_13 : decode cX0_isRedirected 13 = .ok (.ifCond .eq 7, 3) := by decide +kernel
theorem dX0_isRedirected_16 : decode cX0_isRedirected 16 = .ok (.iconst 1, 1) := by decide +kernel
theorem dX0_isRedirected_17 : decode cX0_isRedirected 17 = .ok (.goto 4, 3) := by decide +kernel
theorem dX0_isRedirected_20 : decode cX0_isRedirected 20 = .ok (.iconst 0, 1) := by decide +kernel
theorem dX0_isRedirected_21 : decode cX0_isRedirected 21 = .ok (.ireturn, 1) := by decide +kernel
theorem dX0_isBehindSlot_0 : decode cX0_isBehindSlot 0 = .ok (.iload_n 1, 1) := by decide +kernel
theorem dX0_isBehindSlot_1 : decode cX0_isBehindSlot 1 = .ok (.iconst 1, 1) := by decide +kernel
theorem dX0_isBehindSlot_2 : decode cX0_isBehindSlot 2 = .ok (.if_icmp .le 18, 3) := by decide +kernel
theorem dX0_isBehindSlot_5 : decode cX0_isBehindSlot 5 = .ok (.aload_n 0, 1) := by decide +kernel
theorem dX0_isBehindSlot_6 : decode cX0_isBehindSlot 6 = .ok (.getfield 36, 3) := by decide +kernel
theorem dX0_isBehindSlot_9 : decode cX0_isBehindSlot 9 = .ok (.iload_n 1, 1) := by decide +kernel
theorem dX0_isBehindSlot_10 : decode cX0_isBehindSlot 10 = .ok (.iconst 1, 1) := by decide +kernel
theorem dX0_isBehindSlot_11 : decode cX0_isBehindSlot 11 = .ok (.isub, 1) := by decide +kernel
theorem dX0_isBehindSlot_12 : decode cX0_isBehindSlot 12 = .ok (.baload, 1) := by decide +kernel
theorem dX0_isBehindSlot_13 : decode cX0_isBehindSlot 13 = .ok (.ifCond .eq 7, 3) := by decide +kernel
theorem dX0_isBehindSlot_16 : decode cX0_isBehindSlot 16 = .ok (.iconst 1, 1) := by decide +kernel
theorem dX0_isBehindSlot_17 : decode cX0_isBehindSlot 17 = .ok (.goto 4, 3) := by decide +kernel
theorem dX0_isBehindSlot_20 : decode cX0_isBehindSlot 20 = .ok (.iconst 0, 1) := by decide +kernel
theorem dX0_isBehindSlot_21 : decode cX0_isBehindSlot 21 = .ok (.ireturn, 1) := by decide +kernel
theorem dX0_isBehindFailingOrSingle_0 : decode cX0_isBehindFailingOrSingle 0 = .ok (.iload_n 1, 1) := by decide +kernel
theorem dX0_isBehindFailingOrSingle_1 : decode cX0_isBehindFailingOrSingle 1 = .ok (.ifCond .le 31, 3) := by decide +kernel
theorem dX0_isBehindFailingOrSingle_4 : decode cX0_isBehindFailingOrSingle 4 = .ok (.aload_n 0, 1) := by decide +kernel
theorem dX0_isBehindFailingOrSingle_5 : decode cX0_isBehindFailingOrSingle 5 = .ok (.getfield 39, 3) := by decide +kernel
theorem dX0_isBehindFailingOrSingle_8 : decode cX0_isBehindFailingOrSingle 8 = .ok (.iload_n 1, 1) := by decide +kernel
theorem dX0_isBehindFailingOrSingle_9 : decode cX0_isBehindFailingOrSingle 9 = .ok (.iconst 1, 1) := by decide +kernel
theorem dX0_isBehindFailingOrSingle_10 : decode cX0_isBehindFailingOrSingle 10 = .ok (.isub, 1) := by decide +kernel
theorem dX0_isBehindFailingOrSingle_11 : decode cX0_isBehindFailingOrSingle 11 = .ok (.baload, 1) := by decide +kernel
theorem dX0_isBehindFailingOrSingle_12 : decode cX0_isBehindFailingOrSingle 12 = .ok (.ifCond .ne 16, 3) := by decide +kernel
theorem dX0_isBehindFailingOrSingle_15 : decode cX0_isBehindFailingOrSingle 15 = .ok (.aload_n 0, 1) := by decide +kernel
theorem dX0_isBehindFailingOrSingle_16 : decode cX0_isBehindFailingOrSingle 16 = .ok (.getfield 13, 3) := by decide +kernel
theorem dX0_isBehindFailingOrSingle_19 : decode cX0_isBehindFailingOrSingle 19 = .ok (.iload_n 1, 1) := by decide +kernel
theorem dX0_isBehindFailingOrSingle_20 : decode cX0_isBehindFailingOrSingle 20 = .ok (.iconst 1, 1) := by decide +kernel
theorem dX0_isBehindFailingOrSingle_21 : decode cX0_isBehindFailingOrSingle 21 = .ok (.isub, 1) := by decide +kernel
theorem dX0_isBehindFailingOrSingle_22 : decode cX0_isBehindFailingOrSingle 22 = .ok (.iaload, 1) := by decide +kernel
theorem dX0_isBehindFailingOrSingle_23 : decode cX0_isBehindFailingOrSingle 23 = .ok (.bipush 6, 2) := by decide +kernel
theorem dX0_isBehindFailingOrSingle_25 : decode cX0_isBehindFailingOrSingle 25 = .ok (.if_icmp .ne 7, 3) := by decide +kernel
theorem dX0_isBehindFailingOrSingle_28 : decode cX0_isBehindFailingOrSingle 28 = .ok (.iconst 1, 1) := by decide +kernel
theorem dX0_isBehindFailingOrSingle_29 : decode cX0_isBehindFailingOrSingle 29 = .ok (.goto 4, 3) := by decide +kernel
theorem dX0_isBehindFailingOrSingle_32 : decode cX0_isBehindFailingOrSingle 32 = .ok (.iconst 0, 1) := by decide +kernel
theorem dX0_isBehindFailingOrSingle_33 : decode cX0_isBehindFailingOrSingle 33 = .ok (.ireturn, 1) := by decide +kernel
theorem dX0_isBehindSlotOfMissedBranch_0 : decode cX0_isBehindSlotOfMissedBranch 0 = .ok (.aload_n 0, 1) := by decide +kernel
theorem dX0_isBehindSlotOfMissedBranch_1 : decode cX0_isBehindSlotOfMissedBranch 1 = .ok (.iload_n 1, 1) := by decide +kernel
theorem dX0_isBehindSlotOfMissedBranch_2 : decode cX0_isBehindSlotOfMissedBranch 2 = .ok (.invokevirtual 124, 3) := by decide +kernel
theorem dX0_isBehindSlotOfMissedBranch_5 : decode cX0_isBehindSlotOfMissedBranch 5 = .ok (.ifCond .eq 17, 3) := by decide +kernel
theorem dX0_isBehindSlotOfMissedBranch_8 : decode cX0_isBehindSlotOfMissedBranch 8 = .ok (.aload_n 0, 1) := by decide +kernel
theorem dX0_isBehindSlotOfMissedBranch_9 : decode cX0_isBehindSlotOfMissedBranch 9 = .ok (.iload_n 1, 1) := by decide +kernel
theorem dX0_isBehindSlotOfMissedBranch_10 : decode cX0_isBehindSlotOfMissedBranch 10 = .ok (.iconst 2, 1) := by decide +kernel
theorem dX0_isBehindSlotOfMissedBranch_11 : decode cX0_isBehindSlotOfMissedBranch 11 = .ok (.isub, 1) := by decide +kernel
theorem dX0_isBehindSlotOfMissedBranch_12 : decode cX0_isBehindSlotOfMissedBranch 12 = .ok (.invokevirtual 133, 3) := by decide +kernel
theorem dX0_isBehindSlotOfMissedBranch_15 : decode cX0_isBehindSlotOfMissedBranch 15 = .ok (.ifCond .eq 7, 3) := by decide +kernel
theorem dX0_isBehindSlotOfMissedBranch_18 : decode cX0_isBehindSlotOfMissedBranch 18 = .ok (.iconst 1, 1) := by decide +kernel
theorem dX0_isBehindSlotOfMissedBranch_19 : decode cX0_isBehindSlotOfMissedBranch 19 = .ok (.goto 4, 3) := by decide +kernel
theorem dX0_isBehindSlotOfMissedBranch_22 : decode cX0_isBehindSlotOfMissedBranch 22 = .ok (.iconst 0, 1) := by decide +kernel
theorem dX0_isBehindSlotOfMissedBranch_23 : decode cX0_isBehindSlotOfMissedBranch 23 = .ok (.ireturn, 1) := by decide +kernel
theorem dX0_isMissed_0 : decode cX0_isMissed 0 = .ok (.aload_n 0, 1) := by decide +kernel
theorem dX0_isMissed_1 : decode cX0_isMissed 1 = .ok (.getfield 26, 3) := by decide +kernel
theorem dX0_isMissed_4 : decode cX0_isMissed 4 = .ok (.iload_n 1, 1) := by decide +kernel
theorem dX0_isMissed_5 : decode cX0_isMissed 5 = .ok (.iaload, 1) := by decide +kernel
theorem dX0_isMissed_6 : decode cX0_isMissed 6 = .ok (.ifCond .ne 5, 3) := by decide +kernel
theorem dX0_isMissed_9 : decode cX0_isMissed 9 = .ok (.iconst 1, 1) := by decide +kernel
theorem dX0_isMissed_10 : decode cX0_isMissed 10 = .ok (.ireturn, 1) := by decide +kernel
theorem dX0_isMissed_11 : decode cX0_isMissed 11 = .ok (.aload_n 0, 1) := by decide +kernel
theorem dX0_isMissed_12 : decode cX0_isMissed 12 = .ok (.getfield 26, 3) := by decide +kernel
theorem dX0_isMissed_15 : decode cX0_isMissed 15 = .ok (.iload_n 1, 1) := by decide +kernel
theorem dX0_isMissed_16 : decode cX0_isMissed 16 = .ok (.iaload, 1) := by decide +kernel
theorem dX0_isMissed_17 : decode cX0_isMissed 17 = .ok (.iconst 1, 1) := by decide +kernel
theorem dX0_isMissed_18 : decode cX0_isMissed 18 = .ok (.if_icmp .ne 7, 3) := by decide +kernel
theorem dX0_isMissed_21 : decode cX0_isMissed 21 = .ok (.iconst 1, 1) := by decide +kernel
theorem dX0_isMissed_22 : decode cX0_isMissed 22 = .ok (.goto 4, 3) := by decide +kernel
theorem dX0_isMissed_25 : decode cX0_isMissed 25 = .ok (.iconst 0, 1) := by decide +kernel
theorem dX0_isMissed_26 : decode cX0_isMissed 26 = .ok (.aload_n 0, 1) := by decide +kernel
theorem dX0_isMissed_27 : decode cX0_isMissed 27 = .ok (.getfield 29, 3) := by decide +kernel
theorem dX0_isMissed_30 : decode cX0_isMissed 30 = .ok (.iload_n 1, 1) := by decide +kernel
theorem dX0_isMissed_31 : decode cX0_isMissed 31 = .ok (.baload, 1) := by decide +kernel
