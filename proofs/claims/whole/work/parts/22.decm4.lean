theorem dX1_inStage_8 : decode cX1_inStage 8 = .ok (.getfield 63, 3) := by decide +kernel
theorem dX1_inStage_11 : decode cX1_inStage 11 = .ok (.if_icmp .ge 28, 3) := by decide +kernel
theorem dX1_inStage_14 : decode cX1_inStage 14 = .ok (.iload_n 3, 1) := by decide +kernel
theorem dX1_inStage_15 : decode cX1_inStage 15 = .ok (.aload_n 0, 1) := by decide +kernel
theorem dX1_inStage_16 : decode cX1_inStage 16 = .ok (.iload 4, 2) := by decide +kernel
theorem dX1_inStage_18 : decode cX1_inStage 18 = .ok (.iload_n 2, 1) := by decide +kernel
theorem dX1_inStage_19 : decode cX1_inStage 19 = .ok (.invokevirtual 107, 3) := by decide +kernel
theorem dX1_inStage_22 : decode cX1_inStage 22 = .ok (.iload_n 1, 1) := by decide +kernel
theorem dX1_inStage_23 : decode cX1_inStage 23 = .ok (.if_icmp .ne 7, 3) := by decide +kernel
theorem dX1_inStage_26 : decode cX1_inStage 26 = .ok (.iconst 1, 1) := by decide +kernel
theorem dX1_inStage_27 : decode cX1_inStage 27 = .ok (.goto 4, 3) := by decide +kernel
theorem dX1_inStage_30 : decode cX1_inStage 30 = .ok (.iconst 0, 1) := by decide +kernel
theorem dX1_inStage_31 : decode cX1_inStage 31 = .ok (.iadd, 1) := by decide +kernel
theorem dX1_inStage_32 : decode cX1_inStage 32 = .ok (.istore_n 3, 1) := by decide +kernel
theorem dX1_inStage_33 : decode cX1_inStage 33 = .ok (.iinc 4 1, 3) := by decide +kernel
theorem dX1_inStage_36 : decode cX1_inStage 36 = .ok (.goto (-31), 3) := by decide +kernel
theorem dX1_inStage_39 : decode cX1_inStage 39 = .ok (.iload_n 3, 1) := by decide +kernel
theorem dX1_inStage_40 : decode cX1_inStage 40 = .ok (.ireturn, 1) := by decide +kernel
theorem dX1_many_0 : decode cX1_many 0 = .ok (.aload_n 0, 1) := by decide +kernel
theorem dX1_many_1 : decode cX1_many 1 = .ok (.iconst 0, 1) := by decide +kernel
theorem dX1_many_2 : decode cX1_many 2 = .ok (.putfield 59, 3) := by decide +kernel
theorem dX1_many_5 : decode cX1_many 5 = .ok (.iload_n 1, 1) := by decide +kernel
theorem dX1_many_6 : decode cX1_many 6 = .ok (.ifCond .lt 12, 3) := by decide +kernel
theorem dX1_many_9 : decode cX1_many 9 = .ok (.iload_n 1, 1) := by decide +kernel
theorem dX1_many_10 : decode cX1_many 10 = .ok (.iconst 3, 1) := by decide +kernel
theorem dX1_many_11 : decode cX1_many 11 = .ok (.if_icmp .gt 7, 3) := by decide +kernel
theorem dX1_many_14 : decode cX1_many 14 = .ok (.iload_n 2, 1) := by decide +kernel
theorem dX1_many_15 : decode cX1_many 15 = .ok (.ifCond .ge 5, 3) := by decide +kernel
theorem dX1_many_18 : decode cX1_many 18 = .ok (.iconst (-1), 1) := by decide +kernel
theorem dX1_many_19 : decode cX1_many 19 = .ok (.ireturn, 1) := by decide +kernel
theorem dX1_many_20 : decode cX1_many 20 = .ok (.aload_n 0, 1) := by decide +kernel
theorem dX1_many_21 : decode cX1_many 21 = .ok (.invokevirtual 104, 3) := by decide +kernel
theorem dX1_many_24 : decode cX1_many 24 = .ok (.aload_n 0, 1) := by decide +kernel
theorem dX1_many_25 : decode cX1_many 25 = .ok (.iload_n 1, 1) := by decide +kernel
theorem dX1_many_26 : decode cX1_many 26 = .ok (.iload_n 2, 1) := by decide +kernel
theorem dX1_many_27 : decode cX1_many 27 = .ok (.invokevirtual 110, 3) := by decide +kernel
theorem dX1_many_30 : decode cX1_many 30 = .ok (.ireturn, 1) := by decide +kernel
theorem dX1_counted_0 : decode cX1_counted 0 = .ok (.iconst 0, 1) := by decide +kernel
theorem dX1_counted_1 : decode cX1_counted 1 = .ok (.istore_n 2, 1) := by decide +kernel
theorem dX1_counted_2 : decode cX1_counted 2 = .ok (.iconst 0, 1) := by decide +kernel
theorem dX1_counted_3 : decode cX1_counted 3 = .ok (.istore_n 3, 1) := by decide +kernel
theorem dX1_counted_4 : decode cX1_counted 4 = .ok (.iload_n 3, 1) := by decide +kernel
theorem dX1_counted_5 : decode cX1_counted 5 = .ok (.aload_n 0, 1) := by decide +kernel
theorem dX1_counted_6 : decode cX1_counted 6 = .ok (.getfield 63, 3) := by decide +kernel
theorem dX1_counted_9 : decode cX1_counted 9 = .ok (.if_icmp .ge 123, 3) := by decide +kernel
theorem dX1_counted_12 : decode cX1_counted 12 = .ok (.iload_n 3, 1) := by decide +kernel
theorem dX1_counted_13 : decode cX1_counted 13 = .ok (.ifCond .le 7, 3) := by decide +kernel
theorem dX1_counted_16 : decode cX1_counted 16 = .ok (.iconst 1, 1) := by decide +kernel
theorem dX1_counted_17 : decode cX1_counted 17 = .ok (.goto 4, 3) := by decide +kernel
theorem dX1_counted_20 : decode cX1_counted 20 = .ok (.iconst 0, 1) := by decide +kernel
theorem dX1_counted_21 : decode cX1_counted 21 = .ok (.istore 4, 2) := by decide +kernel
theorem dX1_counted_23 : decode cX1_counted 23 = .ok (.iload 4, 2) := by decide +kernel
theorem dX1_counted_25 : decode cX1_counted 25 = .ok (.ifCond .eq 9, 3) := by decide +kernel
theorem dX1_counted_28 : decode cX1_counted 28 = .ok (.iload_n 3, 1) := by decide +kernel
theorem dX1_counted_29 : decode cX1_counted 29 = .ok (.iconst 1, 1) := by decide +kernel
theorem dX1_counted_30 : decode cX1_counted 30 = .ok (.isub, 1) := by decide +kernel
theorem dX1_counted_31 : decode cX1_counted 31 = .ok (.goto 4, 3) := by decide +kernel
theorem dX1_counted_34 : decode cX1_counted 34 = .ok (.iconst 0, 1) := by decide +kernel
theorem dX1_counted_35 : decode cX1_counted 35 = .ok (.istore 5, 2) := by decide +kernel
theorem dX1_counted_37 : decode cX1_counted 37 = .ok (.iload_n 1, 1) := by decide +kernel
theorem dX1_counted_38 : decode cX1_counted 38 = .ok (.iconst 2, 1) := by decide +kernel
theorem dX1_counted_39 : decode cX1_counted 39 = .ok (.if_icmp .ne 32, 3) := by decide +kernel
theorem dX1_counted_42 : decode cX1_counted 42 = .ok (.iload 4, 2) := by decide +kernel
theorem dX1_counted_44 : decode cX1_counted 44 = .ok (.ifCond .eq 23, 3) := by decide +kernel
theorem dX1_counted_47 : decode cX1_counted 47 = .ok (.aload_n 0, 1) := by decide +kernel
theorem dX1_counted_48 : decode cX1_counted 48 = .ok (.getfield 50, 3) := by decide +kernel
theorem dX1_counted_51 : decode cX1_counted 51 = .ok (.iload_n 3, 1) := by decide +kernel
theorem dX1_counted_52 : decode cX1_counted 52 = .ok (.iaload, 1) := by decide +kernel
theorem dX1_counted_53 : decode cX1_counted 53 = .ok (.aload_n 0, 1) := by decide +kernel
theorem dX1_counted_54 : decode cX1_counted 54 = .ok (.getfield 50, 3) := by decide +kernel
theorem dX1_counted_57 : decode cX1_counted 57 = .ok (.iload 5, 2) := by decide +kernel
theorem dX1_counted_59 : decode cX1_counted 59 = .ok (.iaload, 1) := by decide +kernel
theorem dX1_counted_60 : decode cX1_counted 60 = .ok (.if_icmp .ne 7, 3) := by decide +kernel
theorem dX1_counted_63 : decode cX1_counted 63 = .ok (.iconst 1, 1) := by decide +kernel
theorem dX1_counted_64 : decode cX1_counted 64 = .ok (.goto 47, 3) := by decide +kernel
theorem dX1_counted_67 : decode cX1_counted 67 = .ok (.iconst 0, 1) := by decide +kernel
theorem dX1_counted_68 : decode cX1_counted 68 = .ok (.goto 43, 3) := by decide +kernel
theorem dX1_counted_71 : decode cX1_counted 71 = .ok (.iload_n 1, 1) := by decide +kernel
theorem dX1_counted_72 : decode cX1_counted 72 = .ok (.iconst 4, 1) := by decide +kernel
theorem dX1_counted_73 : decode cX1_counted 73 = .ok (.if_icmp .ne 12, 3) := by decide +kernel
theorem dX1_counted_76 : decode cX1_counted 76 = .ok (.aload_n 0, 1) := by decide +kernel
theorem dX1_counted_77 : decode cX1_counted 77 = .ok (.getfield 53, 3) := by decide +kernel
theorem dX1_counted_80 : decode cX1_counted 80 = .ok (.iload_n 3, 1) := by decide +kernel
theorem dX1_counted_81 : decode cX1_counted 81 = .ok (.baload, 1) := by decide +kernel
theorem dX1_counted_82 : decode cX1_counted 82 = .ok (.goto 29, 3) := by decide +kernel
theorem dX1_counted_85 : decode cX1_counted 85 = .ok (.iload 4, 2) := by decide +kernel
theorem dX1_counted_87 : decode cX1_counted 87 = .ok (.ifCond .eq 23, 3) := by decide +kernel
theorem dX1_counted_90 : decode cX1_counted 90 = .ok (.aload_n 0, 1) := by decide +kernel
theorem dX1_counted_91 : decode cX1_counted 91 = .ok (.getfield 47, 3) := by decide +kernel
theorem dX1_counted_94 : decode cX1_counted 94 = .ok (.iload_n 3, 1) := by decide +kernel
theorem dX1_counted_95 : decode cX1_counted 95 = .ok (.iaload, 1) := by decide +kernel
theorem dX1_counted_96 : decode cX1_counted 96 = .ok (.aload_n 0, 1) := by decide +kernel
theorem dX1_counted_97 : decode cX1_counted 97 = .ok (.getfield 47, 3) := by decide +kernel
theorem dX1_counted_100 : decode cX1_counted 100 = .ok (.iload 5, 2) := by decide +kernel
theorem dX1_counted_102 : decode cX1_counted 102 = .ok (.iaload, 1) := by decide +kernel
theorem dX1_counted_103 : decode cX1_counted 103 = .ok (.if_icmp .ne 7, 3) := by decide +kernel
theorem dX1_counted_106 : decode cX1_counted 106 = .ok (.iconst 1, 1) := by decide +kernel
theorem dX1_counted_107 : decode cX1_counted 107 = .ok (.goto 4, 3) := by decide +kernel
theorem dX1_counted_110 : decode cX1_counted 110 = .ok (.iconst 0, 1) := by decide +kernel
theorem dX1_counted_111 : decode cX1_counted 111 = .ok (.istore 6, 2) := by decide +kernel
theorem dX1_counted_113 : decode cX1_counted 113 = .ok (.iload_n 2, 1) := by decide +kernel
theorem dX1_counted_114 : decode cX1_counted 114 = .ok (.iload 6, 2) := by decide +kernel
theorem dX1_counted_116 : decode cX1_counted 116 = .ok (.ifCond .eq 7, 3) := by decide +kernel
theorem dX1_counted_119 : decode cX1_counted 119 = .ok (.iconst 1, 1) := by decide +kernel
theorem dX1_counted_120 : decode cX1_counted 120 = .ok (.goto 4, 3) := by decide +kernel
theorem dX1_counted_123 : decode cX1_counted 123 = .ok (.iconst 0, 1) := by decide +kernel
theorem dX1_counted_124 : decode cX1_counted 124 = .ok (.iadd, 1) := by decide +kernel
theorem dX1_counted_125 : decode cX1_counted 125 = .ok (.istore_n 2, 1) := by decide +kernel
theorem dX1_counted_126 : decode cX1_counted 126 = .ok (.iinc 3 1, 3) := by decide +kernel
theorem dX1_counted_129 : decode cX1_counted 129 = .ok (.goto (-125), 3) := by decide +kernel
theorem dX1_counted_132 : decode cX1_counted 132 = .ok (.iload_n 2, 1) := by decide +kernel
theorem dX1_counted_133 : decode cX1_counted 133 = .ok (.ireturn, 1) := by decide +kernel
theorem dX1_longest_0 : decode cX1_longest 0 = .ok (.iconst 0, 1) := by decide +kernel
theorem dX1_longest_1 : decode cX1_longest 1 = .ok (.istore_n 1, 1) := by decide +kernel
theorem dX1_longest_2 : decode cX1_longest 2 = .ok (.iconst 0, 1) := by decide +kernel
theorem dX1_longest_3 : decode cX1_longest 3 = .ok (.istore_n 2, 1) := by decide +kernel
theorem dX1_longest_4 : decode cX1_longest 4 = .ok (.iload_n 2, 1) := by decide +kernel
theorem dX1_longest_5 : decode cX1_longest 5 = .ok (.aload_n 0, 1) := by decide +kernel
theorem dX1_longest_6 : decode cX1_longest 6 = .ok (.getfield 63, 3) := by decide +kernel
theorem dX1_longest_9 : decode cX1_longest 9 = .ok (.if_icmp .ge 52, 3) := by decide +kernel
theorem dX1_longest_12 : decode cX1_longest 12 = .ok (.aload_n 0, 1) := by decide +kernel
theorem dX1_longest_13 : decode cX1_longest 13 = .ok (.getfield 50, 3) := by decide +kernel
theorem dX1_longest_16 : decode cX1_longest 16 = .ok (.iload_n 2, 1) := by decide +kernel
theorem dX1_longest_17 : decode cX1_longest 17 = .ok (.iaload, 1) := by decide +kernel
theorem dX1_longest_18 : decode cX1_longest 18 = .ok (.iload_n 2, 1) := by decide +kernel
theorem dX1_longest_19 : decode cX1_longest 19 = .ok (.ifCond .le 22, 3) := by decide +kernel
theorem dX1_longest_22 : decode cX1_longest 22 = .ok (.aload_n 0, 1) := by decide +kernel
theorem dX1_longest_23 : decode cX1_longest 23 = .ok (.getfield 50, 3) := by decide +kernel
theorem dX1_longest_26 : decode cX1_longest 26 = .ok (.iload_n 2, 1) := by decide +kernel
theorem dX1_longest_27 : decode cX1_longest 27 = .ok (.ifCond .le 9, 3) := by decide +kernel
theorem dX1_longest_30 : decode cX1_longest 30 = .ok (.iload_n 2, 1) := by decide +kernel
theorem dX1_longest_31 : decode cX1_longest 31 = .ok (.iconst 1, 1) := by decide +kernel
theorem dX1_longest_32 : decode cX1_longest 32 = .ok (.isub, 1) := by decide +kernel
theorem dX1_longest_33 : decode cX1_longest 33 = .ok (.goto 4, 3) := by decide +kernel
theorem dX1_longest_36 : decode cX1_longest 36 = .ok (.iconst 0, 1) := by decide +kernel
theorem dX1_longest_37 : decode cX1_longest 37 = .ok (.iaload, 1) := by decide +kernel
theorem dX1_longest_38 : decode cX1_longest 38 = .ok (.goto 4, 3) := by decide +kernel
theorem dX1_longest_41 : decode cX1_longest 41 = .ok (.iconst 0, 1) := by decide +kernel
theorem dX1_longest_42 : decode cX1_longest 42 = .ok (.isub, 1) := by decide +kernel
theorem dX1_longest_43 : decode cX1_longest 43 = .ok (.istore_n 3, 1) := by decide +kernel
theorem dX1_longest_44 : decode cX1_longest 44 = .ok (.iload_n 3, 1) := by decide +kernel
theorem dX1_longest_45 : decode cX1_longest 45 = .ok (.iload_n 1, 1) := by decide +kernel
theorem dX1_longest_46 : decode cX1_longest 46 = .ok (.if_icmp .le 7, 3) := by decide +kernel
theorem dX1_longest_49 : decode cX1_longest 49 = .ok (.iload_n 3, 1) := by decide +kernel
theorem dX1_longest_50 : decode cX1_longest 50 = .ok (.goto 4, 3) := by decide +kernel
theorem dX1_longest_53 : decode cX1_longest 53 = .ok (.iload_n 1, 1) := by decide +kernel
theorem dX1_longest_54 : decode cX1_longest 54 = .ok (.istore_n 1, 1) := by decide +kernel
theorem dX1_longest_55 : decode cX1_longest 55 = .ok (.iinc 2 1, 3) := by decide +kernel
theorem dX1_longest_58 : decode cX1_longest 58 = .ok (.goto (-54), 3) := by decide +kernel
theorem dX1_longest_61 : decode cX1_longest 61 = .ok (.iload_n 1, 1) := by decide +kernel
theorem dX1_longest_62 : decode cX1_longest 62 = .ok (.ireturn, 1) := by decide +kernel
theorem dX1_busiest_0 : decode cX1_busiest 0 = .ok (.iconst 0, 1) := by decide +kernel
theorem dX1_busiest_1 : decode cX1_busiest 1 = .ok (.istore_n 1, 1) := by decide +kernel
theorem dX1_busiest_2 : decode cX1_busiest 2 = .ok (.iconst 0, 1) := by decide +kernel
theorem dX1_busiest_3 : decode cX1_busiest 3 = .ok (.istore_n 2, 1) := by decide +kernel
theorem dX1_busiest_4 : decode cX1_busiest 4 = .ok (.iload_n 2, 1) := by decide +kernel
theorem dX1_busiest_5 : decode cX1_busiest 5 = .ok (.aload_n 0, 1) := by decide +kernel
theorem dX1_busiest_6 : decode cX1_busiest 6 = .ok (.getfield 63, 3) := by decide +kernel
theorem dX1_busiest_9 : decode cX1_busiest 9 = .ok (.if_icmp .ge 80, 3) := by decide +kernel
theorem dX1_busiest_12 : decode cX1_busiest 12 = .ok (.iconst 0, 1) := by decide +kernel
theorem dX1_busiest_13 : decode cX1_busiest 13 = .ok (.istore_n 3, 1) := by decide +kernel
theorem dX1_busiest_14 : decode cX1_busiest 14 = .ok (.iconst 0, 1) := by decide +kernel
theorem dX1_busiest_15 : decode cX1_busiest 15 = .ok (.istore 4, 2) := by decide +kernel
theorem dX1_busiest_17 : decode cX1_busiest 17 = .ok (.iload 4, 2) := by decide +kernel
theorem dX1_busiest_19 : decode cX1_busiest 19 = .ok (.aload_n 0, 1) := by decide +kernel
theorem dX1_busiest_20 : decode cX1_busiest 20 = .ok (.getfield 63, 3) := by decide +kernel
theorem dX1_busiest_23 : decode cX1_busiest 23 = .ok (.if_icmp .ge 49, 3) := by decide +kernel
theorem dX1_busiest_26 : decode cX1_busiest 26 = .ok (.iload_n 3, 1) := by decide +kernel
theorem dX1_busiest_27 : decode cX1_busiest 27 = .ok (.aload_n 0, 1) := by decide +kernel
theorem dX1_busiest_28 : decode cX1_busiest 28 = .ok (.getfield 47, 3) := by decide +kernel
theorem dX1_busiest_31 : decode cX1_busiest 31 = .ok (.iload 4, 2) := by decide +kernel
theorem dX1_busiest_33 : decode cX1_busiest 33 = .ok (.iaload, 1) := by decide +kernel
theorem dX1_busiest_34 : decode cX1_busiest 34 = .ok (.aload_n 0, 1) := by decide +kernel
theorem dX1_busiest_35 : decode cX1_busiest 35 = .ok (.getfield 47, 3) := by decide +kernel
theorem dX1_busiest_38 : decode cX1_busiest 38 = .ok (.iload_n 2, 1) := by decide +kernel
theorem dX1_busiest_39 : decode cX1_busiest 39 = .ok (.iaload, 1) := by decide +kernel
theorem dX1_busiest_40 : decode cX1_busiest 40 = .ok (.if_icmp .gt 23, 3) := by decide +kernel
theorem dX1_busiest_43 : decode cX1_busiest 43 = .ok (.aload_n 0, 1) := by decide +kernel
theorem dX1_busiest_44 : decode cX1_busiest 44 = .ok (.getfield 50, 3) := by decide +kernel
theorem dX1_busiest_47 : decode cX1_busiest 47 = .ok (.iload 4, 2) := by decide +kernel
theorem dX1_busiest_49 : decode cX1_busiest 49 = .ok (.iaload, 1) := by decide +kernel
theorem dX1_busiest_50 : decode cX1_busiest 50 = .ok (.aload_n 0, 1) := by decide +kernel
theorem dX1_busiest_51 : decode cX1_busiest 51 = .ok (.getfield 47, 3) := by decide +kernel
theorem dX1_busiest_54 : decode cX1_busiest 54 = .ok (.iload_n 2, 1) := by decide +kernel
theorem dX1_busiest_55 : decode cX1_busiest 55 = .ok (.iaload, 1) := by decide +kernel
theorem dX1_busiest_56 : decode cX1_busiest 56 = .ok (.if_icmp .le 7, 3) := by decide +kernel
theorem dX1_busiest_59 : decode cX1_busiest 59 = .ok (.iconst 1, 1) := by decide +kernel
theorem dX1_busiest_60 : decode cX1_busiest 60 = .ok (.goto 4, 3) := by decide +kernel
theorem dX1_busiest_63 : decode cX1_busiest 63 = .ok (.iconst 0, 1) := by decide +kernel
theorem dX1_busiest_64 : decode cX1_busiest 64 = .ok (.iadd, 1) := by decide +kernel
theorem dX1_busiest_65 : decode cX1_busiest 65 = .ok (.istore_n 3, 1) := by decide +kernel
theorem dX1_busiest_66 : decode cX1_busiest 66 = .ok (.iinc 4 1, 3) := by decide +kernel
theorem dX1_busiest_69 : decode cX1_busiest 69 = .ok (.goto (-52), 3) := by decide +kernel
theorem dX1_busiest_72 : decode cX1_busiest 72 = .ok (.iload_n 3, 1) := by decide +kernel
theorem dX1_busiest_73 : decode cX1_busiest 73 = .ok (.iload_n 1, 1) := by decide +kernel
theorem dX1_busiest_74 : decode cX1_busiest 74 = .ok (.if_icmp .le 7, 3) := by decide +kernel
theorem dX1_busiest_77 : decode cX1_busiest 77 = .ok (.iload_n 3, 1) := by decide +kernel
theorem dX1_busiest_78 : decode cX1_busiest 78 = .ok (.goto 4, 3) := by decide +kernel
theorem dX1_busiest_81 : decode cX1_busiest 81 = .ok (.iload_n 1, 1) := by decide +kernel
theorem dX1_busiest_82 : decode cX1_busiest 82 = .ok (.istore_n 1, 1) := by decide +kernel
theorem dX1_busiest_83 : decode cX1_busiest 83 = .ok (.iinc 2 1, 3) := by decide +kernel
theorem dX1_busiest_86 : decode cX1_busiest 86 = .ok (.goto (-82), 3) := by decide +kernel
theorem dX1_busiest_89 : decode cX1_busiest 89 = .ok (.iload_n 1, 1) := by decide +kernel
theorem dX1_busiest_90 : decode cX1_busiest 90 = .ok (.ireturn, 1) := by decide +kernel
theorem dX1_look_0 : decode cX1_look 0 = .ok (.aload_n 0, 1) := by decide +kernel
theorem dX1_look_1 : decode cX1_look 1 = .ok (.iconst 0, 1) := by decide +kernel
theorem dX1_look_2 : decode cX1_look 2 = .ok (.putfield 59, 3) := by decide +kernel
theorem dX1_look_5 : decode cX1_look 5 = .ok (.aload_n 0, 1) := by decide +kernel
theorem dX1_look_6 : decode cX1_look 6 = .ok (.invokevirtual 104, 3) := by decide +kernel
theorem dX1_look_9 : decode cX1_look 9 = .ok (.iload_n 1, 1) := by decide +kernel
theorem dX1_look_10 : decode cX1_look 10 = .ok (.tableswitch 86 0 6 #[42, 47, 70, 76, 70, 70, 81], 42) := by decide +kernel
theorem dX1_look_52 : decode cX1_look 52 = .ok (.aload_n 0, 1) := by decide +kernel
theorem dX1_look_53 : decode cX1_look 53 = .ok (.getfield 63, 3) := by decide +kernel
theorem dX1_look_56 : decode cX1_look 56 = .ok (.ireturn, 1) := by decide +kernel
theorem dX1_look_57 : decode cX1_look 57 = .ok (.aload_n 0, 1) := by decide +kernel
theorem dX1_look_58 : decode cX1_look 58 = .ok (.getfield 63, 3) := by decide +kernel
theorem dX1_look_61 : decode cX1_look 61 = .ok (.ifCond .le 17, 3) := by decide +kernel
theorem dX1_look_64 : decode cX1_look 64 = .ok (.aload_n 0, 1) := by decide +kernel
theorem dX1_look_65 : decode cX1_look 65 = .ok (.getfield 50, 3) := by decide +kernel
theorem dX1_look_68 : decode cX1_look 68 = .ok (.aload_n 0, 1) := by decide +kernel
theorem dX1_look_69 : decode cX1_look 69 = .ok (.getfield 63, 3) := by decide +kernel
theorem dX1_look_72 : decode cX1_look 72 = .ok (.iconst 1, 1) := by decide +kernel
theorem dX1_look_73 : decode cX1_look 73 = .ok (.isub, 1) := by decide +kernel
theorem dX1_look_74 : decode cX1_look 74 = .ok (.iaload, 1) := by decide +kernel
theorem dX1_look_75 : decode cX1_look 75 = .ok (.goto 4, 3) := by decide +kernel
theorem dX1_look_78 : decode cX1_look 78 = .ok (.iconst 0, 1) := by decide +kernel
theorem dX1_look_79 : decode cX1_look 79 = .ok (.ireturn, 1) := by decide +kernel
theorem dX1_look_80 : decode cX1_look 80 = .ok (.aload_n 0, 1) := by decide +kernel
theorem dX1_look_81 : decode cX1_look 81 = .ok (.iload_n 1, 1) := by decide +kernel
theorem dX1_look_82 : decode cX1_look 82 = .ok (.invokevirtual 113, 3) := by decide +kernel
theorem dX1_look_85 : decode cX1_look 85 = .ok (.ireturn, 1) := by decide +kernel
theorem dX1_look_86 : decode cX1_look 86 = .ok (.aload_n 0, 1) := by decide +kernel
theorem dX1_look_87 : decode cX1_look 87 = .ok (.invokevirtual 116, 3) := by decide +kernel
theorem dX1_look_90 : decode cX1_look 90 = .ok (.ireturn, 1) := by decide +kernel
theorem dX1_look_91 : decode cX1_look 91 = .ok (.aload_n 0, 1) := by decide +kernel
theorem dX1_look_92 : decode cX1_look 92 = .ok (.invokevirtual 120, 3) := by decide +kernel
theorem dX1_look_95 : decode cX1_look 95 = .ok (.ireturn, 1) := by decide +kernel
theorem dX1_look_96 : decode cX1_look 96 = .ok (.iconst (-1), 1) := by decide +kernel
theorem dX1_look_97 : decode cX1_look 97 = .ok (.ireturn, 1) := by decide +kernel
