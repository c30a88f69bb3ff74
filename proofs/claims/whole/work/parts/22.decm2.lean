theorem dX1_joins_30 : decode cX1_joins 30 = .ok (.ifCond .ne 39, 3) := by decide +kernel
theorem dX1_joins_33 : decode cX1_joins 33 = .ok (.aload_n 0, 1) := by decide +kernel
theorem dX1_joins_34 : decode cX1_joins 34 = .ok (.getfield 35, 3) := by decide +kernel
theorem dX1_joins_37 : decode cX1_joins 37 = .ok (.iload_n 1, 1) := by decide +kernel
theorem dX1_joins_38 : decode cX1_joins 38 = .ok (.iconst 1, 1) := by decide +kernel
theorem dX1_joins_39 : decode cX1_joins 39 = .ok (.isub, 1) := by decide +kernel
theorem dX1_joins_40 : decode cX1_joins 40 = .ok (.baload, 1) := by decide +kernel
theorem dX1_joins_41 : decode cX1_joins 41 = .ok (.ifCond .eq 24, 3) := by decide +kernel
theorem dX1_joins_44 : decode cX1_joins 44 = .ok (.aload_n 0, 1) := by decide +kernel
theorem dX1_joins_45 : decode cX1_joins 45 = .ok (.getfield 22, 3) := by decide +kernel
theorem dX1_joins_48 : decode cX1_joins 48 = .ok (.iload_n 1, 1) := by decide +kernel
theorem dX1_joins_49 : decode cX1_joins 49 = .ok (.iconst 1, 1) := by decide +kernel
theorem dX1_joins_50 : decode cX1_joins 50 = .ok (.if_icmp .le 9, 3) := by decide +kernel
theorem dX1_joins_53 : decode cX1_joins 53 = .ok (.iload_n 1, 1) := by decide +kernel
theorem dX1_joins_54 : decode cX1_joins 54 = .ok (.iconst 2, 1) := by decide +kernel
theorem dX1_joins_55 : decode cX1_joins 55 = .ok (.isub, 1) := by decide +kernel
theorem dX1_joins_56 : decode cX1_joins 56 = .ok (.goto 4, 3) := by decide +kernel
theorem dX1_joins_59 : decode cX1_joins 59 = .ok (.iconst 0, 1) := by decide +kernel
theorem dX1_joins_60 : decode cX1_joins 60 = .ok (.iaload, 1) := by decide +kernel
theorem dX1_joins_61 : decode cX1_joins 61 = .ok (.iconst 1, 1) := by decide +kernel
theorem dX1_joins_62 : decode cX1_joins 62 = .ok (.if_icmp .eq 7, 3) := by decide +kernel
theorem dX1_joins_65 : decode cX1_joins 65 = .ok (.iconst 1, 1) := by decide +kernel
theorem dX1_joins_66 : decode cX1_joins 66 = .ok (.goto 4, 3) := by decide +kernel
theorem dX1_joins_69 : decode cX1_joins 69 = .ok (.iconst 0, 1) := by decide +kernel
theorem dX1_joins_70 : decode cX1_joins 70 = .ok (.ireturn, 1) := by decide +kernel
theorem dX1_fetch_0 : decode cX1_fetch 0 = .ok (.aload_n 0, 1) := by decide +kernel
theorem dX1_fetch_1 : decode cX1_fetch 1 = .ok (.getfield 53, 3) := by decide +kernel
theorem dX1_fetch_4 : decode cX1_fetch 4 = .ok (.iload_n 1, 1) := by decide +kernel
theorem dX1_fetch_5 : decode cX1_fetch 5 = .ok (.aload_n 0, 1) := by decide +kernel
theorem dX1_fetch_6 : decode cX1_fetch 6 = .ok (.iload_n 1, 1) := by decide +kernel
theorem dX1_fetch_7 : decode cX1_fetch 7 = .ok (.invokevirtual 80, 3) := by decide +kernel
theorem dX1_fetch_10 : decode cX1_fetch 10 = .ok (.ifCond .ne 7, 3) := by decide +kernel
theorem dX1_fetch_13 : decode cX1_fetch 13 = .ok (.iconst 1, 1) := by decide +kernel
theorem dX1_fetch_14 : decode cX1_fetch 14 = .ok (.goto 4, 3) := by decide +kernel
theorem dX1_fetch_17 : decode cX1_fetch 17 = .ok (.iconst 0, 1) := by decide +kernel
theorem dX1_fetch_18 : decode cX1_fetch 18 = .ok (.bastore, 1) := by decide +kernel
theorem dX1_fetch_19 : decode cX1_fetch 19 = .ok (.aload_n 0, 1) := by decide +kernel
theorem dX1_fetch_20 : decode cX1_fetch 20 = .ok (.getfield 53, 3) := by decide +kernel
theorem dX1_fetch_23 : decode cX1_fetch 23 = .ok (.iload_n 1, 1) := by decide +kernel
theorem dX1_fetch_24 : decode cX1_fetch 24 = .ok (.baload, 1) := by decide +kernel
theorem dX1_fetch_25 : decode cX1_fetch 25 = .ok (.ifCond .ne 18, 3) := by decide +kernel
theorem dX1_fetch_28 : decode cX1_fetch 28 = .ok (.aload_n 0, 1) := by decide +kernel
theorem dX1_fetch_29 : decode cX1_fetch 29 = .ok (.getfield 44, 3) := by decide +kernel
theorem dX1_fetch_32 : decode cX1_fetch 32 = .ok (.iload_n 1, 1) := by decide +kernel
theorem dX1_fetch_33 : decode cX1_fetch 33 = .ok (.aload_n 0, 1) := by decide +kernel
theorem dX1_fetch_34 : decode cX1_fetch 34 = .ok (.getfield 44, 3) := by decide +kernel
theorem dX1_fetch_37 : decode cX1_fetch 37 = .ok (.iload_n 1, 1) := by decide +kernel
theorem dX1_fetch_38 : decode cX1_fetch 38 = .ok (.iconst 1, 1) := by decide +kernel
theorem dX1_fetch_39 : decode cX1_fetch 39 = .ok (.isub, 1) := by decide +kernel
theorem dX1_fetch_40 : decode cX1_fetch 40 = .ok (.iaload, 1) := by decide +kernel
theorem dX1_fetch_41 : decode cX1_fetch 41 = .ok (.iastore, 1) := by decide +kernel
theorem dX1_fetch_42 : decode cX1_fetch 42 = .ok (.return_, 1) := by decide +kernel
theorem dX1_fetch_43 : decode cX1_fetch 43 = .ok (.aload_n 0, 1) := by decide +kernel
theorem dX1_fetch_44 : decode cX1_fetch 44 = .ok (.getfield 44, 3) := by decide +kernel
theorem dX1_fetch_47 : decode cX1_fetch 47 = .ok (.iload_n 1, 1) := by decide +kernel
theorem dX1_fetch_48 : decode cX1_fetch 48 = .ok (.iload_n 1, 1) := by decide +kernel
theorem dX1_fetch_49 : decode cX1_fetch 49 = .ok (.ifCond .le 16, 3) := by decide +kernel
theorem dX1_fetch_52 : decode cX1_fetch 52 = .ok (.aload_n 0, 1) := by decide +kernel
theorem dX1_fetch_53 : decode cX1_fetch 53 = .ok (.getfield 44, 3) := by decide +kernel
theorem dX1_fetch_56 : decode cX1_fetch 56 = .ok (.iload_n 1, 1) := by decide +kernel
theorem dX1_fetch_57 : decode cX1_fetch 57 = .ok (.iconst 1, 1) := by decide +kernel
theorem dX1_fetch_58 : decode cX1_fetch 58 = .ok (.isub, 1) := by decide +kernel
theorem dX1_fetch_59 : decode cX1_fetch 59 = .ok (.iaload, 1) := by decide +kernel
theorem dX1_fetch_60 : decode cX1_fetch 60 = .ok (.iconst 1, 1) := by decide +kernel
theorem dX1_fetch_61 : decode cX1_fetch 61 = .ok (.iadd, 1) := by decide +kernel
theorem dX1_fetch_62 : decode cX1_fetch 62 = .ok (.goto 4, 3) := by decide +kernel
theorem dX1_fetch_65 : decode cX1_fetch 65 = .ok (.iconst 1, 1) := by decide +kernel
theorem dX1_fetch_66 : decode cX1_fetch 66 = .ok (.iastore, 1) := by decide +kernel
theorem dX1_fetch_67 : decode cX1_fetch 67 = .ok (.iload_n 1, 1) := by decide +kernel
theorem dX1_fetch_68 : decode cX1_fetch 68 = .ok (.iconst 4, 1) := by decide +kernel
theorem dX1_fetch_69 : decode cX1_fetch 69 = .ok (.if_icmp .le 28, 3) := by decide +kernel
theorem dX1_fetch_72 : decode cX1_fetch 72 = .ok (.aload_n 0, 1) := by decide +kernel
theorem dX1_fetch_73 : decode cX1_fetch 73 = .ok (.getfield 44, 3) := by decide +kernel
theorem dX1_fetch_76 : decode cX1_fetch 76 = .ok (.iload_n 1, 1) := by decide +kernel
theorem dX1_fetch_77 : decode cX1_fetch 77 = .ok (.aload_n 0, 1) := by decide +kernel
theorem dX1_fetch_78 : decode cX1_fetch 78 = .ok (.getfield 44, 3) := by decide +kernel
theorem dX1_fetch_81 : decode cX1_fetch 81 = .ok (.iload_n 1, 1) := by decide +kernel
theorem dX1_fetch_82 : decode cX1_fetch 82 = .ok (.iaload, 1) := by decide +kernel
theorem dX1_fetch_83 : decode cX1_fetch 83 = .ok (.aload_n 0, 1) := by decide +kernel
theorem dX1_fetch_84 : decode cX1_fetch 84 = .ok (.getfield 47, 3) := by decide +kernel
theorem dX1_fetch_87 : decode cX1_fetch 87 = .ok (.iload_n 1, 1) := by decide +kernel
theorem dX1_fetch_88 : decode cX1_fetch 88 = .ok (.iconst 5, 1) := by decide +kernel
theorem dX1_fetch_89 : decode cX1_fetch 89 = .ok (.isub, 1) := by decide +kernel
theorem dX1_fetch_90 : decode cX1_fetch 90 = .ok (.iaload, 1) := by decide +kernel
theorem dX1_fetch_91 : decode cX1_fetch 91 = .ok (.iconst 1, 1) := by decide +kernel
theorem dX1_fetch_92 : decode cX1_fetch 92 = .ok (.iadd, 1) := by decide +kernel
theorem dX1_fetch_93 : decode cX1_fetch 93 = .ok (.invokestatic 83, 3) := by decide +kernel
theorem dX1_fetch_96 : decode cX1_fetch 96 = .ok (.iastore, 1) := by decide +kernel
theorem dX1_fetch_97 : decode cX1_fetch 97 = .ok (.aload_n 0, 1) := by decide +kernel
theorem dX1_fetch_98 : decode cX1_fetch 98 = .ok (.getfield 38, 3) := by decide +kernel
theorem dX1_fetch_101 : decode cX1_fetch 101 = .ok (.iload_n 1, 1) := by decide +kernel
theorem dX1_fetch_102 : decode cX1_fetch 102 = .ok (.baload, 1) := by decide +kernel
theorem dX1_fetch_103 : decode cX1_fetch 103 = .ok (.ifCond .eq 55, 3) := by decide +kernel
theorem dX1_fetch_106 : decode cX1_fetch 106 = .ok (.aload_n 0, 1) := by decide +kernel
theorem dX1_fetch_107 : decode cX1_fetch 107 = .ok (.getfield 32, 3) := by decide +kernel
theorem dX1_fetch_110 : decode cX1_fetch 110 = .ok (.iload_n 1, 1) := by decide +kernel
theorem dX1_fetch_111 : decode cX1_fetch 111 = .ok (.iconst 1, 1) := by decide +kernel
theorem dX1_fetch_112 : decode cX1_fetch 112 = .ok (.isub, 1) := by decide +kernel
theorem dX1_fetch_113 : decode cX1_fetch 113 = .ok (.baload, 1) := by decide +kernel
theorem dX1_fetch_114 : decode cX1_fetch 114 = .ok (.ifCond .ne 16, 3) := by decide +kernel
theorem dX1_fetch_117 : decode cX1_fetch 117 = .ok (.aload_n 0, 1) := by decide +kernel
theorem dX1_fetch_118 : decode cX1_fetch 118 = .ok (.getfield 7, 3) := by decide +kernel
theorem dX1_fetch_121 : decode cX1_fetch 121 = .ok (.iload_n 1, 1) := by decide +kernel
theorem dX1_fetch_122 : decode cX1_fetch 122 = .ok (.iconst 1, 1) := by decide +kernel
theorem dX1_fetch_123 : decode cX1_fetch 123 = .ok (.isub, 1) := by decide +kernel
theorem dX1_fetch_124 : decode cX1_fetch 124 = .ok (.iaload, 1) := by decide +kernel
theorem dX1_fetch_125 : decode cX1_fetch 125 = .ok (.bipush 6, 2) := by decide +kernel
theorem dX1_fetch_127 : decode cX1_fetch 127 = .ok (.if_icmp .ne 31, 3) := by decide +kernel
theorem dX1_fetch_130 : decode cX1_fetch 130 = .ok (.aload_n 0, 1) := by decide +kernel
theorem dX1_fetch_131 : decode cX1_fetch 131 = .ok (.getfield 44, 3) := by decide +kernel
theorem dX1_fetch_134 : decode cX1_fetch 134 = .ok (.iload_n 1, 1) := by decide +kernel
theorem dX1_fetch_135 : decode cX1_fetch 135 = .ok (.aload_n 0, 1) := by decide +kernel
theorem dX1_fetch_136 : decode cX1_fetch 136 = .ok (.getfield 44, 3) := by decide +kernel
theorem dX1_fetch_139 : decode cX1_fetch 139 = .ok (.iload_n 1, 1) := by decide +kernel
theorem dX1_fetch_140 : decode cX1_fetch 140 = .ok (.iaload, 1) := by decide +kernel
theorem dX1_fetch_141 : decode cX1_fetch 141 = .ok (.aload_n 0, 1) := by decide +kernel
theorem dX1_fetch_142 : decode cX1_fetch 142 = .ok (.getfield 50, 3) := by decide +kernel
theorem dX1_fetch_145 : decode cX1_fetch 145 = .ok (.iload_n 1, 1) := by decide +kernel
theorem dX1_fetch_146 : decode cX1_fetch 146 = .ok (.iconst 1, 1) := by decide +kernel
theorem dX1_fetch_147 : decode cX1_fetch 147 = .ok (.isub, 1) := by decide +kernel
theorem dX1_fetch_148 : decode cX1_fetch 148 = .ok (.iaload, 1) := by decide +kernel
theorem dX1_fetch_149 : decode cX1_fetch 149 = .ok (.iconst 1, 1) := by decide +kernel
theorem dX1_fetch_150 : decode cX1_fetch 150 = .ok (.iadd, 1) := by decide +kernel
theorem dX1_fetch_151 : decode cX1_fetch 151 = .ok (.invokestatic 83, 3) := by decide +kernel
theorem dX1_fetch_154 : decode cX1_fetch 154 = .ok (.iastore, 1) := by decide +kernel
theorem dX1_fetch_155 : decode cX1_fetch 155 = .ok (.goto 37, 3) := by decide +kernel
theorem dX1_fetch_158 : decode cX1_fetch 158 = .ok (.aload_n 0, 1) := by decide +kernel
theorem dX1_fetch_159 : decode cX1_fetch 159 = .ok (.getfield 38, 3) := by decide +kernel
theorem dX1_fetch_162 : decode cX1_fetch 162 = .ok (.iload_n 1, 1) := by decide +kernel
theorem dX1_fetch_163 : decode cX1_fetch 163 = .ok (.baload, 1) := by decide +kernel
theorem dX1_fetch_164 : decode cX1_fetch 164 = .ok (.ifCond .eq 28, 3) := by decide +kernel
theorem dX1_fetch_167 : decode cX1_fetch 167 = .ok (.aload_n 0, 1) := by decide +kernel
theorem dX1_fetch_168 : decode cX1_fetch 168 = .ok (.getfield 44, 3) := by decide +kernel
theorem dX1_fetch_171 : decode cX1_fetch 171 = .ok (.iload_n 1, 1) := by decide +kernel
theorem dX1_fetch_172 : decode cX1_fetch 172 = .ok (.aload_n 0, 1) := by decide +kernel
theorem dX1_fetch_173 : decode cX1_fetch 173 = .ok (.getfield 44, 3) := by decide +kernel
theorem dX1_fetch_176 : decode cX1_fetch 176 = .ok (.iload_n 1, 1) := by decide +kernel
theorem dX1_fetch_177 : decode cX1_fetch 177 = .ok (.iaload, 1) := by decide +kernel
theorem dX1_fetch_178 : decode cX1_fetch 178 = .ok (.aload_n 0, 1) := by decide +kernel
theorem dX1_fetch_179 : decode cX1_fetch 179 = .ok (.getfield 47, 3) := by decide +kernel
theorem dX1_fetch_182 : decode cX1_fetch 182 = .ok (.iload_n 1, 1) := by decide +kernel
theorem dX1_fetch_183 : decode cX1_fetch 183 = .ok (.iconst 2, 1) := by decide +kernel
theorem dX1_fetch_184 : decode cX1_fetch 184 = .ok (.isub, 1) := by decide +kernel
theorem dX1_fetch_185 : decode cX1_fetch 185 = .ok (.iaload, 1) := by decide +kernel
theorem dX1_fetch_186 : decode cX1_fetch 186 = .ok (.iconst 2, 1) := by decide +kernel
theorem dX1_fetch_187 : decode cX1_fetch 187 = .ok (.iadd, 1) := by decide +kernel
theorem dX1_fetch_188 : decode cX1_fetch 188 = .ok (.invokestatic 83, 3) := by decide +kernel
theorem dX1_fetch_191 : decode cX1_fetch 191 = .ok (.iastore, 1) := by decide +kernel
theorem dX1_fetch_192 : decode cX1_fetch 192 = .ok (.return_, 1) := by decide +kernel
theorem dX1_ready_0 : decode cX1_ready 0 = .ok (.iload_n 1, 1) := by decide +kernel
theorem dX1_ready_1 : decode cX1_ready 1 = .ok (.ifCond .eq 12, 3) := by decide +kernel
theorem dX1_ready_4 : decode cX1_ready 4 = .ok (.aload_n 0, 1) := by decide +kernel
theorem dX1_ready_5 : decode cX1_ready 5 = .ok (.getfield 56, 3) := by decide +kernel
theorem dX1_ready_8 : decode cX1_ready 8 = .ok (.iload_n 1, 1) := by decide +kernel
theorem dX1_ready_9 : decode cX1_ready 9 = .ok (.iaload, 1) := by decide +kernel
theorem dX1_ready_10 : decode cX1_ready 10 = .ok (.ifCond .ge 7, 3) := by decide +kernel
theorem dX1_ready_13 : decode cX1_ready 13 = .ok (.iconst 0, 1) := by decide +kernel
theorem dX1_ready_14 : decode cX1_ready 14 = .ok (.goto 29, 3) := by decide +kernel
theorem dX1_ready_17 : decode cX1_ready 17 = .ok (.aload_n 0, 1) := by decide +kernel
theorem dX1_ready_18 : decode cX1_ready 18 = .ok (.getfield 47, 3) := by decide +kernel
theorem dX1_ready_21 : decode cX1_ready 21 = .ok (.aload_n 0, 1) := by decide +kernel
theorem dX1_ready_22 : decode cX1_ready 22 = .ok (.getfield 56, 3) := by decide +kernel
theorem dX1_ready_25 : decode cX1_ready 25 = .ok (.iload_n 1, 1) := by decide +kernel
theorem dX1_ready_26 : decode cX1_ready 26 = .ok (.iaload, 1) := by decide +kernel
theorem dX1_ready_27 : decode cX1_ready 27 = .ok (.iaload, 1) := by decide +kernel
theorem dX1_ready_28 : decode cX1_ready 28 = .ok (.aload_n 0, 1) := by decide +kernel
theorem dX1_ready_29 : decode cX1_ready 29 = .ok (.getfield 7, 3) := by decide +kernel
theorem dX1_ready_32 : decode cX1_ready 32 = .ok (.aload_n 0, 1) := by decide +kernel
theorem dX1_ready_33 : decode cX1_ready 33 = .ok (.getfield 56, 3) := by decide +kernel
theorem dX1_ready_36 : decode cX1_ready 36 = .ok (.iload_n 1, 1) := by decide +kernel
theorem dX1_ready_37 : decode cX1_ready 37 = .ok (.iaload, 1) := by decide +kernel
theorem dX1_ready_38 : decode cX1_ready 38 = .ok (.iaload, 1) := by decide +kernel
theorem dX1_ready_39 : decode cX1_ready 39 = .ok (.invokestatic 87, 3) := by decide +kernel
theorem dX1_ready_42 : decode cX1_ready 42 = .ok (.iadd, 1) := by decide +kernel
theorem dX1_ready_43 : decode cX1_ready 43 = .ok (.ireturn, 1) := by decide +kernel
theorem dX1_reckon_0 : decode cX1_reckon 0 = .ok (.iconst (-1), 1) := by decide +kernel
theorem dX1_reckon_1 : decode cX1_reckon 1 = .ok (.istore_n 1, 1) := by decide +kernel
theorem dX1_reckon_2 : decode cX1_reckon 2 = .ok (.iconst 0, 1) := by decide +kernel
theorem dX1_reckon_3 : decode cX1_reckon 3 = .ok (.istore_n 2, 1) := by decide +kernel
theorem dX1_reckon_4 : decode cX1_reckon 4 = .ok (.iload_n 2, 1) := by decide +kernel
theorem dX1_reckon_5 : decode cX1_reckon 5 = .ok (.bipush 32, 2) := by decide +kernel
theorem dX1_reckon_7 : decode cX1_reckon 7 = .ok (.if_icmp .ge 16, 3) := by decide +kernel
theorem dX1_reckon_10 : decode cX1_reckon 10 = .ok (.aload_n 0, 1) := by decide +kernel
theorem dX1_reckon_11 : decode cX1_reckon 11 = .ok (.getfield 56, 3) := by decide +kernel
theorem dX1_reckon_14 : decode cX1_reckon 14 = .ok (.iload_n 2, 1) := by decide +kernel
theorem dX1_reckon_15 : decode cX1_reckon 15 = .ok (.iconst (-1), 1) := by decide +kernel
theorem dX1_reckon_16 : decode cX1_reckon 16 = .ok (.iastore, 1) := by decide +kernel
theorem dX1_reckon_17 : decode cX1_reckon 17 = .ok (.iinc 2 1, 3) := by decide +kernel
theorem dX1_reckon_20 : decode cX1_reckon 20 = .ok (.goto (-16), 3) := by decide +kernel
theorem dX1_reckon_23 : decode cX1_reckon 23 = .ok (.iconst 0, 1) := by decide +kernel
theorem dX1_reckon_24 : decode cX1_reckon 24 = .ok (.istore_n 2, 1) := by decide +kernel
theorem dX1_reckon_25 : decode cX1_reckon 25 = .ok (.iload_n 2, 1) := by decide +kernel
theorem dX1_reckon_26 : decode cX1_reckon 26 = .ok (.aload_n 0, 1) := by decide +kernel
theorem dX1_reckon_27 : decode cX1_reckon 27 = .ok (.getfield 63, 3) := by decide +kernel
theorem dX1_reckon_30 : decode cX1_reckon 30 = .ok (.if_icmp .ge 330, 3) := by decide +kernel
theorem dX1_reckon_33 : decode cX1_reckon 33 = .ok (.aload_n 0, 1) := by decide +kernel
theorem dX1_reckon_34 : decode cX1_reckon 34 = .ok (.iload_n 2, 1) := by decide +kernel
theorem dX1_reckon_35 : decode cX1_reckon 35 = .ok (.invokevirtual 91, 3) := by decide +kernel
theorem dX1_reckon_38 : decode cX1_reckon 38 = .ok (.aload_n 0, 1) := by decide +kernel
theorem dX1_reckon_39 : decode cX1_reckon 39 = .ok (.iload_n 2, 1) := by decide +kernel
theorem dX1_reckon_40 : decode cX1_reckon 40 = .ok (.invokevirtual 95, 3) := by decide +kernel
theorem dX1_reckon_43 : decode cX1_reckon 43 = .ok (.aload_n 0, 1) := by decide +kernel
theorem dX1_reckon_44 : decode cX1_reckon 44 = .ok (.getfield 44, 3) := by decide +kernel
theorem dX1_reckon_47 : decode cX1_reckon 47 = .ok (.iload_n 2, 1) := by decide +kernel
theorem dX1_reckon_48 : decode cX1_reckon 48 = .ok (.iaload, 1) := by decide +kernel
theorem dX1_reckon_49 : decode cX1_reckon 49 = .ok (.iconst 2, 1) := by decide +kernel
theorem dX1_reckon_50 : decode cX1_reckon 50 = .ok (.iadd, 1) := by decide +kernel
theorem dX1_reckon_51 : decode cX1_reckon 51 = .ok (.aload_n 0, 1) := by decide +kernel
theorem dX1_reckon_52 : decode cX1_reckon 52 = .ok (.aload_n 0, 1) := by decide +kernel
theorem dX1_reckon_53 : decode cX1_reckon 53 = .ok (.getfield 16, 3) := by decide +kernel
theorem dX1_reckon_56 : decode cX1_reckon 56 = .ok (.iload_n 2, 1) := by decide +kernel
theorem dX1_reckon_57 : decode cX1_reckon 57 = .ok (.iaload, 1) := by decide +kernel
theorem dX1_reckon_58 : decode cX1_reckon 58 = .ok (.invokevirtual 98, 3) := by decide +kernel
theorem dX1_reckon_61 : decode cX1_reckon 61 = .ok (.invokestatic 83, 3) := by decide +kernel
theorem dX1_reckon_64 : decode cX1_reckon 64 = .ok (.aload_n 0, 1) := by decide +kernel
theorem dX1_reckon_65 : decode cX1_reckon 65 = .ok (.aload_n 0, 1) := by decide +kernel
theorem dX1_reckon_66 : decode cX1_reckon 66 = .ok (.getfield 19, 3) := by decide +kernel
theorem dX1_reckon_69 : decode cX1_reckon 69 = .ok (.iload_n 2, 1) := by decide +kernel
theorem dX1_reckon_70 : decode cX1_reckon 70 = .ok (.iaload, 1) := by decide +kernel
theorem dX1_reckon_71 : decode cX1_reckon 71 = .ok (.invokevirtual 98, 3) := by decide +kernel
theorem dX1_reckon_74 : decode cX1_reckon 74 = .ok (.invokestatic 83, 3) := by decide +kernel
theorem dX1_reckon_77 : decode cX1_reckon 77 = .ok (.istore_n 3, 1) := by decide +kernel
theorem dX1_reckon_78 : decode cX1_reckon 78 = .ok (.iload_n 2, 1) := by decide +kernel
theorem dX1_reckon_79 : decode cX1_reckon 79 = .ok (.ifCond .le 66, 3) := by decide +kernel
theorem dX1_reckon_82 : decode cX1_reckon 82 = .ok (.aload_n 0, 1) := by decide +kernel
theorem dX1_reckon_83 : decode cX1_reckon 83 = .ok (.iload_n 2, 1) := by decide +kernel
theorem dX1_reckon_84 : decode cX1_reckon 84 = .ok (.invokevirtual 101, 3) := by decide +kernel
theorem dX1_reckon_87 : decode cX1_reckon 87 = .ok (.ifCond .eq 31, 3) := by decide +kernel
theorem dX1_reckon_90 : decode cX1_reckon 90 = .ok (.iload_n 2, 1) := by decide +kernel
theorem dX1_reckon_91 : decode cX1_reckon 91 = .ok (.iconst 1, 1) := by decide +kernel
theorem dX1_reckon_92 : decode cX1_reckon 92 = .ok (.if_icmp .eq 22, 3) := by decide +kernel
theorem dX1_reckon_95 : decode cX1_reckon 95 = .ok (.aload_n 0, 1) := by decide +kernel
theorem dX1_reckon_96 : decode cX1_reckon 96 = .ok (.getfield 47, 3) := by decide +kernel
theorem dX1_reckon_99 : decode cX1_reckon 99 = .ok (.iload_n 2, 1) := by decide +kernel
theorem dX1_reckon_100 : decode cX1_reckon 100 = .ok (.iconst 2, 1) := by decide +kernel
theorem dX1_reckon_101 : decode cX1_reckon 101 = .ok (.isub, 1) := by decide +kernel
theorem dX1_reckon_102 : decode cX1_reckon 102 = .ok (.iaload, 1) := by decide +kernel
theorem dX1_reckon_103 : decode cX1_reckon 103 = .ok (.aload_n 0, 1) := by decide +kernel
theorem dX1_reckon_104 : decode cX1_reckon 104 = .ok (.getfield 47, 3) := by decide +kernel
theorem dX1_reckon_107 : decode cX1_reckon 107 = .ok (.iload_n 2, 1) := by decide +kernel
theorem dX1_reckon_108 : decode cX1_reckon 108 = .ok (.iconst 1, 1) := by decide +kernel
theorem dX1_reckon_109 : decode cX1_reckon 109 = .ok (.isub, 1) := by decide +kernel
theorem dX1_reckon_110 : decode cX1_reckon 110 = .ok (.iaload, 1) := by decide +kernel
theorem dX1_reckon_111 : decode cX1_reckon 111 = .ok (.if_icmp .ge 7, 3) := by decide +kernel
theorem dX1_reckon_114 : decode cX1_reckon 114 = .ok (.iconst 1, 1) := by decide +kernel
theorem dX1_reckon_115 : decode cX1_reckon 115 = .ok (.goto 4, 3) := by decide +kernel
theorem dX1_reckon_118 : decode cX1_reckon 118 = .ok (.iconst 0, 1) := by decide +kernel
theorem dX1_reckon_119 : decode cX1_reckon 119 = .ok (.istore 4, 2) := by decide +kernel
theorem dX1_reckon_121 : decode cX1_reckon 121 = .ok (.iload_n 3, 1) := by decide +kernel
theorem dX1_reckon_122 : decode cX1_reckon 122 = .ok (.aload_n 0, 1) := by decide +kernel
theorem dX1_reckon_123 : decode cX1_reckon 123 = .ok (.getfield 47, 3) := by decide +kernel
theorem dX1_reckon_126 : decode cX1_reckon 126 = .ok (.iload_n 2, 1) := by decide +kernel
theorem dX1_reckon_127 : decode cX1_reckon 127 = .ok (.iconst 1, 1) := by decide +kernel
theorem dX1_reckon_128 : decode cX1_reckon 128 = .ok (.isub, 1) := by decide +kernel
theorem dX1_reckon_129 : decode cX1_reckon 129 = .ok (.iaload, 1) := by decide +kernel
theorem dX1_reckon_130 : decode cX1_reckon 130 = .ok (.iload 4, 2) := by decide +kernel
theorem dX1_reckon_132 : decode cX1_reckon 132 = .ok (.ifCond .eq 7, 3) := by decide +kernel
theorem dX1_reckon_135 : decode cX1_reckon 135 = .ok (.iconst 0, 1) := by decide +kernel
theorem dX1_reckon_136 : decode cX1_reckon 136 = .ok (.goto 4, 3) := by decide +kernel
theorem dX1_reckon_139 : decode cX1_reckon 139 = .ok (.iconst 1, 1) := by decide +kernel
theorem dX1_reckon_140 : decode cX1_reckon 140 = .ok (.iadd, 1) := by decide +kernel
theorem dX1_reckon_141 : decode cX1_reckon 141 = .ok (.invokestatic 83, 3) := by decide +kernel
theorem dX1_reckon_144 : decode cX1_reckon 144 = .ok (.istore_n 3, 1) := by decide +kernel
theorem dX1_reckon_145 : decode cX1_reckon 145 = .ok (.aload_n 0, 1) := by decide +kernel
theorem dX1_reckon_146 : decode cX1_reckon 146 = .ok (.getfield 7, 3) := by decide +kernel
theorem dX1_reckon_149 : decode cX1_reckon 149 = .ok (.iload_n 2, 1) := by decide +kernel
theorem dX1_reckon_150 : decode cX1_reckon 150 = .ok (.iaload, 1) := by decide +kernel
theorem dX1_reckon_151 : decode cX1_reckon 151 = .ok (.iconst 4, 1) := by decide +kernel
theorem dX1_reckon_152 : decode cX1_reckon 152 = .ok (.if_icmp .ne 27, 3) := by decide +kernel
theorem dX1_reckon_155 : decode cX1_reckon 155 = .ok (.iload_n 1, 1) := by decide +kernel
theorem dX1_reckon_156 : decode cX1_reckon 156 = .ok (.ifCond .ge 7, 3) := by decide +kernel
theorem dX1_reckon_159 : decode cX1_reckon 159 = .ok (.iload_n 3, 1) := by decide +kernel
theorem dX1_reckon_160 : decode cX1_reckon 160 = .ok (.goto 16, 3) := by decide +kernel
theorem dX1_reckon_163 : decode cX1_reckon 163 = .ok (.iload_n 3, 1) := by decide +kernel
theorem dX1_reckon_164 : decode cX1_reckon 164 = .ok (.aload_n 0, 1) := by decide +kernel
theorem dX1_reckon_165 : decode cX1_reckon 165 = .ok (.getfield 47, 3) := by decide +kernel
theorem dX1_reckon_168 : decode cX1_reckon 168 = .ok (.iload_n 1, 1) := by decide +kernel
theorem dX1_reckon_169 : decode cX1_reckon 169 = .ok (.iaload, 1) := by decide +kernel
theorem dX1_reckon_170 : decode cX1_reckon 170 = .ok (.bipush 18, 2) := by decide +kernel
theorem dX1_reckon_172 : decode cX1_reckon 172 = .ok (.iadd, 1) := by decide +kernel
theorem dX1_reckon_173 : decode cX1_reckon 173 = .ok (.invokestatic 83, 3) := by decide +kernel
theorem dX1_reckon_176 : decode cX1_reckon 176 = .ok (.istore_n 3, 1) := by decide +kernel
theorem dX1_reckon_177 : decode cX1_reckon 177 = .ok (.iload_n 2, 1) := by decide +kernel
theorem dX1_reckon_178 : decode cX1_reckon 178 = .ok (.istore_n 1, 1) := by decide +kernel
theorem dX1_reckon_179 : decode cX1_reckon 179 = .ok (.aload_n 0, 1) := by decide +kernel
theorem dX1_reckon_180 : decode cX1_reckon 180 = .ok (.getfield 7, 3) := by decide +kernel
theorem dX1_reckon_183 : decode cX1_reckon 183 = .ok (.iload_n 2, 1) := by decide +kernel
theorem dX1_reckon_184 : decode cX1_reckon 184 = .ok (.iaload, 1) := by decide +kernel
theorem dX1_reckon_185 : decode cX1_reckon 185 = .ok (.bipush 6, 2) := by decide +kernel
theorem dX1_reckon_187 : decode cX1_reckon 187 = .ok (.if_icmp .ne 24, 3) := by decide +kernel
theorem dX1_reckon_190 : decode cX1_reckon 190 = .ok (.iload_n 2, 1) := by decide +kernel
theorem dX1_reckon_191 : decode cX1_reckon 191 = .ok (.ifCond .le 20, 3) := by decide +kernel
theorem dX1_reckon_194 : decode cX1_reckon 194 = .ok (.iload_n 3, 1) := by decide +kernel
theorem dX1_reckon_195 : decode cX1_reckon 195 = .ok (.aload_n 0, 1) := by decide +kernel
theorem dX1_reckon_196 : decode cX1_reckon 196 = .ok (.getfield 50, 3) := by decide +kernel
theorem dX1_reckon_199 : decode cX1_reckon 199 = .ok (.iload_n 2, 1) := by decide +kernel
theorem dX1_reckon_200 : decode cX1_reckon 200 = .ok (.iconst 1, 1) := by decide +kernel
theorem dX1_reckon_201 : decode cX1_reckon 201 = .ok (.isub, 1) := by decide +kernel
theorem dX1_reckon_202 : decode cX1_reckon 202 = .ok (.iaload, 1) := by decide +kernel
theorem dX1_reckon_203 : decode cX1_reckon 203 = .ok (.iconst 1, 1) := by decide +kernel
