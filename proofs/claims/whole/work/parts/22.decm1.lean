theorem dX1_again_84 : decode cX1_again 84 = .ok (.invokevirtual 70, 3) := by decide +kernel
theorem dX1_again_87 : decode cX1_again 87 = .ok (.istore 4, 2) := by decide +kernel
theorem dX1_again_89 : decode cX1_again 89 = .ok (.aload_n 0, 1) := by decide +kernel
theorem dX1_again_90 : decode cX1_again 90 = .ok (.getfield 29, 3) := by decide +kernel
theorem dX1_again_93 : decode cX1_again 93 = .ok (.iload 4, 2) := by decide +kernel
theorem dX1_again_95 : decode cX1_again 95 = .ok (.aload_n 0, 1) := by decide +kernel
theorem dX1_again_96 : decode cX1_again 96 = .ok (.getfield 29, 3) := by decide +kernel
theorem dX1_again_99 : decode cX1_again 99 = .ok (.iload_n 3, 1) := by decide +kernel
theorem dX1_again_100 : decode cX1_again 100 = .ok (.baload, 1) := by decide +kernel
theorem dX1_again_101 : decode cX1_again 101 = .ok (.bastore, 1) := by decide +kernel
theorem dX1_again_102 : decode cX1_again 102 = .ok (.iinc 3 1, 3) := by decide +kernel
theorem dX1_again_105 : decode cX1_again 105 = .ok (.goto (-65), 3) := by decide +kernel
theorem dX1_again_108 : decode cX1_again 108 = .ok (.aload_n 0, 1) := by decide +kernel
theorem dX1_again_109 : decode cX1_again 109 = .ok (.getfield 63, 3) := by decide +kernel
theorem dX1_again_112 : decode cX1_again 112 = .ok (.ireturn, 1) := by decide +kernel
theorem dX1_stand_0 : decode cX1_stand 0 = .ok (.aload_n 0, 1) := by decide +kernel
theorem dX1_stand_1 : decode cX1_stand 1 = .ok (.getfield 35, 3) := by decide +kernel
theorem dX1_stand_4 : decode cX1_stand 4 = .ok (.iload_n 1, 1) := by decide +kernel
theorem dX1_stand_5 : decode cX1_stand 5 = .ok (.iload_n 1, 1) := by decide +kernel
theorem dX1_stand_6 : decode cX1_stand 6 = .ok (.ifCond .le 30, 3) := by decide +kernel
theorem dX1_stand_9 : decode cX1_stand 9 = .ok (.aload_n 0, 1) := by decide +kernel
theorem dX1_stand_10 : decode cX1_stand 10 = .ok (.getfield 7, 3) := by decide +kernel
theorem dX1_stand_13 : decode cX1_stand 13 = .ok (.iload_n 1, 1) := by decide +kernel
theorem dX1_stand_14 : decode cX1_stand 14 = .ok (.iconst 1, 1) := by decide +kernel
theorem dX1_stand_15 : decode cX1_stand 15 = .ok (.isub, 1) := by decide +kernel
theorem dX1_stand_16 : decode cX1_stand 16 = .ok (.iaload, 1) := by decide +kernel
theorem dX1_stand_17 : decode cX1_stand 17 = .ok (.iconst 5, 1) := by decide +kernel
theorem dX1_stand_18 : decode cX1_stand 18 = .ok (.if_icmp .ne 18, 3) := by decide +kernel
theorem dX1_stand_21 : decode cX1_stand 21 = .ok (.aload_n 0, 1) := by decide +kernel
theorem dX1_stand_22 : decode cX1_stand 22 = .ok (.getfield 32, 3) := by decide +kernel
theorem dX1_stand_25 : decode cX1_stand 25 = .ok (.iload_n 1, 1) := by decide +kernel
theorem dX1_stand_26 : decode cX1_stand 26 = .ok (.iconst 1, 1) := by decide +kernel
theorem dX1_stand_27 : decode cX1_stand 27 = .ok (.isub, 1) := by decide +kernel
theorem dX1_stand_28 : decode cX1_stand 28 = .ok (.baload, 1) := by decide +kernel
theorem dX1_stand_29 : decode cX1_stand 29 = .ok (.ifCond .ne 7, 3) := by decide +kernel
theorem dX1_stand_32 : decode cX1_stand 32 = .ok (.iconst 1, 1) := by decide +kernel
theorem dX1_stand_33 : decode cX1_stand 33 = .ok (.goto 4, 3) := by decide +kernel
theorem dX1_stand_36 : decode cX1_stand 36 = .ok (.iconst 0, 1) := by decide +kernel
theorem dX1_stand_37 : decode cX1_stand 37 = .ok (.bastore, 1) := by decide +kernel
theorem dX1_stand_38 : decode cX1_stand 38 = .ok (.aload_n 0, 1) := by decide +kernel
theorem dX1_stand_39 : decode cX1_stand 39 = .ok (.getfield 32, 3) := by decide +kernel
theorem dX1_stand_42 : decode cX1_stand 42 = .ok (.iload_n 1, 1) := by decide +kernel
theorem dX1_stand_43 : decode cX1_stand 43 = .ok (.aload_n 0, 1) := by decide +kernel
theorem dX1_stand_44 : decode cX1_stand 44 = .ok (.getfield 29, 3) := by decide +kernel
theorem dX1_stand_47 : decode cX1_stand 47 = .ok (.iload_n 1, 1) := by decide +kernel
theorem dX1_stand_48 : decode cX1_stand 48 = .ok (.baload, 1) := by decide +kernel
theorem dX1_stand_49 : decode cX1_stand 49 = .ok (.ifCond .ne 33, 3) := by decide +kernel
theorem dX1_stand_52 : decode cX1_stand 52 = .ok (.aload_n 0, 1) := by decide +kernel
theorem dX1_stand_53 : decode cX1_stand 53 = .ok (.getfield 7, 3) := by decide +kernel
theorem dX1_stand_56 : decode cX1_stand 56 = .ok (.iload_n 1, 1) := by decide +kernel
theorem dX1_stand_57 : decode cX1_stand 57 = .ok (.iaload, 1) := by decide +kernel
theorem dX1_stand_58 : decode cX1_stand 58 = .ok (.bipush 7, 2) := by decide +kernel
theorem dX1_stand_60 : decode cX1_stand 60 = .ok (.if_icmp .eq 22, 3) := by decide +kernel
theorem dX1_stand_63 : decode cX1_stand 63 = .ok (.aload_n 0, 1) := by decide +kernel
theorem dX1_stand_64 : decode cX1_stand 64 = .ok (.getfield 7, 3) := by decide +kernel
theorem dX1_stand_67 : decode cX1_stand 67 = .ok (.iload_n 1, 1) := by decide +kernel
theorem dX1_stand_68 : decode cX1_stand 68 = .ok (.iaload, 1) := by decide +kernel
theorem dX1_stand_69 : decode cX1_stand 69 = .ok (.iconst 5, 1) := by decide +kernel
theorem dX1_stand_70 : decode cX1_stand 70 = .ok (.if_icmp .ne 16, 3) := by decide +kernel
theorem dX1_stand_73 : decode cX1_stand 73 = .ok (.aload_n 0, 1) := by decide +kernel
theorem dX1_stand_74 : decode cX1_stand 74 = .ok (.getfield 35, 3) := by decide +kernel
theorem dX1_stand_77 : decode cX1_stand 77 = .ok (.iload_n 1, 1) := by decide +kernel
theorem dX1_stand_78 : decode cX1_stand 78 = .ok (.baload, 1) := by decide +kernel
theorem dX1_stand_79 : decode cX1_stand 79 = .ok (.ifCond .eq 7, 3) := by decide +kernel
theorem dX1_stand_82 : decode cX1_stand 82 = .ok (.iconst 1, 1) := by decide +kernel
theorem dX1_stand_83 : decode cX1_stand 83 = .ok (.goto 4, 3) := by decide +kernel
theorem dX1_stand_86 : decode cX1_stand 86 = .ok (.iconst 0, 1) := by decide +kernel
theorem dX1_stand_87 : decode cX1_stand 87 = .ok (.bastore, 1) := by decide +kernel
theorem dX1_stand_88 : decode cX1_stand 88 = .ok (.iload_n 1, 1) := by decide +kernel
theorem dX1_stand_89 : decode cX1_stand 89 = .ok (.iconst 1, 1) := by decide +kernel
theorem dX1_stand_90 : decode cX1_stand 90 = .ok (.if_icmp .le 18, 3) := by decide +kernel
theorem dX1_stand_93 : decode cX1_stand 93 = .ok (.aload_n 0, 1) := by decide +kernel
theorem dX1_stand_94 : decode cX1_stand 94 = .ok (.getfield 35, 3) := by decide +kernel
theorem dX1_stand_97 : decode cX1_stand 97 = .ok (.iload_n 1, 1) := by decide +kernel
theorem dX1_stand_98 : decode cX1_stand 98 = .ok (.iconst 1, 1) := by decide +kernel
theorem dX1_stand_99 : decode cX1_stand 99 = .ok (.isub, 1) := by decide +kernel
theorem dX1_stand_100 : decode cX1_stand 100 = .ok (.baload, 1) := by decide +kernel
theorem dX1_stand_101 : decode cX1_stand 101 = .ok (.ifCond .eq 7, 3) := by decide +kernel
theorem dX1_stand_104 : decode cX1_stand 104 = .ok (.iconst 1, 1) := by decide +kernel
theorem dX1_stand_105 : decode cX1_stand 105 = .ok (.goto 4, 3) := by decide +kernel
theorem dX1_stand_108 : decode cX1_stand 108 = .ok (.iconst 0, 1) := by decide +kernel
theorem dX1_stand_109 : decode cX1_stand 109 = .ok (.istore_n 2, 1) := by decide +kernel
theorem dX1_stand_110 : decode cX1_stand 110 = .ok (.iload_n 1, 1) := by decide +kernel
theorem dX1_stand_111 : decode cX1_stand 111 = .ok (.iconst 1, 1) := by decide +kernel
theorem dX1_stand_112 : decode cX1_stand 112 = .ok (.if_icmp .le 9, 3) := by decide +kernel
theorem dX1_stand_115 : decode cX1_stand 115 = .ok (.iload_n 1, 1) := by decide +kernel
theorem dX1_stand_116 : decode cX1_stand 116 = .ok (.iconst 2, 1) := by decide +kernel
theorem dX1_stand_117 : decode cX1_stand 117 = .ok (.isub, 1) := by decide +kernel
theorem dX1_stand_118 : decode cX1_stand 118 = .ok (.goto 4, 3) := by decide +kernel
theorem dX1_stand_121 : decode cX1_stand 121 = .ok (.iconst 0, 1) := by decide +kernel
theorem dX1_stand_122 : decode cX1_stand 122 = .ok (.istore_n 3, 1) := by decide +kernel
theorem dX1_stand_123 : decode cX1_stand 123 = .ok (.aload_n 0, 1) := by decide +kernel
theorem dX1_stand_124 : decode cX1_stand 124 = .ok (.getfield 41, 3) := by decide +kernel
theorem dX1_stand_127 : decode cX1_stand 127 = .ok (.iload_n 1, 1) := by decide +kernel
theorem dX1_stand_128 : decode cX1_stand 128 = .ok (.iload_n 1, 1) := by decide +kernel
theorem dX1_stand_129 : decode cX1_stand 129 = .ok (.ifCond .le 31, 3) := by decide +kernel
theorem dX1_stand_132 : decode cX1_stand 132 = .ok (.aload_n 0, 1) := by decide +kernel
theorem dX1_stand_133 : decode cX1_stand 133 = .ok (.getfield 32, 3) := by decide +kernel
theorem dX1_stand_136 : decode cX1_stand 136 = .ok (.iload_n 1, 1) := by decide +kernel
theorem dX1_stand_137 : decode cX1_stand 137 = .ok (.iconst 1, 1) := by decide +kernel
theorem dX1_stand_138 : decode cX1_stand 138 = .ok (.isub, 1) := by decide +kernel
theorem dX1_stand_139 : decode cX1_stand 139 = .ok (.baload, 1) := by decide +kernel
theorem dX1_stand_140 : decode cX1_stand 140 = .ok (.ifCond .ne 20, 3) := by decide +kernel
theorem dX1_stand_143 : decode cX1_stand 143 = .ok (.iload_n 2, 1) := by decide +kernel
theorem dX1_stand_144 : decode cX1_stand 144 = .ok (.ifCond .eq 12, 3) := by decide +kernel
theorem dX1_stand_147 : decode cX1_stand 147 = .ok (.aload_n 0, 1) := by decide +kernel
theorem dX1_stand_148 : decode cX1_stand 148 = .ok (.getfield 25, 3) := by decide +kernel
theorem dX1_stand_151 : decode cX1_stand 151 = .ok (.iload_n 3, 1) := by decide +kernel
theorem dX1_stand_152 : decode cX1_stand 152 = .ok (.baload, 1) := by decide +kernel
theorem dX1_stand_153 : decode cX1_stand 153 = .ok (.ifCond .ne 7, 3) := by decide +kernel
theorem dX1_stand_156 : decode cX1_stand 156 = .ok (.iconst 1, 1) := by decide +kernel
theorem dX1_stand_157 : decode cX1_stand 157 = .ok (.goto 4, 3) := by decide +kernel
theorem dX1_stand_160 : decode cX1_stand 160 = .ok (.iconst 0, 1) := by decide +kernel
theorem dX1_stand_161 : decode cX1_stand 161 = .ok (.bastore, 1) := by decide +kernel
theorem dX1_stand_162 : decode cX1_stand 162 = .ok (.iload_n 2, 1) := by decide +kernel
theorem dX1_stand_163 : decode cX1_stand 163 = .ok (.ifCond .eq 40, 3) := by decide +kernel
theorem dX1_stand_166 : decode cX1_stand 166 = .ok (.aload_n 0, 1) := by decide +kernel
theorem dX1_stand_167 : decode cX1_stand 167 = .ok (.getfield 22, 3) := by decide +kernel
theorem dX1_stand_170 : decode cX1_stand 170 = .ok (.iload_n 3, 1) := by decide +kernel
theorem dX1_stand_171 : decode cX1_stand 171 = .ok (.iaload, 1) := by decide +kernel
theorem dX1_stand_172 : decode cX1_stand 172 = .ok (.ifCond .eq 27, 3) := by decide +kernel
theorem dX1_stand_175 : decode cX1_stand 175 = .ok (.aload_n 0, 1) := by decide +kernel
theorem dX1_stand_176 : decode cX1_stand 176 = .ok (.getfield 22, 3) := by decide +kernel
theorem dX1_stand_179 : decode cX1_stand 179 = .ok (.iload_n 3, 1) := by decide +kernel
theorem dX1_stand_180 : decode cX1_stand 180 = .ok (.iaload, 1) := by decide +kernel
theorem dX1_stand_181 : decode cX1_stand 181 = .ok (.iconst 1, 1) := by decide +kernel
theorem dX1_stand_182 : decode cX1_stand 182 = .ok (.if_icmp .ne 7, 3) := by decide +kernel
theorem dX1_stand_185 : decode cX1_stand 185 = .ok (.iconst 1, 1) := by decide +kernel
theorem dX1_stand_186 : decode cX1_stand 186 = .ok (.goto 4, 3) := by decide +kernel
theorem dX1_stand_189 : decode cX1_stand 189 = .ok (.iconst 0, 1) := by decide +kernel
theorem dX1_stand_190 : decode cX1_stand 190 = .ok (.aload_n 0, 1) := by decide +kernel
theorem dX1_stand_191 : decode cX1_stand 191 = .ok (.getfield 25, 3) := by decide +kernel
theorem dX1_stand_194 : decode cX1_stand 194 = .ok (.iload_n 3, 1) := by decide +kernel
theorem dX1_stand_195 : decode cX1_stand 195 = .ok (.baload, 1) := by decide +kernel
theorem dX1_stand_196 : decode cX1_stand 196 = .ok (.if_icmp .eq 7, 3) := by decide +kernel
theorem dX1_stand_199 : decode cX1_stand 199 = .ok (.iconst 1, 1) := by decide +kernel
theorem dX1_stand_200 : decode cX1_stand 200 = .ok (.goto 4, 3) := by decide +kernel
theorem dX1_stand_203 : decode cX1_stand 203 = .ok (.iconst 0, 1) := by decide +kernel
theorem dX1_stand_204 : decode cX1_stand 204 = .ok (.istore 4, 2) := by decide +kernel
theorem dX1_stand_206 : decode cX1_stand 206 = .ok (.aload_n 0, 1) := by decide +kernel
theorem dX1_stand_207 : decode cX1_stand 207 = .ok (.getfield 38, 3) := by decide +kernel
theorem dX1_stand_210 : decode cX1_stand 210 = .ok (.iload_n 1, 1) := by decide +kernel
theorem dX1_stand_211 : decode cX1_stand 211 = .ok (.iload_n 1, 1) := by decide +kernel
theorem dX1_stand_212 : decode cX1_stand 212 = .ok (.ifCond .le 36, 3) := by decide +kernel
theorem dX1_stand_215 : decode cX1_stand 215 = .ok (.aload_n 0, 1) := by decide +kernel
theorem dX1_stand_216 : decode cX1_stand 216 = .ok (.getfield 32, 3) := by decide +kernel
theorem dX1_stand_219 : decode cX1_stand 219 = .ok (.iload_n 1, 1) := by decide +kernel
theorem dX1_stand_220 : decode cX1_stand 220 = .ok (.iconst 1, 1) := by decide +kernel
theorem dX1_stand_221 : decode cX1_stand 221 = .ok (.isub, 1) := by decide +kernel
theorem dX1_stand_222 : decode cX1_stand 222 = .ok (.baload, 1) := by decide +kernel
theorem dX1_stand_223 : decode cX1_stand 223 = .ok (.ifCond .ne 21, 3) := by decide +kernel
theorem dX1_stand_226 : decode cX1_stand 226 = .ok (.aload_n 0, 1) := by decide +kernel
theorem dX1_stand_227 : decode cX1_stand 227 = .ok (.getfield 7, 3) := by decide +kernel
theorem dX1_stand_230 : decode cX1_stand 230 = .ok (.iload_n 1, 1) := by decide +kernel
theorem dX1_stand_231 : decode cX1_stand 231 = .ok (.iconst 1, 1) := by decide +kernel
theorem dX1_stand_232 : decode cX1_stand 232 = .ok (.isub, 1) := by decide +kernel
theorem dX1_stand_233 : decode cX1_stand 233 = .ok (.iaload, 1) := by decide +kernel
theorem dX1_stand_234 : decode cX1_stand 234 = .ok (.bipush 6, 2) := by decide +kernel
theorem dX1_stand_236 : decode cX1_stand 236 = .ok (.if_icmp .eq 8, 3) := by decide +kernel
theorem dX1_stand_239 : decode cX1_stand 239 = .ok (.iload 4, 2) := by decide +kernel
theorem dX1_stand_241 : decode cX1_stand 241 = .ok (.ifCond .eq 7, 3) := by decide +kernel
theorem dX1_stand_244 : decode cX1_stand 244 = .ok (.iconst 1, 1) := by decide +kernel
theorem dX1_stand_245 : decode cX1_stand 245 = .ok (.goto 4, 3) := by decide +kernel
theorem dX1_stand_248 : decode cX1_stand 248 = .ok (.iconst 0, 1) := by decide +kernel
theorem dX1_stand_249 : decode cX1_stand 249 = .ok (.bastore, 1) := by decide +kernel
theorem dX1_stand_250 : decode cX1_stand 250 = .ok (.return_, 1) := by decide +kernel
theorem dX1_later_0 : decode cX1_later 0 = .ok (.iload_n 0, 1) := by decide +kernel
theorem dX1_later_1 : decode cX1_later 1 = .ok (.iload_n 1, 1) := by decide +kernel
theorem dX1_later_2 : decode cX1_later 2 = .ok (.if_icmp .le 7, 3) := by decide +kernel
theorem dX1_later_5 : decode cX1_later 5 = .ok (.iload_n 0, 1) := by decide +kernel
theorem dX1_later_6 : decode cX1_later 6 = .ok (.goto 4, 3) := by decide +kernel
theorem dX1_later_9 : decode cX1_later 9 = .ok (.iload_n 1, 1) := by decide +kernel
theorem dX1_later_10 : decode cX1_later 10 = .ok (.ireturn, 1) := by decide +kernel
theorem dX1_delay_0 : decode cX1_delay 0 = .ok (.iload_n 0, 1) := by decide +kernel
theorem dX1_delay_1 : decode cX1_delay 1 = .ok (.iconst 1, 1) := by decide +kernel
theorem dX1_delay_2 : decode cX1_delay 2 = .ok (.if_icmp .ne 7, 3) := by decide +kernel
theorem dX1_delay_5 : decode cX1_delay 5 = .ok (.iconst 2, 1) := by decide +kernel
theorem dX1_delay_6 : decode cX1_delay 6 = .ok (.goto 23, 3) := by decide +kernel
theorem dX1_delay_9 : decode cX1_delay 9 = .ok (.iload_n 0, 1) := by decide +kernel
theorem dX1_delay_10 : decode cX1_delay 10 = .ok (.iconst 3, 1) := by decide +kernel
theorem dX1_delay_11 : decode cX1_delay 11 = .ok (.if_icmp .ne 7, 3) := by decide +kernel
theorem dX1_delay_14 : decode cX1_delay 14 = .ok (.iconst 3, 1) := by decide +kernel
theorem dX1_delay_15 : decode cX1_delay 15 = .ok (.goto 14, 3) := by decide +kernel
theorem dX1_delay_18 : decode cX1_delay 18 = .ok (.iload_n 0, 1) := by decide +kernel
theorem dX1_delay_19 : decode cX1_delay 19 = .ok (.iconst 4, 1) := by decide +kernel
theorem dX1_delay_20 : decode cX1_delay 20 = .ok (.if_icmp .ne 8, 3) := by decide +kernel
theorem dX1_delay_23 : decode cX1_delay 23 = .ok (.bipush 18, 2) := by decide +kernel
theorem dX1_delay_25 : decode cX1_delay 25 = .ok (.goto 4, 3) := by decide +kernel
theorem dX1_delay_28 : decode cX1_delay 28 = .ok (.iconst 1, 1) := by decide +kernel
theorem dX1_delay_29 : decode cX1_delay 29 = .ok (.ireturn, 1) := by decide +kernel
theorem dX1_isMemory_0 : decode cX1_isMemory 0 = .ok (.iload_n 0, 1) := by decide +kernel
theorem dX1_isMemory_1 : decode cX1_isMemory 1 = .ok (.iconst 1, 1) := by decide +kernel
theorem dX1_isMemory_2 : decode cX1_isMemory 2 = .ok (.if_icmp .eq 8, 3) := by decide +kernel
theorem dX1_isMemory_5 : decode cX1_isMemory 5 = .ok (.iload_n 0, 1) := by decide +kernel
theorem dX1_isMemory_6 : decode cX1_isMemory 6 = .ok (.iconst 2, 1) := by decide +kernel
theorem dX1_isMemory_7 : decode cX1_isMemory 7 = .ok (.if_icmp .ne 7, 3) := by decide +kernel
theorem dX1_isMemory_10 : decode cX1_isMemory 10 = .ok (.iconst 1, 1) := by decide +kernel
theorem dX1_isMemory_11 : decode cX1_isMemory 11 = .ok (.goto 4, 3) := by decide +kernel
theorem dX1_isMemory_14 : decode cX1_isMemory 14 = .ok (.iconst 0, 1) := by decide +kernel
theorem dX1_isMemory_15 : decode cX1_isMemory 15 = .ok (.ireturn, 1) := by decide +kernel
theorem dX1_isSlow_0 : decode cX1_isSlow 0 = .ok (.iload_n 0, 1) := by decide +kernel
theorem dX1_isSlow_1 : decode cX1_isSlow 1 = .ok (.iconst 3, 1) := by decide +kernel
theorem dX1_isSlow_2 : decode cX1_isSlow 2 = .ok (.if_icmp .eq 8, 3) := by decide +kernel
theorem dX1_isSlow_5 : decode cX1_isSlow 5 = .ok (.iload_n 0, 1) := by decide +kernel
theorem dX1_isSlow_6 : decode cX1_isSlow 6 = .ok (.iconst 4, 1) := by decide +kernel
theorem dX1_isSlow_7 : decode cX1_isSlow 7 = .ok (.if_icmp .ne 7, 3) := by decide +kernel
theorem dX1_isSlow_10 : decode cX1_isSlow 10 = .ok (.iconst 1, 1) := by decide +kernel
theorem dX1_isSlow_11 : decode cX1_isSlow 11 = .ok (.goto 4, 3) := by decide +kernel
theorem dX1_isSlow_14 : decode cX1_isSlow 14 = .ok (.iconst 0, 1) := by decide +kernel
theorem dX1_isSlow_15 : decode cX1_isSlow 15 = .ok (.ireturn, 1) := by decide +kernel
theorem dX1_pairs_0 : decode cX1_pairs 0 = .ok (.aload_n 0, 1) := by decide +kernel
theorem dX1_pairs_1 : decode cX1_pairs 1 = .ok (.getfield 7, 3) := by decide +kernel
theorem dX1_pairs_4 : decode cX1_pairs 4 = .ok (.iload_n 1, 1) := by decide +kernel
theorem dX1_pairs_5 : decode cX1_pairs 5 = .ok (.iconst 1, 1) := by decide +kernel
theorem dX1_pairs_6 : decode cX1_pairs 6 = .ok (.isub, 1) := by decide +kernel
theorem dX1_pairs_7 : decode cX1_pairs 7 = .ok (.iaload, 1) := by decide +kernel
theorem dX1_pairs_8 : decode cX1_pairs 8 = .ok (.istore_n 2, 1) := by decide +kernel
theorem dX1_pairs_9 : decode cX1_pairs 9 = .ok (.aload_n 0, 1) := by decide +kernel
theorem dX1_pairs_10 : decode cX1_pairs 10 = .ok (.getfield 7, 3) := by decide +kernel
theorem dX1_pairs_13 : decode cX1_pairs 13 = .ok (.iload_n 1, 1) := by decide +kernel
theorem dX1_pairs_14 : decode cX1_pairs 14 = .ok (.iaload, 1) := by decide +kernel
theorem dX1_pairs_15 : decode cX1_pairs 15 = .ok (.istore_n 3, 1) := by decide +kernel
theorem dX1_pairs_16 : decode cX1_pairs 16 = .ok (.aload_n 0, 1) := by decide +kernel
theorem dX1_pairs_17 : decode cX1_pairs 17 = .ok (.getfield 13, 3) := by decide +kernel
theorem dX1_pairs_20 : decode cX1_pairs 20 = .ok (.iload_n 1, 1) := by decide +kernel
theorem dX1_pairs_21 : decode cX1_pairs 21 = .ok (.iconst 1, 1) := by decide +kernel
theorem dX1_pairs_22 : decode cX1_pairs 22 = .ok (.isub, 1) := by decide +kernel
theorem dX1_pairs_23 : decode cX1_pairs 23 = .ok (.iaload, 1) := by decide +kernel
theorem dX1_pairs_24 : decode cX1_pairs 24 = .ok (.ifCond .le 41, 3) := by decide +kernel
theorem dX1_pairs_27 : decode cX1_pairs 27 = .ok (.aload_n 0, 1) := by decide +kernel
theorem dX1_pairs_28 : decode cX1_pairs 28 = .ok (.getfield 16, 3) := by decide +kernel
theorem dX1_pairs_31 : decode cX1_pairs 31 = .ok (.iload_n 1, 1) := by decide +kernel
theorem dX1_pairs_32 : decode cX1_pairs 32 = .ok (.iaload, 1) := by decide +kernel
theorem dX1_pairs_33 : decode cX1_pairs 33 = .ok (.aload_n 0, 1) := by decide +kernel
theorem dX1_pairs_34 : decode cX1_pairs 34 = .ok (.getfield 13, 3) := by decide +kernel
theorem dX1_pairs_37 : decode cX1_pairs 37 = .ok (.iload_n 1, 1) := by decide +kernel
theorem dX1_pairs_38 : decode cX1_pairs 38 = .ok (.iconst 1, 1) := by decide +kernel
theorem dX1_pairs_39 : decode cX1_pairs 39 = .ok (.isub, 1) := by decide +kernel
theorem dX1_pairs_40 : decode cX1_pairs 40 = .ok (.iaload, 1) := by decide +kernel
theorem dX1_pairs_41 : decode cX1_pairs 41 = .ok (.if_icmp .eq 20, 3) := by decide +kernel
theorem dX1_pairs_44 : decode cX1_pairs 44 = .ok (.aload_n 0, 1) := by decide +kernel
theorem dX1_pairs_45 : decode cX1_pairs 45 = .ok (.getfield 19, 3) := by decide +kernel
theorem dX1_pairs_48 : decode cX1_pairs 48 = .ok (.iload_n 1, 1) := by decide +kernel
theorem dX1_pairs_49 : decode cX1_pairs 49 = .ok (.iaload, 1) := by decide +kernel
theorem dX1_pairs_50 : decode cX1_pairs 50 = .ok (.aload_n 0, 1) := by decide +kernel
theorem dX1_pairs_51 : decode cX1_pairs 51 = .ok (.getfield 13, 3) := by decide +kernel
theorem dX1_pairs_54 : decode cX1_pairs 54 = .ok (.iload_n 1, 1) := by decide +kernel
theorem dX1_pairs_55 : decode cX1_pairs 55 = .ok (.iconst 1, 1) := by decide +kernel
theorem dX1_pairs_56 : decode cX1_pairs 56 = .ok (.isub, 1) := by decide +kernel
theorem dX1_pairs_57 : decode cX1_pairs 57 = .ok (.iaload, 1) := by decide +kernel
theorem dX1_pairs_58 : decode cX1_pairs 58 = .ok (.if_icmp .ne 7, 3) := by decide +kernel
theorem dX1_pairs_61 : decode cX1_pairs 61 = .ok (.iconst 1, 1) := by decide +kernel
theorem dX1_pairs_62 : decode cX1_pairs 62 = .ok (.goto 4, 3) := by decide +kernel
theorem dX1_pairs_65 : decode cX1_pairs 65 = .ok (.iconst 0, 1) := by decide +kernel
theorem dX1_pairs_66 : decode cX1_pairs 66 = .ok (.istore 4, 2) := by decide +kernel
theorem dX1_pairs_68 : decode cX1_pairs 68 = .ok (.iload_n 2, 1) := by decide +kernel
theorem dX1_pairs_69 : decode cX1_pairs 69 = .ok (.bipush 6, 2) := by decide +kernel
theorem dX1_pairs_71 : decode cX1_pairs 71 = .ok (.if_icmp .eq 51, 3) := by decide +kernel
theorem dX1_pairs_74 : decode cX1_pairs 74 = .ok (.iload_n 3, 1) := by decide +kernel
theorem dX1_pairs_75 : decode cX1_pairs 75 = .ok (.bipush 6, 2) := by decide +kernel
theorem dX1_pairs_77 : decode cX1_pairs 77 = .ok (.if_icmp .eq 45, 3) := by decide +kernel
theorem dX1_pairs_80 : decode cX1_pairs 80 = .ok (.iload_n 2, 1) := by decide +kernel
theorem dX1_pairs_81 : decode cX1_pairs 81 = .ok (.iconst 5, 1) := by decide +kernel
theorem dX1_pairs_82 : decode cX1_pairs 82 = .ok (.if_icmp .eq 40, 3) := by decide +kernel
theorem dX1_pairs_85 : decode cX1_pairs 85 = .ok (.iload_n 2, 1) := by decide +kernel
theorem dX1_pairs_86 : decode cX1_pairs 86 = .ok (.invokestatic 74, 3) := by decide +kernel
theorem dX1_pairs_89 : decode cX1_pairs 89 = .ok (.ifCond .eq 10, 3) := by decide +kernel
theorem dX1_pairs_92 : decode cX1_pairs 92 = .ok (.iload_n 3, 1) := by decide +kernel
theorem dX1_pairs_93 : decode cX1_pairs 93 = .ok (.invokestatic 74, 3) := by decide +kernel
theorem dX1_pairs_96 : decode cX1_pairs 96 = .ok (.ifCond .ne 26, 3) := by decide +kernel
theorem dX1_pairs_99 : decode cX1_pairs 99 = .ok (.iload_n 2, 1) := by decide +kernel
theorem dX1_pairs_100 : decode cX1_pairs 100 = .ok (.invokestatic 77, 3) := by decide +kernel
theorem dX1_pairs_103 : decode cX1_pairs 103 = .ok (.ifCond .eq 10, 3) := by decide +kernel
theorem dX1_pairs_106 : decode cX1_pairs 106 = .ok (.iload_n 3, 1) := by decide +kernel
theorem dX1_pairs_107 : decode cX1_pairs 107 = .ok (.invokestatic 77, 3) := by decide +kernel
theorem dX1_pairs_110 : decode cX1_pairs 110 = .ok (.ifCond .ne 12, 3) := by decide +kernel
theorem dX1_pairs_113 : decode cX1_pairs 113 = .ok (.iload 4, 2) := by decide +kernel
theorem dX1_pairs_115 : decode cX1_pairs 115 = .ok (.ifCond .ne 7, 3) := by decide +kernel
theorem dX1_pairs_118 : decode cX1_pairs 118 = .ok (.iconst 1, 1) := by decide +kernel
theorem dX1_pairs_119 : decode cX1_pairs 119 = .ok (.goto 4, 3) := by decide +kernel
theorem dX1_pairs_122 : decode cX1_pairs 122 = .ok (.iconst 0, 1) := by decide +kernel
theorem dX1_pairs_123 : decode cX1_pairs 123 = .ok (.ireturn, 1) := by decide +kernel
theorem dX1_joins_0 : decode cX1_joins 0 = .ok (.iload_n 1, 1) := by decide +kernel
theorem dX1_joins_1 : decode cX1_joins 1 = .ok (.ifCond .le 68, 3) := by decide +kernel
theorem dX1_joins_4 : decode cX1_joins 4 = .ok (.aload_n 0, 1) := by decide +kernel
theorem dX1_joins_5 : decode cX1_joins 5 = .ok (.getfield 53, 3) := by decide +kernel
theorem dX1_joins_8 : decode cX1_joins 8 = .ok (.iload_n 1, 1) := by decide +kernel
theorem dX1_joins_9 : decode cX1_joins 9 = .ok (.iconst 1, 1) := by decide +kernel
theorem dX1_joins_10 : decode cX1_joins 10 = .ok (.isub, 1) := by decide +kernel
theorem dX1_joins_11 : decode cX1_joins 11 = .ok (.baload, 1) := by decide +kernel
theorem dX1_joins_12 : decode cX1_joins 12 = .ok (.ifCond .eq 57, 3) := by decide +kernel
theorem dX1_joins_15 : decode cX1_joins 15 = .ok (.aload_n 0, 1) := by decide +kernel
theorem dX1_joins_16 : decode cX1_joins 16 = .ok (.getfield 41, 3) := by decide +kernel
theorem dX1_joins_19 : decode cX1_joins 19 = .ok (.iload_n 1, 1) := by decide +kernel
theorem dX1_joins_20 : decode cX1_joins 20 = .ok (.baload, 1) := by decide +kernel
theorem dX1_joins_21 : decode cX1_joins 21 = .ok (.ifCond .eq 48, 3) := by decide +kernel
theorem dX1_joins_24 : decode cX1_joins 24 = .ok (.aload_n 0, 1) := by decide +kernel
theorem dX1_joins_25 : decode cX1_joins 25 = .ok (.getfield 38, 3) := by decide +kernel
theorem dX1_joins_28 : decode cX1_joins 28 = .ok (.iload_n 1, 1) := by decide +kernel
theorem dX1_joins_29 : decode cX1_joins 29 = .ok (.baload, 1) := by decide +kernel
