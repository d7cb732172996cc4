theorem dX4_canBePaid_55 : decode cX4_canBePaid 55 = .ok (.iconst 1, 1) := by decide +kernel
theorem dX4_canBePaid_56 : decode cX4_canBePaid 56 = .ok (.goto 4, 3) := by decide +kernel
theorem dX4_canBePaid_59 : decode cX4_canBePaid 59 = .ok (.iconst 0, 1) := by decide +kernel
theorem dX4_canBePaid_60 : decode cX4_canBePaid 60 = .ok (.istore_n 2, 1) := by decide +kernel
theorem dX4_canBePaid_61 : decode cX4_canBePaid 61 = .ok (.iinc 3 1, 3) := by decide +kernel
theorem dX4_canBePaid_64 : decode cX4_canBePaid 64 = .ok (.goto (-42), 3) := by decide +kernel
theorem dX4_canBePaid_67 : decode cX4_canBePaid 67 = .ok (.iload_n 2, 1) := by decide +kernel
theorem dX4_canBePaid_68 : decode cX4_canBePaid 68 = .ok (.ireturn, 1) := by decide +kernel
theorem dX4_shares_0 : decode cX4_shares 0 = .ok (.iconst 0, 1) := by decide +kernel
theorem dX4_shares_1 : decode cX4_shares 1 = .ok (.istore_n 3, 1) := by decide +kernel
theorem dX4_shares_2 : decode cX4_shares 2 = .ok (.iload_n 1, 1) := by decide +kernel
theorem dX4_shares_3 : decode cX4_shares 3 = .ok (.istore 4, 2) := by decide +kernel
theorem dX4_shares_5 : decode cX4_shares 5 = .ok (.iload 4, 2) := by decide +kernel
theorem dX4_shares_7 : decode cX4_shares 7 = .ok (.iload_n 2, 1) := by decide +kernel
theorem dX4_shares_8 : decode cX4_shares 8 = .ok (.if_icmp .gt 31, 3) := by decide +kernel
theorem dX4_shares_11 : decode cX4_shares 11 = .ok (.iload 4, 2) := by decide +kernel
theorem dX4_shares_13 : decode cX4_shares 13 = .ok (.iconst 4, 1) := by decide +kernel
theorem dX4_shares_14 : decode cX4_shares 14 = .ok (.if_icmp .gt 25, 3) := by decide +kernel
theorem dX4_shares_17 : decode cX4_shares 17 = .ok (.iload_n 3, 1) := by decide +kernel
theorem dX4_shares_18 : decode cX4_shares 18 = .ok (.iload_n 0, 1) := by decide +kernel
theorem dX4_shares_19 : decode cX4_shares 19 = .ok (.bipush 50, 2) := by decide +kernel
theorem dX4_shares_21 : decode cX4_shares 21 = .ok (.bipush 10, 2) := by decide +kernel
theorem dX4_shares_23 : decode cX4_shares 23 = .ok (.iload 4, 2) := by decide +kernel
theorem dX4_shares_25 : decode cX4_shares 25 = .ok (.imul, 1) := by decide +kernel
theorem dX4_shares_26 : decode cX4_shares 26 = .ok (.isub, 1) := by decide +kernel
theorem dX4_shares_27 : decode cX4_shares 27 = .ok (.imul, 1) := by decide +kernel
theorem dX4_shares_28 : decode cX4_shares 28 = .ok (.bipush 100, 2) := by decide +kernel
theorem dX4_shares_30 : decode cX4_shares 30 = .ok (.idiv, 1) := by decide +kernel
theorem dX4_shares_31 : decode cX4_shares 31 = .ok (.iadd, 1) := by decide +kernel
theorem dX4_shares_32 : decode cX4_shares 32 = .ok (.istore_n 3, 1) := by decide +kernel
theorem dX4_shares_33 : decode cX4_shares 33 = .ok (.iinc 4 1, 3) := by decide +kernel
theorem dX4_shares_36 : decode cX4_shares 36 = .ok (.goto (-31), 3) := by decide +kernel
theorem dX4_shares_39 : decode cX4_shares 39 = .ok (.iload_n 3, 1) := by decide +kernel
theorem dX4_shares_40 : decode cX4_shares 40 = .ok (.ireturn, 1) := by decide +kernel
theorem dX4_pays_0 : decode cX4_pays 0 = .ok (.aload_n 0, 1) := by decide +kernel
theorem dX4_pays_1 : decode cX4_pays 1 = .ok (.iload_n 1, 1) := by decide +kernel
theorem dX4_pays_2 : decode cX4_pays 2 = .ok (.invokevirtual 126, 3) := by decide +kernel
theorem dX4_pays_5 : decode cX4_pays 5 = .ok (.istore_n 2, 1) := by decide +kernel
theorem dX4_pays_6 : decode cX4_pays 6 = .ok (.iconst 0, 1) := by decide +kernel
theorem dX4_pays_7 : decode cX4_pays 7 = .ok (.istore_n 3, 1) := by decide +kernel
theorem dX4_pays_8 : decode cX4_pays 8 = .ok (.iload_n 1, 1) := by decide +kernel
theorem dX4_pays_9 : decode cX4_pays 9 = .ok (.iconst 0, 1) := by decide +kernel
theorem dX4_pays_10 : decode cX4_pays 10 = .ok (.invokestatic 118, 3) := by decide +kernel
theorem dX4_pays_13 : decode cX4_pays 13 = .ok (.istore 4, 2) := by decide +kernel
theorem dX4_pays_15 : decode cX4_pays 15 = .ok (.iload 4, 2) := by decide +kernel
theorem dX4_pays_17 : decode cX4_pays 17 = .ok (.iload_n 1, 1) := by decide +kernel
theorem dX4_pays_18 : decode cX4_pays 18 = .ok (.iconst 1, 1) := by decide +kernel
theorem dX4_pays_19 : decode cX4_pays 19 = .ok (.iadd, 1) := by decide +kernel
theorem dX4_pays_20 : decode cX4_pays 20 = .ok (.iconst 0, 1) := by decide +kernel
theorem dX4_pays_21 : decode cX4_pays 21 = .ok (.invokestatic 118, 3) := by decide +kernel
theorem dX4_pays_24 : decode cX4_pays 24 = .ok (.if_icmp .ge 27, 3) := by decide +kernel
theorem dX4_pays_27 : decode cX4_pays 27 = .ok (.iload_n 3, 1) := by decide +kernel
theorem dX4_pays_28 : decode cX4_pays 28 = .ok (.aload_n 0, 1) := by decide +kernel
theorem dX4_pays_29 : decode cX4_pays 29 = .ok (.getfield 81, 3) := by decide +kernel
theorem dX4_pays_32 : decode cX4_pays 32 = .ok (.iload 4, 2) := by decide +kernel
theorem dX4_pays_34 : decode cX4_pays 34 = .ok (.baload, 1) := by decide +kernel
theorem dX4_pays_35 : decode cX4_pays 35 = .ok (.ifCond .eq 7, 3) := by decide +kernel
theorem dX4_pays_38 : decode cX4_pays 38 = .ok (.iconst 1, 1) := by decide +kernel
theorem dX4_pays_39 : decode cX4_pays 39 = .ok (.goto 4, 3) := by decide +kernel
theorem dX4_pays_42 : decode cX4_pays 42 = .ok (.iconst 0, 1) := by decide +kernel
theorem dX4_pays_43 : decode cX4_pays 43 = .ok (.iadd, 1) := by decide +kernel
theorem dX4_pays_44 : decode cX4_pays 44 = .ok (.istore_n 3, 1) := by decide +kernel
theorem dX4_pays_45 : decode cX4_pays 45 = .ok (.iinc 4 1, 3) := by decide +kernel
theorem dX4_pays_48 : decode cX4_pays 48 = .ok (.goto (-33), 3) := by decide +kernel
theorem dX4_pays_51 : decode cX4_pays 51 = .ok (.iload_n 2, 1) := by decide +kernel
theorem dX4_pays_52 : decode cX4_pays 52 = .ok (.istore 4, 2) := by decide +kernel
theorem dX4_pays_54 : decode cX4_pays 54 = .ok (.iload_n 1, 1) := by decide +kernel
theorem dX4_pays_55 : decode cX4_pays 55 = .ok (.iconst 0, 1) := by decide +kernel
theorem dX4_pays_56 : decode cX4_pays 56 = .ok (.invokestatic 118, 3) := by decide +kernel
theorem dX4_pays_59 : decode cX4_pays 59 = .ok (.istore 5, 2) := by decide +kernel
theorem dX4_pays_61 : decode cX4_pays 61 = .ok (.iload 5, 2) := by decide +kernel
theorem dX4_pays_63 : decode cX4_pays 63 = .ok (.iload_n 1, 1) := by decide +kernel
theorem dX4_pays_64 : decode cX4_pays 64 = .ok (.iconst 1, 1) := by decide +kernel
theorem dX4_pays_65 : decode cX4_pays 65 = .ok (.iadd, 1) := by decide +kernel
theorem dX4_pays_66 : decode cX4_pays 66 = .ok (.iconst 0, 1) := by decide +kernel
theorem dX4_pays_67 : decode cX4_pays 67 = .ok (.invokestatic 118, 3) := by decide +kernel
theorem dX4_pays_70 : decode cX4_pays 70 = .ok (.if_icmp .ge 174, 3) := by decide +kernel
theorem dX4_pays_73 : decode cX4_pays 73 = .ok (.iconst 0, 1) := by decide +kernel
theorem dX4_pays_74 : decode cX4_pays 74 = .ok (.istore 6, 2) := by decide +kernel
theorem dX4_pays_76 : decode cX4_pays 76 = .ok (.iconst 0, 1) := by decide +kernel
theorem dX4_pays_77 : decode cX4_pays 77 = .ok (.istore 7, 2) := by decide +kernel
theorem dX4_pays_79 : decode cX4_pays 79 = .ok (.iload_n 1, 1) := by decide +kernel
theorem dX4_pays_80 : decode cX4_pays 80 = .ok (.iconst 0, 1) := by decide +kernel
theorem dX4_pays_81 : decode cX4_pays 81 = .ok (.invokestatic 118, 3) := by decide +kernel
theorem dX4_pays_84 : decode cX4_pays 84 = .ok (.istore 8, 2) := by decide +kernel
theorem dX4_pays_86 : decode cX4_pays 86 = .ok (.iload 8, 2) := by decide +kernel
theorem dX4_pays_88 : decode cX4_pays 88 = .ok (.iload_n 1, 1) := by decide +kernel
theorem dX4_pays_89 : decode cX4_pays 89 = .ok (.iconst 1, 1) := by decide +kernel
theorem dX4_pays_90 : decode cX4_pays 90 = .ok (.iadd, 1) := by decide +kernel
theorem dX4_pays_91 : decode cX4_pays 91 = .ok (.iconst 0, 1) := by decide +kernel
theorem dX4_pays_92 : decode cX4_pays 92 = .ok (.invokestatic 118, 3) := by decide +kernel
theorem dX4_pays_95 : decode cX4_pays 95 = .ok (.if_icmp .ge 83, 3) := by decide +kernel
theorem dX4_pays_98 : decode cX4_pays 98 = .ok (.iload 6, 2) := by decide +kernel
theorem dX4_pays_100 : decode cX4_pays 100 = .ok (.aload_n 0, 1) := by decide +kernel
theorem dX4_pays_101 : decode cX4_pays 101 = .ok (.getfield 81, 3) := by decide +kernel
theorem dX4_pays_104 : decode cX4_pays 104 = .ok (.iload 8, 2) := by decide +kernel
theorem dX4_pays_106 : decode cX4_pays 106 = .ok (.baload, 1) := by decide +kernel
theorem dX4_pays_107 : decode cX4_pays 107 = .ok (.ifCond .eq 24, 3) := by decide +kernel
theorem dX4_pays_110 : decode cX4_pays 110 = .ok (.aload_n 0, 1) := by decide +kernel
theorem dX4_pays_111 : decode cX4_pays 111 = .ok (.getfield 84, 3) := by decide +kernel
theorem dX4_pays_114 : decode cX4_pays 114 = .ok (.iload 8, 2) := by decide +kernel
theorem dX4_pays_116 : decode cX4_pays 116 = .ok (.iaload, 1) := by decide +kernel
theorem dX4_pays_117 : decode cX4_pays 117 = .ok (.aload_n 0, 1) := by decide +kernel
theorem dX4_pays_118 : decode cX4_pays 118 = .ok (.getfield 84, 3) := by decide +kernel
theorem dX4_pays_121 : decode cX4_pays 121 = .ok (.iload 5, 2) := by decide +kernel
theorem dX4_pays_123 : decode cX4_pays 123 = .ok (.iaload, 1) := by decide +kernel
theorem dX4_pays_124 : decode cX4_pays 124 = .ok (.if_icmp .le 7, 3) := by decide +kernel
theorem dX4_pays_127 : decode cX4_pays 127 = .ok (.iconst 1, 1) := by decide +kernel
theorem dX4_pays_128 : decode cX4_pays 128 = .ok (.goto 4, 3) := by decide +kernel
theorem dX4_pays_131 : decode cX4_pays 131 = .ok (.iconst 0, 1) := by decide +kernel
theorem dX4_pays_132 : decode cX4_pays 132 = .ok (.iadd, 1) := by decide +kernel
theorem dX4_pays_133 : decode cX4_pays 133 = .ok (.istore 6, 2) := by decide +kernel
theorem dX4_pays_135 : decode cX4_pays 135 = .ok (.iload 7, 2) := by decide +kernel
theorem dX4_pays_137 : decode cX4_pays 137 = .ok (.aload_n 0, 1) := by decide +kernel
theorem dX4_pays_138 : decode cX4_pays 138 = .ok (.getfield 81, 3) := by decide +kernel
theorem dX4_pays_141 : decode cX4_pays 141 = .ok (.iload 8, 2) := by decide +kernel
theorem dX4_pays_143 : decode cX4_pays 143 = .ok (.baload, 1) := by decide +kernel
theorem dX4_pays_144 : decode cX4_pays 144 = .ok (.ifCond .eq 24, 3) := by decide +kernel
theorem dX4_pays_147 : decode cX4_pays 147 = .ok (.aload_n 0, 1) := by decide +kernel
theorem dX4_pays_148 : decode cX4_pays 148 = .ok (.getfield 84, 3) := by decide +kernel
theorem dX4_pays_151 : decode cX4_pays 151 = .ok (.iload 8, 2) := by decide +kernel
theorem dX4_pays_153 : decode cX4_pays 153 = .ok (.iaload, 1) := by decide +kernel
theorem dX4_pays_154 : decode cX4_pays 154 = .ok (.aload_n 0, 1) := by decide +kernel
theorem dX4_pays_155 : decode cX4_pays 155 = .ok (.getfield 84, 3) := by decide +kernel
theorem dX4_pays_158 : decode cX4_pays 158 = .ok (.iload 5, 2) := by decide +kernel
theorem dX4_pays_160 : decode cX4_pays 160 = .ok (.iaload, 1) := by decide +kernel
theorem dX4_pays_161 : decode cX4_pays 161 = .ok (.if_icmp .ne 7, 3) := by decide +kernel
theorem dX4_pays_164 : decode cX4_pays 164 = .ok (.iconst 1, 1) := by decide +kernel
theorem dX4_pays_165 : decode cX4_pays 165 = .ok (.goto 4, 3) := by decide +kernel
theorem dX4_pays_168 : decode cX4_pays 168 = .ok (.iconst 0, 1) := by decide +kernel
theorem dX4_pays_169 : decode cX4_pays 169 = .ok (.iadd, 1) := by decide +kernel
theorem dX4_pays_170 : decode cX4_pays 170 = .ok (.istore 7, 2) := by decide +kernel
theorem dX4_pays_172 : decode cX4_pays 172 = .ok (.iinc 8 1, 3) := by decide +kernel
theorem dX4_pays_175 : decode cX4_pays 175 = .ok (.goto (-89), 3) := by decide +kernel
theorem dX4_pays_178 : decode cX4_pays 178 = .ok (.aload_n 0, 1) := by decide +kernel
theorem dX4_pays_179 : decode cX4_pays 179 = .ok (.getfield 87, 3) := by decide +kernel
theorem dX4_pays_182 : decode cX4_pays 182 = .ok (.iload 5, 2) := by decide +kernel
theorem dX4_pays_184 : decode cX4_pays 184 = .ok (.aload_n 0, 1) := by decide +kernel
theorem dX4_pays_185 : decode cX4_pays 185 = .ok (.getfield 81, 3) := by decide +kernel
theorem dX4_pays_188 : decode cX4_pays 188 = .ok (.iload 5, 2) := by decide +kernel
theorem dX4_pays_190 : decode cX4_pays 190 = .ok (.baload, 1) := by decide +kernel
theorem dX4_pays_191 : decode cX4_pays 191 = .ok (.ifCond .eq 33, 3) := by decide +kernel
theorem dX4_pays_194 : decode cX4_pays 194 = .ok (.iload_n 2, 1) := by decide +kernel
theorem dX4_pays_195 : decode cX4_pays 195 = .ok (.iload 6, 2) := by decide +kernel
theorem dX4_pays_197 : decode cX4_pays 197 = .ok (.iconst 1, 1) := by decide +kernel
theorem dX4_pays_198 : decode cX4_pays 198 = .ok (.iadd, 1) := by decide +kernel
theorem dX4_pays_199 : decode cX4_pays 199 = .ok (.iload 6, 2) := by decide +kernel
theorem dX4_pays_201 : decode cX4_pays 201 = .ok (.iload 7, 2) := by decide +kernel
theorem dX4_pays_203 : decode cX4_pays 203 = .ok (.iadd, 1) := by decide +kernel
theorem dX4_pays_204 : decode cX4_pays 204 = .ok (.invokestatic 196, 3) := by decide +kernel
theorem dX4_pays_207 : decode cX4_pays 207 = .ok (.iload 7, 2) := by decide +kernel
theorem dX4_pays_209 : decode cX4_pays 209 = .ok (.idiv, 1) := by decide +kernel
theorem dX4_pays_210 : decode cX4_pays 210 = .ok (.iload_n 2, 1) := by decide +kernel
theorem dX4_pays_211 : decode cX4_pays 211 = .ok (.iload_n 3, 1) := by decide +kernel
theorem dX4_pays_212 : decode cX4_pays 212 = .ok (.iconst 1, 1) := by decide +kernel
theorem dX4_pays_213 : decode cX4_pays 213 = .ok (.iadd, 1) := by decide +kernel
theorem dX4_pays_214 : decode cX4_pays 214 = .ok (.iconst 4, 1) := by decide +kernel
theorem dX4_pays_215 : decode cX4_pays 215 = .ok (.invokestatic 196, 3) := by decide +kernel
theorem dX4_pays_218 : decode cX4_pays 218 = .ok (.iload_n 3, 1) := by decide +kernel
theorem dX4_pays_219 : decode cX4_pays 219 = .ok (.idiv, 1) := by decide +kernel
theorem dX4_pays_220 : decode cX4_pays 220 = .ok (.iadd, 1) := by decide +kernel
theorem dX4_pays_221 : decode cX4_pays 221 = .ok (.goto 4, 3) := by decide +kernel
theorem dX4_pays_224 : decode cX4_pays 224 = .ok (.iconst 0, 1) := by decide +kernel
theorem dX4_pays_225 : decode cX4_pays 225 = .ok (.iastore, 1) := by decide +kernel
theorem dX4_pays_226 : decode cX4_pays 226 = .ok (.iload 4, 2) := by decide +kernel
theorem dX4_pays_228 : decode cX4_pays 228 = .ok (.aload_n 0, 1) := by decide +kernel
theorem dX4_pays_229 : decode cX4_pays 229 = .ok (.getfield 87, 3) := by decide +kernel
theorem dX4_pays_232 : decode cX4_pays 232 = .ok (.iload 5, 2) := by decide +kernel
theorem dX4_pays_234 : decode cX4_pays 234 = .ok (.iaload, 1) := by decide +kernel
theorem dX4_pays_235 : decode cX4_pays 235 = .ok (.isub, 1) := by decide +kernel
theorem dX4_pays_236 : decode cX4_pays 236 = .ok (.istore 4, 2) := by decide +kernel
theorem dX4_pays_238 : decode cX4_pays 238 = .ok (.iinc 5 1, 3) := by decide +kernel
theorem dX4_pays_241 : decode cX4_pays 241 = .ok (.goto (-180), 3) := by decide +kernel
theorem dX4_pays_244 : decode cX4_pays 244 = .ok (.aload_n 0, 1) := by decide +kernel
theorem dX4_pays_245 : decode cX4_pays 245 = .ok (.getfield 50, 3) := by decide +kernel
theorem dX4_pays_248 : decode cX4_pays 248 = .ok (.iload_n 1, 1) := by decide +kernel
theorem dX4_pays_249 : decode cX4_pays 249 = .ok (.iload 4, 2) := by decide +kernel
theorem dX4_pays_251 : decode cX4_pays 251 = .ok (.iastore, 1) := by decide +kernel
theorem dX4_pays_252 : decode cX4_pays 252 = .ok (.aload_n 0, 1) := by decide +kernel
theorem dX4_pays_253 : decode cX4_pays 253 = .ok (.getfield 47, 3) := by decide +kernel
theorem dX4_pays_256 : decode cX4_pays 256 = .ok (.iload_n 1, 1) := by decide +kernel
theorem dX4_pays_257 : decode cX4_pays 257 = .ok (.iconst 3, 1) := by decide +kernel
theorem dX4_pays_258 : decode cX4_pays 258 = .ok (.iastore, 1) := by decide +kernel
theorem dX4_pays_259 : decode cX4_pays 259 = .ok (.iload_n 3, 1) := by decide +kernel
theorem dX4_pays_260 : decode cX4_pays 260 = .ok (.ireturn, 1) := by decide +kernel
theorem dX4_pay_0 : decode cX4_pay 0 = .ok (.aload_n 0, 1) := by decide +kernel
theorem dX4_pay_1 : decode cX4_pay 1 = .ok (.iload_n 1, 1) := by decide +kernel
theorem dX4_pay_2 : decode cX4_pay 2 = .ok (.invokevirtual 129, 3) := by decide +kernel
theorem dX4_pay_5 : decode cX4_pay 5 = .ok (.istore_n 2, 1) := by decide +kernel
theorem dX4_pay_6 : decode cX4_pay 6 = .ok (.aload_n 0, 1) := by decide +kernel
theorem dX4_pay_7 : decode cX4_pay 7 = .ok (.iload_n 2, 1) := by decide +kernel
theorem dX4_pay_8 : decode cX4_pay 8 = .ok (.ifCond .ne 7, 3) := by decide +kernel
theorem dX4_pay_11 : decode cX4_pay 11 = .ok (.iconst 1, 1) := by decide +kernel
theorem dX4_pay_12 : decode cX4_pay 12 = .ok (.goto 16, 3) := by decide +kernel
theorem dX4_pay_15 : decode cX4_pay 15 = .ok (.aload_n 0, 1) := by decide +kernel
theorem dX4_pay_16 : decode cX4_pay 16 = .ok (.iload_n 1, 1) := by decide +kernel
theorem dX4_pay_17 : decode cX4_pay 17 = .ok (.invokevirtual 200, 3) := by decide +kernel
theorem dX4_pay_20 : decode cX4_pay 20 = .ok (.ifCond .ne 7, 3) := by decide +kernel
theorem dX4_pay_23 : decode cX4_pay 23 = .ok (.iconst 2, 1) := by decide +kernel
theorem dX4_pay_24 : decode cX4_pay 24 = .ok (.goto 4, 3) := by decide +kernel
theorem dX4_pay_27 : decode cX4_pay 27 = .ok (.iconst 0, 1) := by decide +kernel
theorem dX4_pay_28 : decode cX4_pay 28 = .ok (.invokevirtual 113, 3) := by decide +kernel
theorem dX4_pay_31 : decode cX4_pay 31 = .ok (.ifCond .eq 11, 3) := by decide +kernel
theorem dX4_pay_34 : decode cX4_pay 34 = .ok (.aload_n 0, 1) := by decide +kernel
theorem dX4_pay_35 : decode cX4_pay 35 = .ok (.iload_n 1, 1) := by decide +kernel
theorem dX4_pay_36 : decode cX4_pay 36 = .ok (.invokevirtual 203, 3) := by decide +kernel
theorem dX4_pay_39 : decode cX4_pay 39 = .ok (.goto 4, 3) := by decide +kernel
theorem dX4_pay_42 : decode cX4_pay 42 = .ok (.iconst 0, 1) := by decide +kernel
theorem dX4_pay_43 : decode cX4_pay 43 = .ok (.ireturn, 1) := by decide +kernel
theorem dX4_got_0 : decode cX4_got 0 = .ok (.aload_n 0, 1) := by decide +kernel
theorem dX4_got_1 : decode cX4_got 1 = .ok (.aload_n 0, 1) := by decide +kernel
theorem dX4_got_2 : decode cX4_got 2 = .ok (.iload_n 1, 1) := by decide +kernel
theorem dX4_got_3 : decode cX4_got 3 = .ok (.invokevirtual 129, 3) := by decide +kernel
theorem dX4_got_6 : decode cX4_got 6 = .ok (.ifCond .eq 15, 3) := by decide +kernel
theorem dX4_got_9 : decode cX4_got 9 = .ok (.aload_n 0, 1) := by decide +kernel
theorem dX4_got_10 : decode cX4_got 10 = .ok (.iload_n 2, 1) := by decide +kernel
theorem dX4_got_11 : decode cX4_got 11 = .ok (.invokevirtual 135, 3) := by decide +kernel
theorem dX4_got_14 : decode cX4_got 14 = .ok (.ifCond .eq 7, 3) := by decide +kernel
theorem dX4_got_17 : decode cX4_got 17 = .ok (.iconst 0, 1) := by decide +kernel
theorem dX4_got_18 : decode cX4_got 18 = .ok (.goto 4, 3) := by decide +kernel
theorem dX4_got_21 : decode cX4_got 21 = .ok (.iconst 1, 1) := by decide +kernel
theorem dX4_got_22 : decode cX4_got 22 = .ok (.invokevirtual 113, 3) := by decide +kernel
theorem dX4_got_25 : decode cX4_got 25 = .ok (.ifCond .eq 16, 3) := by decide +kernel
theorem dX4_got_28 : decode cX4_got 28 = .ok (.aload_n 0, 1) := by decide +kernel
theorem dX4_got_29 : decode cX4_got 29 = .ok (.getfield 87, 3) := by decide +kernel
theorem dX4_got_32 : decode cX4_got 32 = .ok (.iload_n 1, 1) := by decide +kernel
theorem dX4_got_33 : decode cX4_got 33 = .ok (.iload_n 2, 1) := by decide +kernel
theorem dX4_got_34 : decode cX4_got 34 = .ok (.invokestatic 118, 3) := by decide +kernel
theorem dX4_got_37 : decode cX4_got 37 = .ok (.iaload, 1) := by decide +kernel
theorem dX4_got_38 : decode cX4_got 38 = .ok (.goto 4, 3) := by decide +kernel
theorem dX4_got_41 : decode cX4_got 41 = .ok (.iconst 0, 1) := by decide +kernel
theorem dX4_got_42 : decode cX4_got 42 = .ok (.ireturn, 1) := by decide +kernel
theorem dX4_allOf_0 : decode cX4_allOf 0 = .ok (.iconst 0, 1) := by decide +kernel
theorem dX4_allOf_1 : decode cX4_allOf 1 = .ok (.istore_n 2, 1) := by decide +kernel
theorem dX4_allOf_2 : decode cX4_allOf 2 = .ok (.iconst 0, 1) := by decide +kernel
theorem dX4_allOf_3 : decode cX4_allOf 3 = .ok (.istore_n 3, 1) := by decide +kernel
theorem dX4_allOf_4 : decode cX4_allOf 4 = .ok (.iload_n 3, 1) := by decide +kernel
theorem dX4_allOf_5 : decode cX4_allOf 5 = .ok (.aload_n 0, 1) := by decide +kernel
theorem dX4_allOf_6 : decode cX4_allOf 6 = .ok (.getfield 110, 3) := by decide +kernel
theorem dX4_allOf_9 : decode cX4_allOf 9 = .ok (.if_icmp .ge 22, 3) := by decide +kernel
theorem dX4_allOf_12 : decode cX4_allOf 12 = .ok (.iload_n 2, 1) := by decide +kernel
theorem dX4_allOf_13 : decode cX4_allOf 13 = .ok (.aload_n 0, 1) := by decide +kernel
theorem dX4_allOf_14 : decode cX4_allOf 14 = .ok (.getfield 87, 3) := by decide +kernel
theorem dX4_allOf_17 : decode cX4_allOf 17 = .ok (.iload_n 3, 1) := by decide +kernel
theorem dX4_allOf_18 : decode cX4_allOf 18 = .ok (.iload_n 1, 1) := by decide +kernel
theorem dX4_allOf_19 : decode cX4_allOf 19 = .ok (.invokestatic 118, 3) := by decide +kernel
theorem dX4_allOf_22 : decode cX4_allOf 22 = .ok (.iaload, 1) := by decide +kernel
theorem dX4_allOf_23 : decode cX4_allOf 23 = .ok (.iadd, 1) := by decide +kernel
theorem dX4_allOf_24 : decode cX4_allOf 24 = .ok (.istore_n 2, 1) := by decide +kernel
theorem dX4_allOf_25 : decode cX4_allOf 25 = .ok (.iinc 3 1, 3) := by decide +kernel
theorem dX4_allOf_28 : decode cX4_allOf 28 = .ok (.goto (-24), 3) := by decide +kernel
theorem dX4_allOf_31 : decode cX4_allOf 31 = .ok (.iload_n 2, 1) := by decide +kernel
theorem dX4_allOf_32 : decode cX4_allOf 32 = .ok (.ireturn, 1) := by decide +kernel
theorem dX4_counted_0 : decode cX4_counted 0 = .ok (.iconst 0, 1) := by decide +kernel
theorem dX4_counted_1 : decode cX4_counted 1 = .ok (.istore_n 2, 1) := by decide +kernel
theorem dX4_counted_2 : decode cX4_counted 2 = .ok (.iconst 0, 1) := by decide +kernel
theorem dX4_counted_3 : decode cX4_counted 3 = .ok (.istore_n 3, 1) := by decide +kernel
theorem dX4_counted_4 : decode cX4_counted 4 = .ok (.iload_n 3, 1) := by decide +kernel
theorem dX4_counted_5 : decode cX4_counted 5 = .ok (.aload_n 0, 1) := by decide +kernel
theorem dX4_counted_6 : decode cX4_counted 6 = .ok (.getfield 110, 3) := by decide +kernel
theorem dX4_counted_9 : decode cX4_counted 9 = .ok (.if_icmp .ge 100, 3) := by decide +kernel
theorem dX4_counted_12 : decode cX4_counted 12 = .ok (.aload_n 0, 1) := by decide +kernel
theorem dX4_counted_13 : decode cX4_counted 13 = .ok (.getfield 87, 3) := by decide +kernel
theorem dX4_counted_16 : decode cX4_counted 16 = .ok (.iload_n 3, 1) := by decide +kernel
theorem dX4_counted_17 : decode cX4_counted 17 = .ok (.iload_n 1, 1) := by decide +kernel
theorem dX4_counted_18 : decode cX4_counted 18 = .ok (.invokestatic 118, 3) := by decide +kernel
theorem dX4_counted_21 : decode cX4_counted 21 = .ok (.iaload, 1) := by decide +kernel
theorem dX4_counted_22 : decode cX4_counted 22 = .ok (.istore 4, 2) := by decide +kernel
theorem dX4_counted_24 : decode cX4_counted 24 = .ok (.iconst 0, 1) := by decide +kernel
theorem dX4_counted_25 : decode cX4_counted 25 = .ok (.istore 5, 2) := by decide +kernel
theorem dX4_counted_27 : decode cX4_counted 27 = .ok (.iconst 0, 1) := by decide +kernel
theorem dX4_counted_28 : decode cX4_counted 28 = .ok (.istore 6, 2) := by decide +kernel
theorem dX4_counted_30 : decode cX4_counted 30 = .ok (.iload 6, 2) := by decide +kernel
theorem dX4_counted_32 : decode cX4_counted 32 = .ok (.aload_n 0, 1) := by decide +kernel
theorem dX4_counted_33 : decode cX4_counted 33 = .ok (.getfield 110, 3) := by decide +kernel
theorem dX4_counted_36 : decode cX4_counted 36 = .ok (.if_icmp .ge 52, 3) := by decide +kernel
theorem dX4_counted_39 : decode cX4_counted 39 = .ok (.aload_n 0, 1) := by decide +kernel
theorem dX4_counted_40 : decode cX4_counted 40 = .ok (.getfield 87, 3) := by decide +kernel
theorem dX4_counted_43 : decode cX4_counted 43 = .ok (.iload 6, 2) := by decide +kernel
theorem dX4_counted_45 : decode cX4_counted 45 = .ok (.iload_n 1, 1) := by decide +kernel
theorem dX4_counted_46 : decode cX4_counted 46 = .ok (.invokestatic 118, 3) := by decide +kernel
theorem dX4_counted_49 : decode cX4_counted 49 = .ok (.iaload, 1) := by decide +kernel
theorem dX4_counted_50 : decode cX4_counted 50 = .ok (.istore 7, 2) := by decide +kernel
theorem dX4_counted_52 : decode cX4_counted 52 = .ok (.iload 5, 2) := by decide +kernel
theorem dX4_counted_54 : decode cX4_counted 54 = .ok (.iload 7, 2) := by decide +kernel
theorem dX4_counted_56 : decode cX4_counted 56 = .ok (.iload 4, 2) := by decide +kernel
theorem dX4_counted_58 : decode cX4_counted 58 = .ok (.if_icmp .gt 16, 3) := by decide +kernel
theorem dX4_counted_61 : decode cX4_counted 61 = .ok (.iload 7, 2) := by decide +kernel
theorem dX4_counted_63 : decode cX4_counted 63 = .ok (.iload 4, 2) := by decide +kernel
theorem dX4_counted_65 : decode cX4_counted 65 = .ok (.if_icmp .ne 13, 3) := by decide +kernel
theorem dX4_counted_68 : decode cX4_counted 68 = .ok (.iload 6, 2) := by decide +kernel
theorem dX4_counted_70 : decode cX4_counted 70 = .ok (.iload_n 3, 1) := by decide +kernel
theorem dX4_counted_71 : decode cX4_counted 71 = .ok (.if_icmp .ge 7, 3) := by decide +kernel
theorem dX4_counted_74 : decode cX4_counted 74 = .ok (.iconst 1, 1) := by decide +kernel
theorem dX4_counted_75 : decode cX4_counted 75 = .ok (.goto 4, 3) := by decide +kernel
theorem dX4_counted_78 : decode cX4_counted 78 = .ok (.iconst 0, 1) := by decide +kernel
theorem dX4_counted_79 : decode cX4_counted 79 = .ok (.iadd, 1) := by decide +kernel
theorem dX4_counted_80 : decode cX4_counted 80 = .ok (.istore 5, 2) := by decide +kernel
theorem dX4_counted_82 : decode cX4_counted 82 = .ok (.iinc 6 1, 3) := by decide +kernel
theorem dX4_counted_85 : decode cX4_counted 85 = .ok (.goto (-55), 3) := by decide +kernel
theorem dX4_counted_88 : decode cX4_counted 88 = .ok (.iload_n 2, 1) := by decide +kernel
theorem dX4_counted_89 : decode cX4_counted 89 = .ok (.iload 5, 2) := by decide +kernel
theorem dX4_counted_91 : decode cX4_counted 91 = .ok (.iconst 3, 1) := by decide +kernel
theorem dX4_counted_92 : decode cX4_counted 92 = .ok (.if_icmp .ge 8, 3) := by decide +kernel
theorem dX4_counted_95 : decode cX4_counted 95 = .ok (.iload 4, 2) := by decide +kernel
theorem dX4_counted_97 : decode cX4_counted 97 = .ok (.goto 4, 3) := by decide +kernel
theorem dX4_counted_100 : decode cX4_counted 100 = .ok (.iconst 0, 1) := by decide +kernel
theorem dX4_counted_101 : decode cX4_counted 101 = .ok (.iadd, 1) := by decide +kernel
theorem dX4_counted_102 : decode cX4_counted 102 = .ok (.istore_n 2, 1) := by decide +kernel
theorem dX4_counted_103 : decode cX4_counted 103 = .ok (.iinc 3 1, 3) := by decide +kernel
theorem dX4_counted_106 : decode cX4_counted 106 = .ok (.goto (-102), 3) := by decide +kernel
theorem dX4_counted_109 : decode cX4_counted 109 = .ok (.iload_n 2, 1) := by decide +kernel
theorem dX4_counted_110 : decode cX4_counted 110 = .ok (.ireturn, 1) := by decide +kernel
theorem dX4_counts_0 : decode cX4_counts 0 = .ok (.aload_n 0, 1) := by decide +kernel
theorem dX4_counts_1 : decode cX4_counts 1 = .ok (.aload_n 0, 1) := by decide +kernel
theorem dX4_counts_2 : decode cX4_counts 2 = .ok (.iload_n 1, 1) := by decide +kernel
theorem dX4_counts_3 : decode cX4_counts 3 = .ok (.invokevirtual 135, 3) := by decide +kernel
theorem dX4_counts_6 : decode cX4_counts 6 = .ok (.ifCond .eq 7, 3) := by decide +kernel
theorem dX4_counts_9 : decode cX4_counts 9 = .ok (.iconst 0, 1) := by decide +kernel
theorem dX4_counts_10 : decode cX4_counts 10 = .ok (.goto 4, 3) := by decide +kernel
theorem dX4_counts_13 : decode cX4_counts 13 = .ok (.iconst 1, 1) := by decide +kernel
theorem dX4_counts_14 : decode cX4_counts 14 = .ok (.invokevirtual 113, 3) := by decide +kernel
theorem dX4_counts_17 : decode cX4_counts 17 = .ok (.ifCond .eq 11, 3) := by decide +kernel
theorem dX4_counts_20 : decode cX4_counts 20 = .ok (.aload_n 0, 1) := by decide +kernel
theorem dX4_counts_21 : decode cX4_counts 21 = .ok (.iload_n 1, 1) := by decide +kernel
theorem dX4_counts_22 : decode cX4_counts 22 = .ok (.invokevirtual 206, 3) := by decide +kernel
theorem dX4_counts_25 : decode cX4_counts 25 = .ok (.goto 4, 3) := by decide +kernel
theorem dX4_counts_28 : decode cX4_counts 28 = .ok (.iconst 0, 1) := by decide +kernel
theorem dX4_counts_29 : decode cX4_counts 29 = .ok (.ireturn, 1) := by decide +kernel
theorem dX4_isBetter_0 : decode cX4_isBetter 0 = .ok (.aload_n 0, 1) := by decide +kernel
theorem dX4_isBetter_1 : decode cX4_isBetter 1 = .ok (.iload_n 1, 1) := by decide +kernel
theorem dX4_isBetter_2 : decode cX4_isBetter 2 = .ok (.invokevirtual 206, 3) := by decide +kernel
theorem dX4_isBetter_5 : decode cX4_isBetter 5 = .ok (.aload_n 0, 1) := by decide +kernel
theorem dX4_isBetter_6 : decode cX4_isBetter 6 = .ok (.iload_n 2, 1) := by decide +kernel
theorem dX4_isBetter_7 : decode cX4_isBetter 7 = .ok (.invokevirtual 206, 3) := by decide +kernel
theorem dX4_isBetter_10 : decode cX4_isBetter 10 = .ok (.isub, 1) := by decide +kernel
theorem dX4_isBetter_11 : decode cX4_isBetter 11 = .ok (.istore_n 3, 1) := by decide +kernel
theorem dX4_isBetter_12 : decode cX4_isBetter 12 = .ok (.aload_n 0, 1) := by decide +kernel
theorem dX4_isBetter_13 : decode cX4_isBetter 13 = .ok (.iload_n 1, 1) := by decide +kernel
theorem dX4_isBetter_14 : decode cX4_isBetter 14 = .ok (.invokevirtual 209, 3) := by decide +kernel
theorem dX4_isBetter_17 : decode cX4_isBetter 17 = .ok (.aload_n 0, 1) := by decide +kernel
theorem dX4_isBetter_18 : decode cX4_isBetter 18 = .ok (.iload_n 2, 1) := by decide +kernel
theorem dX4_isBetter_19 : decode cX4_isBetter 19 = .ok (.invokevirtual 209, 3) := by decide +kernel
theorem dX4_isBetter_22 : decode cX4_isBetter 22 = .ok (.isub, 1) := by decide +kernel
theorem dX4_isBetter_23 : decode cX4_isBetter 23 = .ok (.istore 4, 2) := by decide +kernel
theorem dX4_isBetter_25 : decode cX4_isBetter 25 = .ok (.iload_n 3, 1) := by decide +kernel
theorem dX4_isBetter_26 : decode cX4_isBetter 26 = .ok (.ifCond .eq 15, 3) := by decide +kernel
theorem dX4_isBetter_29 : decode cX4_isBetter 29 = .ok (.iload_n 3, 1) := by decide +kernel
theorem dX4_isBetter_30 : decode cX4_isBetter 30 = .ok (.ifCond .le 7, 3) := by decide +kernel
theorem dX4_isBetter_33 : decode cX4_isBetter 33 = .ok (.iconst 1, 1) := by decide +kernel
theorem dX4_isBetter_34 : decode cX4_isBetter 34 = .ok (.goto 35, 3) := by decide +kernel
theorem dX4_isBetter_37 : decode cX4_isBetter 37 = .ok (.iconst 0, 1) := by decide +kernel
theorem dX4_isBetter_38 : decode cX4_isBetter 38 = .ok (.goto 31, 3) := by decide +kernel
theorem dX4_isBetter_41 : decode cX4_isBetter 41 = .ok (.iload 4, 2) := by decide +kernel
theorem dX4_isBetter_43 : decode cX4_isBetter 43 = .ok (.ifCond .eq 16, 3) := by decide +kernel
theorem dX4_isBetter_46 : decode cX4_isBetter 46 = .ok (.iload 4, 2) := by decide +kernel
theorem dX4_isBetter_48 : decode cX4_isBetter 48 = .ok (.ifCond .le 7, 3) := by decide +kernel
theorem dX4_isBetter_51 : decode cX4_isBetter 51 = .ok (.iconst 1, 1) := by decide +kernel
theorem dX4_isBetter_52 : decode cX4_isBetter 52 = .ok (.goto 17, 3) := by decide +kernel
theorem dX4_isBetter_55 : decode cX4_isBetter 55 = .ok (.iconst 0, 1) := by decide +kernel
theorem dX4_isBetter_56 : decode cX4_isBetter 56 = .ok (.goto 13, 3) := by decide +kernel
theorem dX4_isBetter_59 : decode cX4_isBetter 59 = .ok (.iload_n 1, 1) := by decide +kernel
theorem dX4_isBetter_60 : decode cX4_isBetter 60 = .ok (.iload_n 2, 1) := by decide +kernel
theorem dX4_isBetter_61 : decode cX4_isBetter 61 = .ok (.if_icmp .ge 7, 3) := by decide +kernel
theorem dX4_isBetter_64 : decode cX4_isBetter 64 = .ok (.iconst 1, 1) := by decide +kernel
theorem dX4_isBetter_65 : decode cX4_isBetter 65 = .ok (.goto 4, 3) := by decide +kernel
theorem dX4_isBetter_68 : decode cX4_isBetter 68 = .ok (.iconst 0, 1) := by decide +kernel
theorem dX4_isBetter_69 : decode cX4_isBetter 69 = .ok (.ireturn, 1) := by decide +kernel
theorem dX4_riderOf_0 : decode cX4_riderOf 0 = .ok (.iconst (-1), 1) := by decide +kernel
theorem dX4_riderOf_1 : decode cX4_riderOf 1 = .ok (.istore_n 2, 1) := by decide +kernel
theorem dX4_riderOf_2 : decode cX4_riderOf 2 = .ok (.iconst 0, 1) := by decide +kernel
theorem dX4_riderOf_3 : decode cX4_riderOf 3 = .ok (.istore_n 3, 1) := by decide +kernel
theorem dX4_riderOf_4 : decode cX4_riderOf 4 = .ok (.iload_n 3, 1) := by decide +kernel
theorem dX4_riderOf_5 : decode cX4_riderOf 5 = .ok (.aload_n 0, 1) := by decide +kernel
theorem dX4_riderOf_6 : decode cX4_riderOf 6 = .ok (.getfield 107, 3) := by decide +kernel
theorem dX4_riderOf_9 : decode cX4_riderOf 9 = .ok (.if_icmp .ge 68, 3) := by decide +kernel
theorem dX4_riderOf_12 : decode cX4_riderOf 12 = .ok (.iconst 0, 1) := by decide +kernel
theorem dX4_riderOf_13 : decode cX4_riderOf 13 = .ok (.istore 4, 2) := by decide +kernel
theorem dX4_riderOf_15 : decode cX4_riderOf 15 = .ok (.iconst 0, 1) := by decide +kernel
theorem dX4_riderOf_16 : decode cX4_riderOf 16 = .ok (.istore 5, 2) := by decide +kernel
theorem dX4_riderOf_18 : decode cX4_riderOf 18 = .ok (.iload 5, 2) := by decide +kernel
theorem dX4_riderOf_20 : decode cX4_riderOf 20 = .ok (.aload_n 0, 1) := by decide +kernel
theorem dX4_riderOf_21 : decode cX4_riderOf 21 = .ok (.getfield 107, 3) := by decide +kernel
theorem dX4_riderOf_24 : decode cX4_riderOf 24 = .ok (.if_icmp .ge 35, 3) := by decide +kernel
theorem dX4_riderOf_27 : decode cX4_riderOf 27 = .ok (.iload 4, 2) := by decide +kernel
theorem dX4_riderOf_29 : decode cX4_riderOf 29 = .ok (.iload 5, 2) := by decide +kernel
theorem dX4_riderOf_31 : decode cX4_riderOf 31 = .ok (.iload_n 3, 1) := by decide +kernel
theorem dX4_riderOf_32 : decode cX4_riderOf 32 = .ok (.if_icmp .eq 17, 3) := by decide +kernel
theorem dX4_riderOf_35 : decode cX4_riderOf 35 = .ok (.aload_n 0, 1) := by decide +kernel
theorem dX4_riderOf_36 : decode cX4_riderOf 36 = .ok (.iload 5, 2) := by decide +kernel
theorem dX4_riderOf_38 : decode cX4_riderOf 38 = .ok (.iload_n 3, 1) := by decide +kernel
theorem dX4_riderOf_39 : decode cX4_riderOf 39 = .ok (.invokevirtual 212, 3) := by decide +kernel
theorem dX4_riderOf_42 : decode cX4_riderOf 42 = .ok (.ifCond .eq 7, 3) := by decide +kernel
theorem dX4_riderOf_45 : decode cX4_riderOf 45 = .ok (.iconst 1, 1) := by decide +kernel
theorem dX4_riderOf_46 : decode cX4_riderOf 46 = .ok (.goto 4, 3) := by decide +kernel
theorem dX4_riderOf_49 : decode cX4_riderOf 49 = .ok (.iconst 0, 1) := by decide +kernel
theorem dX4_riderOf_50 : decode cX4_riderOf 50 = .ok (.iadd, 1) := by decide +kernel
theorem dX4_riderOf_51 : decode cX4_riderOf 51 = .ok (.istore 4, 2) := by decide +kernel
theorem dX4_riderOf_53 : decode cX4_riderOf 53 = .ok (.iinc 5 1, 3) := by decide +kernel
theorem dX4_riderOf_56 : decode cX4_riderOf 56 = .ok (.goto (-38), 3) := by decide +kernel
theorem dX4_riderOf_59 : decode cX4_riderOf 59 = .ok (.iload 4, 2) := by decide +kernel
theorem dX4_riderOf_61 : decode cX4_riderOf 61 = .ok (.iload_n 1, 1) := by decide +kernel
theorem dX4_riderOf_62 : decode cX4_riderOf 62 = .ok (.if_icmp .ne 7, 3) := by decide +kernel
theorem dX4_riderOf_65 : decode cX4_riderOf 65 = .ok (.iload_n 3, 1) := by decide +kernel
theorem dX4_riderOf_66 : decode cX4_riderOf 66 = .ok (.goto 4, 3) := by decide +kernel
theorem dX4_riderOf_69 : decode cX4_riderOf 69 = .ok (.iload_n 2, 1) := by decide +kernel
theorem dX4_riderOf_70 : decode cX4_riderOf 70 = .ok (.istore_n 2, 1) := by decide +kernel
theorem dX4_riderOf_71 : decode cX4_riderOf 71 = .ok (.iinc 3 1, 3) := by decide +kernel
theorem dX4_riderOf_74 : decode cX4_riderOf 74 = .ok (.goto (-70), 3) := by decide +kernel
theorem dX4_riderOf_77 : decode cX4_riderOf 77 = .ok (.iload_n 2, 1) := by decide +kernel
theorem dX4_riderOf_78 : decode cX4_riderOf 78 = .ok (.ireturn, 1) := by decide +kernel
theorem dX4_ranked_0 : decode cX4_ranked 0 = .ok (.aload_n 0, 1) := by decide +kernel
theorem dX4_ranked_1 : decode cX4_ranked 1 = .ok (.iload_n 1, 1) := by decide +kernel
theorem dX4_ranked_2 : decode cX4_ranked 2 = .ok (.iconst 0, 1) := by decide +kernel
theorem dX4_ranked_3 : decode cX4_ranked 3 = .ok (.bipush 11, 2) := by decide +kernel
theorem dX4_ranked_5 : decode cX4_ranked 5 = .ok (.invokestatic 103, 3) := by decide +kernel
theorem dX4_ranked_8 : decode cX4_ranked 8 = .ok (.ifCond .eq 7, 3) := by decide +kernel
theorem dX4_ranked_11 : decode cX4_ranked 11 = .ok (.iconst 0, 1) := by decide +kernel
theorem dX4_ranked_12 : decode cX4_ranked 12 = .ok (.goto 4, 3) := by decide +kernel
theorem dX4_ranked_15 : decode cX4_ranked 15 = .ok (.iconst 1, 1) := by decide +kernel
theorem dX4_ranked_16 : decode cX4_ranked 16 = .ok (.invokevirtual 113, 3) := by decide +kernel
theorem dX4_ranked_19 : decode cX4_ranked 19 = .ok (.ifCond .eq 11, 3) := by decide +kernel
theorem dX4_ranked_22 : decode cX4_ranked 22 = .ok (.aload_n 0, 1) := by decide +kernel
theorem dX4_ranked_23 : decode cX4_ranked 23 = .ok (.iload_n 1, 1) := by decide +kernel
theorem dX4_ranked_24 : decode cX4_ranked 24 = .ok (.invokevirtual 215, 3) := by decide +kernel
theorem dX4_ranked_27 : decode cX4_ranked 27 = .ok (.goto 4, 3) := by decide +kernel
theorem dX4_ranked_30 : decode cX4_ranked 30 = .ok (.iconst 0, 1) := by decide +kernel
theorem dX4_ranked_31 : decode cX4_ranked 31 = .ok (.ireturn, 1) := by decide +kernel
theorem dX4_isBalanced_0 : decode cX4_isBalanced 0 = .ok (.aload_n 0, 1) := by decide +kernel
theorem dX4_isBalanced_1 : decode cX4_isBalanced 1 = .ok (.getfield 50, 3) := by decide +kernel
theorem dX4_isBalanced_4 : decode cX4_isBalanced 4 = .ok (.iload_n 1, 1) := by decide +kernel
theorem dX4_isBalanced_5 : decode cX4_isBalanced 5 = .ok (.iaload, 1) := by decide +kernel
theorem dX4_isBalanced_6 : decode cX4_isBalanced 6 = .ok (.istore_n 2, 1) := by decide +kernel
theorem dX4_isBalanced_7 : decode cX4_isBalanced 7 = .ok (.iload_n 1, 1) := by decide +kernel
theorem dX4_isBalanced_8 : decode cX4_isBalanced 8 = .ok (.iconst 0, 1) := by decide +kernel
theorem dX4_isBalanced_9 : decode cX4_isBalanced 9 = .ok (.invokestatic 118, 3) := by decide +kernel
theorem dX4_isBalanced_12 : decode cX4_isBalanced 12 = .ok (.istore_n 3, 1) := by decide +kernel
theorem dX4_isBalanced_13 : decode cX4_isBalanced 13 = .ok (.iload_n 3, 1) := by decide +kernel
theorem dX4_isBalanced_14 : decode cX4_isBalanced 14 = .ok (.iload_n 1, 1) := by decide +kernel
theorem dX4_isBalanced_15 : decode cX4_isBalanced 15 = .ok (.iconst 1, 1) := by decide +kernel
theorem dX4_isBalanced_16 : decode cX4_isBalanced 16 = .ok (.iadd, 1) := by decide +kernel
theorem dX4_isBalanced_17 : decode cX4_isBalanced 17 = .ok (.iconst 0, 1) := by decide +kernel
theorem dX4_isBalanced_18 : decode cX4_isBalanced 18 = .ok (.invokestatic 118, 3) := by decide +kernel
theorem dX4_isBalanced_21 : decode cX4_isBalanced 21 = .ok (.if_icmp .ge 18, 3) := by decide +kernel
theorem dX4_isBalanced_24 : decode cX4_isBalanced 24 = .ok (.iload_n 2, 1) := by decide +kernel
theorem dX4_isBalanced_25 : decode cX4_isBalanced 25 = .ok (.aload_n 0, 1) := by decide +kernel
theorem dX4_isBalanced_26 : decode cX4_isBalanced 26 = .ok (.getfield 87, 3) := by decide +kernel
theorem dX4_isBalanced_29 : decode cX4_isBalanced 29 = .ok (.iload_n 3, 1) := by decide +kernel
theorem dX4_isBalanced_30 : decode cX4_isBalanced 30 = .ok (.iaload, 1) := by decide +kernel
theorem dX4_isBalanced_31 : decode cX4_isBalanced 31 = .ok (.iadd, 1) := by decide +kernel
theorem dX4_isBalanced_32 : decode cX4_isBalanced 32 = .ok (.istore_n 2, 1) := by decide +kernel
theorem dX4_isBalanced_33 : decode cX4_isBalanced 33 = .ok (.iinc 3 1, 3) := by decide +kernel
theorem dX4_isBalanced_36 : decode cX4_isBalanced 36 = .ok (.goto (-23), 3) := by decide +kernel
theorem dX4_isBalanced_39 : decode cX4_isBalanced 39 = .ok (.aload_n 0, 1) := by decide +kernel
theorem dX4_isBalanced_40 : decode cX4_isBalanced 40 = .ok (.getfield 47, 3) := by decide +kernel
theorem dX4_isBalanced_43 : decode cX4_isBalanced 43 = .ok (.iload_n 1, 1) := by decide +kernel
theorem dX4_isBalanced_44 : decode cX4_isBalanced 44 = .ok (.iaload, 1) := by decide +kernel
theorem dX4_isBalanced_45 : decode cX4_isBalanced 45 = .ok (.iconst 3, 1) := by decide +kernel
theorem dX4_isBalanced_46 : decode cX4_isBalanced 46 = .ok (.if_icmp .ne 12, 3) := by decide +kernel
theorem dX4_isBalanced_49 : decode cX4_isBalanced 49 = .ok (.iload_n 2, 1) := by decide +kernel
theorem dX4_isBalanced_50 : decode cX4_isBalanced 50 = .ok (.aload_n 0, 1) := by decide +kernel
theorem dX4_isBalanced_51 : decode cX4_isBalanced 51 = .ok (.iload_n 1, 1) := by decide +kernel
theorem dX4_isBalanced_52 : decode cX4_isBalanced 52 = .ok (.invokevirtual 126, 3) := by decide +kernel
theorem dX4_isBalanced_55 : decode cX4_isBalanced 55 = .ok (.if_icmp .ne 7, 3) := by decide +kernel
theorem dX4_isBalanced_58 : decode cX4_isBalanced 58 = .ok (.iconst 1, 1) := by decide +kernel
theorem dX4_isBalanced_59 : decode cX4_isBalanced 59 = .ok (.goto 4, 3) := by decide +kernel
theorem dX4_isBalanced_62 : decode cX4_isBalanced 62 = .ok (.iconst 0, 1) := by decide +kernel
theorem dX4_isBalanced_63 : decode cX4_isBalanced 63 = .ok (.ireturn, 1) := by decide +kernel
theorem dX4_balances_0 : decode cX4_balances 0 = .ok (.aload_n 0, 1) := by decide +kernel
theorem dX4_balances_1 : decode cX4_balances 1 = .ok (.iconst 0, 1) := by decide +kernel
theorem dX4_balances_2 : decode cX4_balances 2 = .ok (.putfield 97, 3) := by decide +kernel
theorem dX4_balances_5 : decode cX4_balances 5 = .ok (.iconst 1, 1) := by decide +kernel
theorem dX4_balances_6 : decode cX4_balances 6 = .ok (.istore_n 1, 1) := by decide +kernel
theorem dX4_balances_7 : decode cX4_balances 7 = .ok (.iconst 0, 1) := by decide +kernel
theorem dX4_balances_8 : decode cX4_balances 8 = .ok (.istore_n 2, 1) := by decide +kernel
theorem dX4_balances_9 : decode cX4_balances 9 = .ok (.iload_n 2, 1) := by decide +kernel
theorem dX4_balances_10 : decode cX4_balances 10 = .ok (.aload_n 0, 1) := by decide +kernel
theorem dX4_balances_11 : decode cX4_balances 11 = .ok (.getfield 110, 3) := by decide +kernel
theorem dX4_balances_14 : decode cX4_balances 14 = .ok (.if_icmp .ge 27, 3) := by decide +kernel
theorem dX4_balances_17 : decode cX4_balances 17 = .ok (.iload_n 1, 1) := by decide +kernel
theorem dX4_balances_18 : decode cX4_balances 18 = .ok (.ifCond .eq 15, 3) := by decide +kernel
theorem dX4_balances_21 : decode cX4_balances 21 = .ok (.aload_n 0, 1) := by decide +kernel
theorem dX4_balances_22 : decode cX4_balances 22 = .ok (.iload_n 2, 1) := by decide +kernel
theorem dX4_balances_23 : decode cX4_balances 23 = .ok (.invokevirtual 218, 3) := by decide +kernel
theorem dX4_balances_26 : decode cX4_balances 26 = .ok (.ifCond .eq 7, 3) := by decide +kernel
theorem dX4_balances_29 : decode cX4_balances 29 = .ok (.iconst 1, 1) := by decide +kernel
theorem dX4_balances_30 : decode cX4_balances 30 = .ok (.goto 4, 3) := by decide +kernel
theorem dX4_balances_33 : decode cX4_balances 33 = .ok (.iconst 0, 1) := by decide +kernel
theorem dX4_balances_34 : decode cX4_balances 34 = .ok (.istore_n 1, 1) := by decide +kernel
theorem dX4_balances_35 : decode cX4_balances 35 = .ok (.iinc 2 1, 3) := by decide +kernel
theorem dX4_balances_38 : decode cX4_balances 38 = .ok (.goto (-29), 3) := by decide +kernel
theorem dX4_balances_41 : decode cX4_balances 41 = .ok (.iconst 0, 1) := by decide +kernel
theorem dX4_balances_42 : decode cX4_balances 42 = .ok (.istore_n 2, 1) := by decide +kernel
theorem dX4_balances_43 : decode cX4_balances 43 = .ok (.iload_n 2, 1) := by decide +kernel
theorem dX4_balances_44 : decode cX4_balances 44 = .ok (.aload_n 0, 1) := by decide +kernel
theorem dX4_balances_45 : decode cX4_balances 45 = .ok (.getfield 100, 3) := by decide +kernel
theorem dX4_balances_48 : decode cX4_balances 48 = .ok (.if_icmp .ge 43, 3) := by decide +kernel
theorem dX4_balances_51 : decode cX4_balances 51 = .ok (.iload_n 1, 1) := by decide +kernel
theorem dX4_balances_52 : decode cX4_balances 52 = .ok (.ifCond .eq 31, 3) := by decide +kernel
theorem dX4_balances_55 : decode cX4_balances 55 = .ok (.aload_n 0, 1) := by decide +kernel
theorem dX4_balances_56 : decode cX4_balances 56 = .ok (.getfield 22, 3) := by decide +kernel
theorem dX4_balances_59 : decode cX4_balances 59 = .ok (.iload_n 2, 1) := by decide +kernel
theorem dX4_balances_60 : decode cX4_balances 60 = .ok (.laload, 1) := by decide +kernel
theorem dX4_balances_61 : decode cX4_balances 61 = .ok (.aload_n 0, 1) := by decide +kernel
theorem dX4_balances_62 : decode cX4_balances 62 = .ok (.getfield 22, 3) := by decide +kernel
theorem dX4_balances_65 : decode cX4_balances 65 = .ok (.iload_n 2, 1) := by decide +kernel
theorem dX4_balances_66 : decode cX4_balances 66 = .ok (.laload, 1) := by decide +kernel
theorem dX4_balances_67 : decode cX4_balances 67 = .ok (.iconst 1, 1) := by decide +kernel
theorem dX4_balances_68 : decode cX4_balances 68 = .ok (.lshr, 1) := by decide +kernel
theorem dX4_balances_69 : decode cX4_balances 69 = .ok (.land, 1) := by decide +kernel
theorem dX4_balances_70 : decode cX4_balances 70 = .ok (.ldc2_w 221, 3) := by decide +kernel
theorem dX4_balances_73 : decode cX4_balances 73 = .ok (.land, 1) := by decide +kernel
theorem dX4_balances_74 : decode cX4_balances 74 = .ok (.lconst 0, 1) := by decide +kernel
theorem dX4_balances_75 : decode cX4_balances 75 = .ok (.lcmp, 1) := by decide +kernel
theorem dX4_balances_76 : decode cX4_balances 76 = .ok (.ifCond .ne 7, 3) := by decide +kernel
theorem dX4_balances_79 : decode cX4_balances 79 = .ok (.iconst 1, 1) := by decide +kernel
theorem dX4_balances_80 : decode cX4_balances 80 = .ok (.goto 4, 3) := by decide +kernel
theorem dX4_balances_83 : decode cX4_balances 83 = .ok (.iconst 0, 1) := by decide +kernel
theorem dX4_balances_84 : decode cX4_balances 84 = .ok (.istore_n 1, 1) := by decide +kernel
theorem dX4_balances_85 : decode cX4_balances 85 = .ok (.iinc 2 1, 3) := by decide +kernel
theorem dX4_balances_88 : decode cX4_balances 88 = .ok (.goto (-45), 3) := by decide +kernel
theorem dX4_balances_91 : decode cX4_balances 91 = .ok (.iload_n 1, 1) := by decide +kernel
theorem dX4_balances_92 : decode cX4_balances 92 = .ok (.ireturn, 1) := by decide +kernel
