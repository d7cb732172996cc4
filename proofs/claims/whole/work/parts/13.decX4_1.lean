theorem dX4_greatest_72 : decode cX4_greatest 72 = .ok (.iload_n 1, 1) := by decide +kernel
theorem dX4_greatest_73 : decode cX4_greatest 73 = .ok (.iaload, 1) := by decide +kernel
theorem dX4_greatest_74 : decode cX4_greatest 74 = .ok (.if_icmp .ge 94, 3) := by decide +kernel
theorem dX4_greatest_77 : decode cX4_greatest 77 = .ok (.aload_n 0, 1) := by decide +kernel
theorem dX4_greatest_78 : decode cX4_greatest 78 = .ok (.getfield 94, 3) := by decide +kernel
theorem dX4_greatest_81 : decode cX4_greatest 81 = .ok (.iload 4, 2) := by decide +kernel
theorem dX4_greatest_83 : decode cX4_greatest 83 = .ok (.baload, 1) := by decide +kernel
theorem dX4_greatest_84 : decode cX4_greatest 84 = .ok (.ifCond .eq 84, 3) := by decide +kernel
theorem dX4_greatest_87 : decode cX4_greatest 87 = .ok (.aload_n 0, 1) := by decide +kernel
theorem dX4_greatest_88 : decode cX4_greatest 88 = .ok (.getfield 59, 3) := by decide +kernel
theorem dX4_greatest_91 : decode cX4_greatest 91 = .ok (.iload_n 1, 1) := by decide +kernel
theorem dX4_greatest_92 : decode cX4_greatest 92 = .ok (.iload_n 3, 1) := by decide +kernel
theorem dX4_greatest_93 : decode cX4_greatest 93 = .ok (.invokestatic 118, 3) := by decide +kernel
theorem dX4_greatest_96 : decode cX4_greatest 96 = .ok (.iaload, 1) := by decide +kernel
theorem dX4_greatest_97 : decode cX4_greatest 97 = .ok (.iload 5, 2) := by decide +kernel
theorem dX4_greatest_99 : decode cX4_greatest 99 = .ok (.ishr, 1) := by decide +kernel
theorem dX4_greatest_100 : decode cX4_greatest 100 = .ok (.iconst 1, 1) := by decide +kernel
theorem dX4_greatest_101 : decode cX4_greatest 101 = .ok (.iand, 1) := by decide +kernel
theorem dX4_greatest_102 : decode cX4_greatest 102 = .ok (.iconst 1, 1) := by decide +kernel
theorem dX4_greatest_103 : decode cX4_greatest 103 = .ok (.if_icmp .ne 26, 3) := by decide +kernel
theorem dX4_greatest_106 : decode cX4_greatest 106 = .ok (.iload 4, 2) := by decide +kernel
theorem dX4_greatest_108 : decode cX4_greatest 108 = .ok (.iload 5, 2) := by decide +kernel
theorem dX4_greatest_110 : decode cX4_greatest 110 = .ok (.invokestatic 157, 3) := by decide +kernel
theorem dX4_greatest_113 : decode cX4_greatest 113 = .ok (.idiv, 1) := by decide +kernel
theorem dX4_greatest_114 : decode cX4_greatest 114 = .ok (.iconst 5, 1) := by decide +kernel
theorem dX4_greatest_115 : decode cX4_greatest 115 = .ok (.irem, 1) := by decide +kernel
theorem dX4_greatest_116 : decode cX4_greatest 116 = .ok (.aload_n 0, 1) := by decide +kernel
theorem dX4_greatest_117 : decode cX4_greatest 117 = .ok (.getfield 38, 3) := by decide +kernel
theorem dX4_greatest_120 : decode cX4_greatest 120 = .ok (.iload_n 1, 1) := by decide +kernel
theorem dX4_greatest_121 : decode cX4_greatest 121 = .ok (.iaload, 1) := by decide +kernel
theorem dX4_greatest_122 : decode cX4_greatest 122 = .ok (.if_icmp .ge 7, 3) := by decide +kernel
theorem dX4_greatest_125 : decode cX4_greatest 125 = .ok (.iconst 1, 1) := by decide +kernel
theorem dX4_greatest_126 : decode cX4_greatest 126 = .ok (.goto 4, 3) := by decide +kernel
theorem dX4_greatest_129 : decode cX4_greatest 129 = .ok (.iconst 0, 1) := by decide +kernel
theorem dX4_greatest_130 : decode cX4_greatest 130 = .ok (.istore 6, 2) := by decide +kernel
theorem dX4_greatest_132 : decode cX4_greatest 132 = .ok (.iload 6, 2) := by decide +kernel
theorem dX4_greatest_134 : decode cX4_greatest 134 = .ok (.ifCond .eq 28, 3) := by decide +kernel
theorem dX4_greatest_137 : decode cX4_greatest 137 = .ok (.aload_n 0, 1) := by decide +kernel
theorem dX4_greatest_138 : decode cX4_greatest 138 = .ok (.iload_n 1, 1) := by decide +kernel
theorem dX4_greatest_139 : decode cX4_greatest 139 = .ok (.iload_n 3, 1) := by decide +kernel
theorem dX4_greatest_140 : decode cX4_greatest 140 = .ok (.iload 5, 2) := by decide +kernel
theorem dX4_greatest_142 : decode cX4_greatest 142 = .ok (.invokevirtual 148, 3) := by decide +kernel
theorem dX4_greatest_145 : decode cX4_greatest 145 = .ok (.ifCond .eq 17, 3) := by decide +kernel
theorem dX4_greatest_148 : decode cX4_greatest 148 = .ok (.aload_n 0, 1) := by decide +kernel
theorem dX4_greatest_149 : decode cX4_greatest 149 = .ok (.getfield 94, 3) := by decide +kernel
theorem dX4_greatest_152 : decode cX4_greatest 152 = .ok (.iload 4, 2) := by decide +kernel
theorem dX4_greatest_154 : decode cX4_greatest 154 = .ok (.iload 5, 2) := by decide +kernel
theorem dX4_greatest_156 : decode cX4_greatest 156 = .ok (.invokestatic 157, 3) := by decide +kernel
theorem dX4_greatest_159 : decode cX4_greatest 159 = .ok (.iadd, 1) := by decide +kernel
theorem dX4_greatest_160 : decode cX4_greatest 160 = .ok (.iconst 1, 1) := by decide +kernel
theorem dX4_greatest_161 : decode cX4_greatest 161 = .ok (.bastore, 1) := by decide +kernel
theorem dX4_greatest_162 : decode cX4_greatest 162 = .ok (.iinc 5 1, 3) := by decide +kernel
theorem dX4_greatest_165 : decode cX4_greatest 165 = .ok (.goto (-99), 3) := by decide +kernel
theorem dX4_greatest_168 : decode cX4_greatest 168 = .ok (.iinc 4 (-1), 3) := by decide +kernel
theorem dX4_greatest_171 : decode cX4_greatest 171 = .ok (.goto (-113), 3) := by decide +kernel
theorem dX4_greatest_174 : decode cX4_greatest 174 = .ok (.iinc 2 1, 3) := by decide +kernel
theorem dX4_greatest_177 : decode cX4_greatest 177 = .ok (.goto (-145), 3) := by decide +kernel
theorem dX4_greatest_180 : decode cX4_greatest 180 = .ok (.iconst 0, 1) := by decide +kernel
theorem dX4_greatest_181 : decode cX4_greatest 181 = .ok (.istore_n 2, 1) := by decide +kernel
theorem dX4_greatest_182 : decode cX4_greatest 182 = .ok (.iconst 0, 1) := by decide +kernel
theorem dX4_greatest_183 : decode cX4_greatest 183 = .ok (.istore_n 3, 1) := by decide +kernel
theorem dX4_greatest_184 : decode cX4_greatest 184 = .ok (.iload_n 3, 1) := by decide +kernel
theorem dX4_greatest_185 : decode cX4_greatest 185 = .ok (.sipush 625, 3) := by decide +kernel
theorem dX4_greatest_188 : decode cX4_greatest 188 = .ok (.if_icmp .ge 54, 3) := by decide +kernel
theorem dX4_greatest_191 : decode cX4_greatest 191 = .ok (.iload_n 3, 1) := by decide +kernel
theorem dX4_greatest_192 : decode cX4_greatest 192 = .ok (.iconst 5, 1) := by decide +kernel
theorem dX4_greatest_193 : decode cX4_greatest 193 = .ok (.irem, 1) := by decide +kernel
theorem dX4_greatest_194 : decode cX4_greatest 194 = .ok (.iload_n 3, 1) := by decide +kernel
theorem dX4_greatest_195 : decode cX4_greatest 195 = .ok (.iconst 5, 1) := by decide +kernel
theorem dX4_greatest_196 : decode cX4_greatest 196 = .ok (.idiv, 1) := by decide +kernel
theorem dX4_greatest_197 : decode cX4_greatest 197 = .ok (.iconst 5, 1) := by decide +kernel
theorem dX4_greatest_198 : decode cX4_greatest 198 = .ok (.irem, 1) := by decide +kernel
theorem dX4_greatest_199 : decode cX4_greatest 199 = .ok (.iadd, 1) := by decide +kernel
theorem dX4_greatest_200 : decode cX4_greatest 200 = .ok (.iload_n 3, 1) := by decide +kernel
theorem dX4_greatest_201 : decode cX4_greatest 201 = .ok (.bipush 25, 2) := by decide +kernel
theorem dX4_greatest_203 : decode cX4_greatest 203 = .ok (.idiv, 1) := by decide +kernel
theorem dX4_greatest_204 : decode cX4_greatest 204 = .ok (.iconst 5, 1) := by decide +kernel
theorem dX4_greatest_205 : decode cX4_greatest 205 = .ok (.irem, 1) := by decide +kernel
theorem dX4_greatest_206 : decode cX4_greatest 206 = .ok (.iadd, 1) := by decide +kernel
theorem dX4_greatest_207 : decode cX4_greatest 207 = .ok (.iload_n 3, 1) := by decide +kernel
theorem dX4_greatest_208 : decode cX4_greatest 208 = .ok (.bipush 125, 2) := by decide +kernel
theorem dX4_greatest_210 : decode cX4_greatest 210 = .ok (.idiv, 1) := by decide +kernel
theorem dX4_greatest_211 : decode cX4_greatest 211 = .ok (.iadd, 1) := by decide +kernel
theorem dX4_greatest_212 : decode cX4_greatest 212 = .ok (.istore 4, 2) := by decide +kernel
theorem dX4_greatest_214 : decode cX4_greatest 214 = .ok (.aload_n 0, 1) := by decide +kernel
theorem dX4_greatest_215 : decode cX4_greatest 215 = .ok (.getfield 94, 3) := by decide +kernel
theorem dX4_greatest_218 : decode cX4_greatest 218 = .ok (.iload_n 3, 1) := by decide +kernel
theorem dX4_greatest_219 : decode cX4_greatest 219 = .ok (.baload, 1) := by decide +kernel
theorem dX4_greatest_220 : decode cX4_greatest 220 = .ok (.ifCond .eq 14, 3) := by decide +kernel
theorem dX4_greatest_223 : decode cX4_greatest 223 = .ok (.iload 4, 2) := by decide +kernel
theorem dX4_greatest_225 : decode cX4_greatest 225 = .ok (.iload_n 2, 1) := by decide +kernel
theorem dX4_greatest_226 : decode cX4_greatest 226 = .ok (.if_icmp .le 8, 3) := by decide +kernel
theorem dX4_greatest_229 : decode cX4_greatest 229 = .ok (.iload 4, 2) := by decide +kernel
theorem dX4_greatest_231 : decode cX4_greatest 231 = .ok (.goto 4, 3) := by decide +kernel
theorem dX4_greatest_234 : decode cX4_greatest 234 = .ok (.iload_n 2, 1) := by decide +kernel
theorem dX4_greatest_235 : decode cX4_greatest 235 = .ok (.istore_n 2, 1) := by decide +kernel
theorem dX4_greatest_236 : decode cX4_greatest 236 = .ok (.iinc 3 1, 3) := by decide +kernel
theorem dX4_greatest_239 : decode cX4_greatest 239 = .ok (.goto (-55), 3) := by decide +kernel
theorem dX4_greatest_242 : decode cX4_greatest 242 = .ok (.iload_n 2, 1) := by decide +kernel
theorem dX4_greatest_243 : decode cX4_greatest 243 = .ok (.ireturn, 1) := by decide +kernel
theorem dX4_most_0 : decode cX4_most 0 = .ok (.aload_n 0, 1) := by decide +kernel
theorem dX4_most_1 : decode cX4_most 1 = .ok (.aload_n 0, 1) := by decide +kernel
theorem dX4_most_2 : decode cX4_most 2 = .ok (.iload_n 1, 1) := by decide +kernel
theorem dX4_most_3 : decode cX4_most 3 = .ok (.invokevirtual 129, 3) := by decide +kernel
theorem dX4_most_6 : decode cX4_most 6 = .ok (.ifCond .eq 7, 3) := by decide +kernel
theorem dX4_most_9 : decode cX4_most 9 = .ok (.iconst 0, 1) := by decide +kernel
theorem dX4_most_10 : decode cX4_most 10 = .ok (.goto 4, 3) := by decide +kernel
theorem dX4_most_13 : decode cX4_most 13 = .ok (.iconst 1, 1) := by decide +kernel
theorem dX4_most_14 : decode cX4_most 14 = .ok (.invokevirtual 113, 3) := by decide +kernel
theorem dX4_most_17 : decode cX4_most 17 = .ok (.ifCond .eq 11, 3) := by decide +kernel
theorem dX4_most_20 : decode cX4_most 20 = .ok (.aload_n 0, 1) := by decide +kernel
theorem dX4_most_21 : decode cX4_most 21 = .ok (.iload_n 1, 1) := by decide +kernel
theorem dX4_most_22 : decode cX4_most 22 = .ok (.invokevirtual 160, 3) := by decide +kernel
theorem dX4_most_25 : decode cX4_most 25 = .ok (.goto 4, 3) := by decide +kernel
theorem dX4_most_28 : decode cX4_most 28 = .ok (.iconst 0, 1) := by decide +kernel
theorem dX4_most_29 : decode cX4_most 29 = .ok (.ireturn, 1) := by decide +kernel
theorem dX4_hide_0 : decode cX4_hide 0 = .ok (.aload_n 0, 1) := by decide +kernel
theorem dX4_hide_1 : decode cX4_hide 1 = .ok (.iload_n 1, 1) := by decide +kernel
theorem dX4_hide_2 : decode cX4_hide 2 = .ok (.iconst 0, 1) := by decide +kernel
theorem dX4_hide_3 : decode cX4_hide 3 = .ok (.ldc 163, 2) := by decide +kernel
theorem dX4_hide_5 : decode cX4_hide 5 = .ok (.invokestatic 103, 3) := by decide +kernel
theorem dX4_hide_8 : decode cX4_hide 8 = .ok (.ifCond .eq 7, 3) := by decide +kernel
theorem dX4_hide_11 : decode cX4_hide 11 = .ok (.iconst 0, 1) := by decide +kernel
theorem dX4_hide_12 : decode cX4_hide 12 = .ok (.goto 4, 3) := by decide +kernel
theorem dX4_hide_15 : decode cX4_hide 15 = .ok (.iconst 1, 1) := by decide +kernel
theorem dX4_hide_16 : decode cX4_hide 16 = .ok (.invokevirtual 113, 3) := by decide +kernel
theorem dX4_hide_19 : decode cX4_hide 19 = .ok (.ifCond .eq 8, 3) := by decide +kernel
theorem dX4_hide_22 : decode cX4_hide 22 = .ok (.aload_n 0, 1) := by decide +kernel
theorem dX4_hide_23 : decode cX4_hide 23 = .ok (.iload_n 1, 1) := by decide +kernel
theorem dX4_hide_24 : decode cX4_hide 24 = .ok (.putfield 90, 3) := by decide +kernel
theorem dX4_hide_27 : decode cX4_hide 27 = .ok (.return_, 1) := by decide +kernel
theorem dX4_canBeDrawn_0 : decode cX4_canBeDrawn 0 = .ok (.aload_n 0, 1) := by decide +kernel
theorem dX4_canBeDrawn_1 : decode cX4_canBeDrawn 1 = .ok (.getfield 7, 3) := by decide +kernel
theorem dX4_canBeDrawn_4 : decode cX4_canBeDrawn 4 = .ok (.iload_n 1, 1) := by decide +kernel
theorem dX4_canBeDrawn_5 : decode cX4_canBeDrawn 5 = .ok (.iaload, 1) := by decide +kernel
theorem dX4_canBeDrawn_6 : decode cX4_canBeDrawn 6 = .ok (.aload_n 0, 1) := by decide +kernel
theorem dX4_canBeDrawn_7 : decode cX4_canBeDrawn 7 = .ok (.getfield 26, 3) := by decide +kernel
theorem dX4_canBeDrawn_10 : decode cX4_canBeDrawn 10 = .ok (.iload_n 2, 1) := by decide +kernel
theorem dX4_canBeDrawn_11 : decode cX4_canBeDrawn 11 = .ok (.iaload, 1) := by decide +kernel
theorem dX4_canBeDrawn_12 : decode cX4_canBeDrawn 12 = .ok (.if_icmp .ne 7, 3) := by decide +kernel
theorem dX4_canBeDrawn_15 : decode cX4_canBeDrawn 15 = .ok (.iconst 1, 1) := by decide +kernel
theorem dX4_canBeDrawn_16 : decode cX4_canBeDrawn 16 = .ok (.goto 4, 3) := by decide +kernel
theorem dX4_canBeDrawn_19 : decode cX4_canBeDrawn 19 = .ok (.iconst 0, 1) := by decide +kernel
theorem dX4_canBeDrawn_20 : decode cX4_canBeDrawn 20 = .ok (.istore 4, 2) := by decide +kernel
theorem dX4_canBeDrawn_22 : decode cX4_canBeDrawn 22 = .ok (.iload_n 3, 1) := by decide +kernel
theorem dX4_canBeDrawn_23 : decode cX4_canBeDrawn 23 = .ok (.iconst 1, 1) := by decide +kernel
theorem dX4_canBeDrawn_24 : decode cX4_canBeDrawn 24 = .ok (.isub, 1) := by decide +kernel
theorem dX4_canBeDrawn_25 : decode cX4_canBeDrawn 25 = .ok (.istore 5, 2) := by decide +kernel
theorem dX4_canBeDrawn_27 : decode cX4_canBeDrawn 27 = .ok (.iload 5, 2) := by decide +kernel
theorem dX4_canBeDrawn_29 : decode cX4_canBeDrawn 29 = .ok (.iload_n 3, 1) := by decide +kernel
theorem dX4_canBeDrawn_30 : decode cX4_canBeDrawn 30 = .ok (.iconst 1, 1) := by decide +kernel
theorem dX4_canBeDrawn_31 : decode cX4_canBeDrawn 31 = .ok (.iadd, 1) := by decide +kernel
theorem dX4_canBeDrawn_32 : decode cX4_canBeDrawn 32 = .ok (.if_icmp .gt 48, 3) := by decide +kernel
theorem dX4_canBeDrawn_35 : decode cX4_canBeDrawn 35 = .ok (.iload 4, 2) := by decide +kernel
theorem dX4_canBeDrawn_37 : decode cX4_canBeDrawn 37 = .ok (.ifCond .eq 34, 3) := by decide +kernel
theorem dX4_canBeDrawn_40 : decode cX4_canBeDrawn 40 = .ok (.iload 5, 2) := by decide +kernel
theorem dX4_canBeDrawn_42 : decode cX4_canBeDrawn 42 = .ok (.iconst 0, 1) := by decide +kernel
theorem dX4_canBeDrawn_43 : decode cX4_canBeDrawn 43 = .ok (.bipush 63, 2) := by decide +kernel
theorem dX4_canBeDrawn_45 : decode cX4_canBeDrawn 45 = .ok (.invokestatic 103, 3) := by decide +kernel
theorem dX4_canBeDrawn_48 : decode cX4_canBeDrawn 48 = .ok (.ifCond .eq 19, 3) := by decide +kernel
theorem dX4_canBeDrawn_51 : decode cX4_canBeDrawn 51 = .ok (.aload_n 0, 1) := by decide +kernel
theorem dX4_canBeDrawn_52 : decode cX4_canBeDrawn 52 = .ok (.getfield 22, 3) := by decide +kernel
theorem dX4_canBeDrawn_55 : decode cX4_canBeDrawn 55 = .ok (.iload_n 1, 1) := by decide +kernel
theorem dX4_canBeDrawn_56 : decode cX4_canBeDrawn 56 = .ok (.laload, 1) := by decide +kernel
theorem dX4_canBeDrawn_57 : decode cX4_canBeDrawn 57 = .ok (.iload 5, 2) := by decide +kernel
theorem dX4_canBeDrawn_59 : decode cX4_canBeDrawn 59 = .ok (.lshr, 1) := by decide +kernel
theorem dX4_canBeDrawn_60 : decode cX4_canBeDrawn 60 = .ok (.lconst 1, 1) := by decide +kernel
theorem dX4_canBeDrawn_61 : decode cX4_canBeDrawn 61 = .ok (.land, 1) := by decide +kernel
theorem dX4_canBeDrawn_62 : decode cX4_canBeDrawn 62 = .ok (.lconst 0, 1) := by decide +kernel
theorem dX4_canBeDrawn_63 : decode cX4_canBeDrawn 63 = .ok (.lcmp, 1) := by decide +kernel
theorem dX4_canBeDrawn_64 : decode cX4_canBeDrawn 64 = .ok (.ifCond .ne 7, 3) := by decide +kernel
theorem dX4_canBeDrawn_67 : decode cX4_canBeDrawn 67 = .ok (.iconst 1, 1) := by decide +kernel
theorem dX4_canBeDrawn_68 : decode cX4_canBeDrawn 68 = .ok (.goto 4, 3) := by decide +kernel
theorem dX4_canBeDrawn_71 : decode cX4_canBeDrawn 71 = .ok (.iconst 0, 1) := by decide +kernel
theorem dX4_canBeDrawn_72 : decode cX4_canBeDrawn 72 = .ok (.istore 4, 2) := by decide +kernel
theorem dX4_canBeDrawn_74 : decode cX4_canBeDrawn 74 = .ok (.iinc 5 1, 3) := by decide +kernel
theorem dX4_canBeDrawn_77 : decode cX4_canBeDrawn 77 = .ok (.goto (-50), 3) := by decide +kernel
theorem dX4_canBeDrawn_80 : decode cX4_canBeDrawn 80 = .ok (.iload 4, 2) := by decide +kernel
theorem dX4_canBeDrawn_82 : decode cX4_canBeDrawn 82 = .ok (.ireturn, 1) := by decide +kernel
theorem dX4_drawsFor_0 : decode cX4_drawsFor 0 = .ok (.aload_n 0, 1) := by decide +kernel
theorem dX4_drawsFor_1 : decode cX4_drawsFor 1 = .ok (.getfield 32, 3) := by decide +kernel
theorem dX4_drawsFor_4 : decode cX4_drawsFor 4 = .ok (.iload_n 1, 1) := by decide +kernel
theorem dX4_drawsFor_5 : decode cX4_drawsFor 5 = .ok (.iaload, 1) := by decide +kernel
theorem dX4_drawsFor_6 : decode cX4_drawsFor 6 = .ok (.aload_n 0, 1) := by decide +kernel
theorem dX4_drawsFor_7 : decode cX4_drawsFor 7 = .ok (.getfield 65, 3) := by decide +kernel
theorem dX4_drawsFor_10 : decode cX4_drawsFor 10 = .ok (.iload_n 1, 1) := by decide +kernel
theorem dX4_drawsFor_11 : decode cX4_drawsFor 11 = .ok (.iload_n 2, 1) := by decide +kernel
theorem dX4_drawsFor_12 : decode cX4_drawsFor 12 = .ok (.invokestatic 118, 3) := by decide +kernel
theorem dX4_drawsFor_15 : decode cX4_drawsFor 15 = .ok (.iaload, 1) := by decide +kernel
theorem dX4_drawsFor_16 : decode cX4_drawsFor 16 = .ok (.iadd, 1) := by decide +kernel
theorem dX4_drawsFor_17 : decode cX4_drawsFor 17 = .ok (.istore_n 3, 1) := by decide +kernel
theorem dX4_drawsFor_18 : decode cX4_drawsFor 18 = .ok (.iconst 0, 1) := by decide +kernel
theorem dX4_drawsFor_19 : decode cX4_drawsFor 19 = .ok (.istore 4, 2) := by decide +kernel
theorem dX4_drawsFor_21 : decode cX4_drawsFor 21 = .ok (.iconst 0, 1) := by decide +kernel
theorem dX4_drawsFor_22 : decode cX4_drawsFor 22 = .ok (.istore 5, 2) := by decide +kernel
theorem dX4_drawsFor_24 : decode cX4_drawsFor 24 = .ok (.iload 5, 2) := by decide +kernel
theorem dX4_drawsFor_26 : decode cX4_drawsFor 26 = .ok (.aload_n 0, 1) := by decide +kernel
theorem dX4_drawsFor_27 : decode cX4_drawsFor 27 = .ok (.getfield 100, 3) := by decide +kernel
theorem dX4_drawsFor_30 : decode cX4_drawsFor 30 = .ok (.if_icmp .ge 30, 3) := by decide +kernel
theorem dX4_drawsFor_33 : decode cX4_drawsFor 33 = .ok (.iload 4, 2) := by decide +kernel
theorem dX4_drawsFor_35 : decode cX4_drawsFor 35 = .ok (.aload_n 0, 1) := by decide +kernel
theorem dX4_drawsFor_36 : decode cX4_drawsFor 36 = .ok (.iload 5, 2) := by decide +kernel
theorem dX4_drawsFor_38 : decode cX4_drawsFor 38 = .ok (.iload_n 1, 1) := by decide +kernel
theorem dX4_drawsFor_39 : decode cX4_drawsFor 39 = .ok (.iload_n 3, 1) := by decide +kernel
theorem dX4_drawsFor_40 : decode cX4_drawsFor 40 = .ok (.invokevirtual 164, 3) := by decide +kernel
theorem dX4_drawsFor_43 : decode cX4_drawsFor 43 = .ok (.ifCond .eq 7, 3) := by decide +kernel
theorem dX4_drawsFor_46 : decode cX4_drawsFor 46 = .ok (.iconst 1, 1) := by decide +kernel
theorem dX4_drawsFor_47 : decode cX4_drawsFor 47 = .ok (.goto 4, 3) := by decide +kernel
theorem dX4_drawsFor_50 : decode cX4_drawsFor 50 = .ok (.iconst 0, 1) := by decide +kernel
theorem dX4_drawsFor_51 : decode cX4_drawsFor 51 = .ok (.iadd, 1) := by decide +kernel
theorem dX4_drawsFor_52 : decode cX4_drawsFor 52 = .ok (.istore 4, 2) := by decide +kernel
theorem dX4_drawsFor_54 : decode cX4_drawsFor 54 = .ok (.iinc 5 1, 3) := by decide +kernel
theorem dX4_drawsFor_57 : decode cX4_drawsFor 57 = .ok (.goto (-33), 3) := by decide +kernel
theorem dX4_drawsFor_60 : decode cX4_drawsFor 60 = .ok (.iconst (-1), 1) := by decide +kernel
theorem dX4_drawsFor_61 : decode cX4_drawsFor 61 = .ok (.istore 5, 2) := by decide +kernel
theorem dX4_drawsFor_63 : decode cX4_drawsFor 63 = .ok (.iload 4, 2) := by decide +kernel
theorem dX4_drawsFor_65 : decode cX4_drawsFor 65 = .ok (.ifCond .le 88, 3) := by decide +kernel
theorem dX4_drawsFor_68 : decode cX4_drawsFor 68 = .ok (.aload_n 0, 1) := by decide +kernel
theorem dX4_drawsFor_69 : decode cX4_drawsFor 69 = .ok (.bipush 75, 2) := by decide +kernel
theorem dX4_drawsFor_71 : decode cX4_drawsFor 71 = .ok (.aload_n 0, 1) := by decide +kernel
theorem dX4_drawsFor_72 : decode cX4_drawsFor 72 = .ok (.getfield 90, 3) := by decide +kernel
theorem dX4_drawsFor_75 : decode cX4_drawsFor 75 = .ok (.imul, 1) := by decide +kernel
theorem dX4_drawsFor_76 : decode cX4_drawsFor 76 = .ok (.bipush 74, 2) := by decide +kernel
theorem dX4_drawsFor_78 : decode cX4_drawsFor 78 = .ok (.iadd, 1) := by decide +kernel
theorem dX4_drawsFor_79 : decode cX4_drawsFor 79 = .ok (.ldc 167, 2) := by decide +kernel
theorem dX4_drawsFor_81 : decode cX4_drawsFor 81 = .ok (.irem, 1) := by decide +kernel
theorem dX4_drawsFor_82 : decode cX4_drawsFor 82 = .ok (.putfield 90, 3) := by decide +kernel
theorem dX4_drawsFor_85 : decode cX4_drawsFor 85 = .ok (.aload_n 0, 1) := by decide +kernel
theorem dX4_drawsFor_86 : decode cX4_drawsFor 86 = .ok (.getfield 90, 3) := by decide +kernel
theorem dX4_drawsFor_89 : decode cX4_drawsFor 89 = .ok (.iload 4, 2) := by decide +kernel
theorem dX4_drawsFor_91 : decode cX4_drawsFor 91 = .ok (.irem, 1) := by decide +kernel
theorem dX4_drawsFor_92 : decode cX4_drawsFor 92 = .ok (.istore 6, 2) := by decide +kernel
theorem dX4_drawsFor_94 : decode cX4_drawsFor 94 = .ok (.iconst 0, 1) := by decide +kernel
theorem dX4_drawsFor_95 : decode cX4_drawsFor 95 = .ok (.istore 7, 2) := by decide +kernel
theorem dX4_drawsFor_97 : decode cX4_drawsFor 97 = .ok (.iload 7, 2) := by decide +kernel
theorem dX4_drawsFor_99 : decode cX4_drawsFor 99 = .ok (.aload_n 0, 1) := by decide +kernel
theorem dX4_drawsFor_100 : decode cX4_drawsFor 100 = .ok (.getfield 100, 3) := by decide +kernel
theorem dX4_drawsFor_103 : decode cX4_drawsFor 103 = .ok (.if_icmp .ge 37, 3) := by decide +kernel
theorem dX4_drawsFor_106 : decode cX4_drawsFor 106 = .ok (.aload_n 0, 1) := by decide +kernel
theorem dX4_drawsFor_107 : decode cX4_drawsFor 107 = .ok (.iload 7, 2) := by decide +kernel
theorem dX4_drawsFor_109 : decode cX4_drawsFor 109 = .ok (.iload_n 1, 1) := by decide +kernel
theorem dX4_drawsFor_110 : decode cX4_drawsFor 110 = .ok (.iload_n 3, 1) := by decide +kernel
theorem dX4_drawsFor_111 : decode cX4_drawsFor 111 = .ok (.invokevirtual 164, 3) := by decide +kernel
theorem dX4_drawsFor_114 : decode cX4_drawsFor 114 = .ok (.ifCond .eq 20, 3) := by decide +kernel
theorem dX4_drawsFor_117 : decode cX4_drawsFor 117 = .ok (.iload 6, 2) := by decide +kernel
theorem dX4_drawsFor_119 : decode cX4_drawsFor 119 = .ok (.ifCond .ne 8, 3) := by decide +kernel
theorem dX4_drawsFor_122 : decode cX4_drawsFor 122 = .ok (.iload 7, 2) := by decide +kernel
theorem dX4_drawsFor_124 : decode cX4_drawsFor 124 = .ok (.goto 5, 3) := by decide +kernel
theorem dX4_drawsFor_127 : decode cX4_drawsFor 127 = .ok (.iload 5, 2) := by decide +kernel
theorem dX4_drawsFor_129 : decode cX4_drawsFor 129 = .ok (.istore 5, 2) := by decide +kernel
theorem dX4_drawsFor_131 : decode cX4_drawsFor 131 = .ok (.iinc 6 (-1), 3) := by decide +kernel
theorem dX4_drawsFor_134 : decode cX4_drawsFor 134 = .ok (.iinc 7 1, 3) := by decide +kernel
theorem dX4_drawsFor_137 : decode cX4_drawsFor 137 = .ok (.goto (-40), 3) := by decide +kernel
theorem dX4_drawsFor_140 : decode cX4_drawsFor 140 = .ok (.aload_n 0, 1) := by decide +kernel
theorem dX4_drawsFor_141 : decode cX4_drawsFor 141 = .ok (.getfield 22, 3) := by decide +kernel
theorem dX4_drawsFor_144 : decode cX4_drawsFor 144 = .ok (.iload 5, 2) := by decide +kernel
theorem dX4_drawsFor_146 : decode cX4_drawsFor 146 = .ok (.dup2, 1) := by decide +kernel
theorem dX4_drawsFor_147 : decode cX4_drawsFor 147 = .ok (.laload, 1) := by decide +kernel
theorem dX4_drawsFor_148 : decode cX4_drawsFor 148 = .ok (.lconst 1, 1) := by decide +kernel
theorem dX4_drawsFor_149 : decode cX4_drawsFor 149 = .ok (.iload_n 3, 1) := by decide +kernel
theorem dX4_drawsFor_150 : decode cX4_drawsFor 150 = .ok (.lshl, 1) := by decide +kernel
theorem dX4_drawsFor_151 : decode cX4_drawsFor 151 = .ok (.lor, 1) := by decide +kernel
theorem dX4_drawsFor_152 : decode cX4_drawsFor 152 = .ok (.lastore, 1) := by decide +kernel
theorem dX4_drawsFor_153 : decode cX4_drawsFor 153 = .ok (.aload_n 0, 1) := by decide +kernel
theorem dX4_drawsFor_154 : decode cX4_drawsFor 154 = .ok (.getfield 68, 3) := by decide +kernel
theorem dX4_drawsFor_157 : decode cX4_drawsFor 157 = .ok (.iload_n 1, 1) := by decide +kernel
theorem dX4_drawsFor_158 : decode cX4_drawsFor 158 = .ok (.iload_n 2, 1) := by decide +kernel
theorem dX4_drawsFor_159 : decode cX4_drawsFor 159 = .ok (.invokestatic 118, 3) := by decide +kernel
theorem dX4_drawsFor_162 : decode cX4_drawsFor 162 = .ok (.iload 5, 2) := by decide +kernel
theorem dX4_drawsFor_164 : decode cX4_drawsFor 164 = .ok (.iastore, 1) := by decide +kernel
theorem dX4_drawsFor_165 : decode cX4_drawsFor 165 = .ok (.aload_n 0, 1) := by decide +kernel
theorem dX4_drawsFor_166 : decode cX4_drawsFor 166 = .ok (.getfield 71, 3) := by decide +kernel
theorem dX4_drawsFor_169 : decode cX4_drawsFor 169 = .ok (.iload_n 1, 1) := by decide +kernel
theorem dX4_drawsFor_170 : decode cX4_drawsFor 170 = .ok (.iload_n 2, 1) := by decide +kernel
theorem dX4_drawsFor_171 : decode cX4_drawsFor 171 = .ok (.invokestatic 118, 3) := by decide +kernel
theorem dX4_drawsFor_174 : decode cX4_drawsFor 174 = .ok (.iload 5, 2) := by decide +kernel
theorem dX4_drawsFor_176 : decode cX4_drawsFor 176 = .ok (.iconst (-1), 1) := by decide +kernel
theorem dX4_drawsFor_177 : decode cX4_drawsFor 177 = .ok (.if_icmp .eq 7, 3) := by decide +kernel
theorem dX4_drawsFor_180 : decode cX4_drawsFor 180 = .ok (.iconst 1, 1) := by decide +kernel
theorem dX4_drawsFor_181 : decode cX4_drawsFor 181 = .ok (.goto 4, 3) := by decide +kernel
theorem dX4_drawsFor_184 : decode cX4_drawsFor 184 = .ok (.iconst 0, 1) := by decide +kernel
theorem dX4_drawsFor_185 : decode cX4_drawsFor 185 = .ok (.bastore, 1) := by decide +kernel
theorem dX4_drawsFor_186 : decode cX4_drawsFor 186 = .ok (.return_, 1) := by decide +kernel
theorem dX4_drawn_0 : decode cX4_drawn 0 = .ok (.iconst 0, 1) := by decide +kernel
theorem dX4_drawn_1 : decode cX4_drawn 1 = .ok (.istore_n 2, 1) := by decide +kernel
theorem dX4_drawn_2 : decode cX4_drawn 2 = .ok (.iload_n 2, 1) := by decide +kernel
theorem dX4_drawn_3 : decode cX4_drawn 3 = .ok (.aload_n 0, 1) := by decide +kernel
theorem dX4_drawn_4 : decode cX4_drawn 4 = .ok (.getfield 35, 3) := by decide +kernel
theorem dX4_drawn_7 : decode cX4_drawn 7 = .ok (.iload_n 1, 1) := by decide +kernel
theorem dX4_drawn_8 : decode cX4_drawn 8 = .ok (.iaload, 1) := by decide +kernel
theorem dX4_drawn_9 : decode cX4_drawn 9 = .ok (.if_icmp .ge 61, 3) := by decide +kernel
theorem dX4_drawn_12 : decode cX4_drawn 12 = .ok (.iconst 0, 1) := by decide +kernel
theorem dX4_drawn_13 : decode cX4_drawn 13 = .ok (.istore_n 3, 1) := by decide +kernel
theorem dX4_drawn_14 : decode cX4_drawn 14 = .ok (.iload_n 3, 1) := by decide +kernel
theorem dX4_drawn_15 : decode cX4_drawn 15 = .ok (.aload_n 0, 1) := by decide +kernel
theorem dX4_drawn_16 : decode cX4_drawn 16 = .ok (.getfield 53, 3) := by decide +kernel
theorem dX4_drawn_19 : decode cX4_drawn 19 = .ok (.iload_n 1, 1) := by decide +kernel
theorem dX4_drawn_20 : decode cX4_drawn 20 = .ok (.iaload, 1) := by decide +kernel
theorem dX4_drawn_21 : decode cX4_drawn 21 = .ok (.if_icmp .ge 43, 3) := by decide +kernel
theorem dX4_drawn_24 : decode cX4_drawn 24 = .ok (.aload_n 0, 1) := by decide +kernel
theorem dX4_drawn_25 : decode cX4_drawn 25 = .ok (.getfield 56, 3) := by decide +kernel
theorem dX4_drawn_28 : decode cX4_drawn 28 = .ok (.iload_n 1, 1) := by decide +kernel
theorem dX4_drawn_29 : decode cX4_drawn 29 = .ok (.iload_n 3, 1) := by decide +kernel
theorem dX4_drawn_30 : decode cX4_drawn 30 = .ok (.invokestatic 118, 3) := by decide +kernel
theorem dX4_drawn_33 : decode cX4_drawn 33 = .ok (.iaload, 1) := by decide +kernel
theorem dX4_drawn_34 : decode cX4_drawn 34 = .ok (.istore 4, 2) := by decide +kernel
theorem dX4_drawn_36 : decode cX4_drawn 36 = .ok (.aload_n 0, 1) := by decide +kernel
theorem dX4_drawn_37 : decode cX4_drawn 37 = .ok (.getfield 65, 3) := by decide +kernel
theorem dX4_drawn_40 : decode cX4_drawn 40 = .ok (.iload_n 1, 1) := by decide +kernel
theorem dX4_drawn_41 : decode cX4_drawn 41 = .ok (.iload 4, 2) := by decide +kernel
theorem dX4_drawn_43 : decode cX4_drawn 43 = .ok (.invokestatic 118, 3) := by decide +kernel
theorem dX4_drawn_46 : decode cX4_drawn 46 = .ok (.iaload, 1) := by decide +kernel
theorem dX4_drawn_47 : decode cX4_drawn 47 = .ok (.iload_n 2, 1) := by decide +kernel
theorem dX4_drawn_48 : decode cX4_drawn 48 = .ok (.if_icmp .ne 10, 3) := by decide +kernel
theorem dX4_drawn_51 : decode cX4_drawn 51 = .ok (.aload_n 0, 1) := by decide +kernel
theorem dX4_drawn_52 : decode cX4_drawn 52 = .ok (.iload_n 1, 1) := by decide +kernel
theorem dX4_drawn_53 : decode cX4_drawn 53 = .ok (.iload 4, 2) := by decide +kernel
theorem dX4_drawn_55 : decode cX4_drawn 55 = .ok (.invokevirtual 168, 3) := by decide +kernel
theorem dX4_drawn_58 : decode cX4_drawn 58 = .ok (.iinc 3 1, 3) := by decide +kernel
theorem dX4_drawn_61 : decode cX4_drawn 61 = .ok (.goto (-47), 3) := by decide +kernel
theorem dX4_drawn_64 : decode cX4_drawn 64 = .ok (.iinc 2 1, 3) := by decide +kernel
theorem dX4_drawn_67 : decode cX4_drawn 67 = .ok (.goto (-65), 3) := by decide +kernel
theorem dX4_drawn_70 : decode cX4_drawn 70 = .ok (.iconst 0, 1) := by decide +kernel
theorem dX4_drawn_71 : decode cX4_drawn 71 = .ok (.istore_n 2, 1) := by decide +kernel
theorem dX4_drawn_72 : decode cX4_drawn 72 = .ok (.iload_n 1, 1) := by decide +kernel
theorem dX4_drawn_73 : decode cX4_drawn 73 = .ok (.iconst 0, 1) := by decide +kernel
theorem dX4_drawn_74 : decode cX4_drawn 74 = .ok (.invokestatic 118, 3) := by decide +kernel
theorem dX4_drawn_77 : decode cX4_drawn 77 = .ok (.istore_n 3, 1) := by decide +kernel
theorem dX4_drawn_78 : decode cX4_drawn 78 = .ok (.iload_n 3, 1) := by decide +kernel
theorem dX4_drawn_79 : decode cX4_drawn 79 = .ok (.iload_n 1, 1) := by decide +kernel
theorem dX4_drawn_80 : decode cX4_drawn 80 = .ok (.iconst 1, 1) := by decide +kernel
theorem dX4_drawn_81 : decode cX4_drawn 81 = .ok (.iadd, 1) := by decide +kernel
theorem dX4_drawn_82 : decode cX4_drawn 82 = .ok (.iconst 0, 1) := by decide +kernel
theorem dX4_drawn_83 : decode cX4_drawn 83 = .ok (.invokestatic 118, 3) := by decide +kernel
theorem dX4_drawn_86 : decode cX4_drawn 86 = .ok (.if_icmp .ge 27, 3) := by decide +kernel
theorem dX4_drawn_89 : decode cX4_drawn 89 = .ok (.iload_n 2, 1) := by decide +kernel
theorem dX4_drawn_90 : decode cX4_drawn 90 = .ok (.aload_n 0, 1) := by decide +kernel
theorem dX4_drawn_91 : decode cX4_drawn 91 = .ok (.getfield 68, 3) := by decide +kernel
theorem dX4_drawn_94 : decode cX4_drawn 94 = .ok (.iload_n 3, 1) := by decide +kernel
theorem dX4_drawn_95 : decode cX4_drawn 95 = .ok (.iaload, 1) := by decide +kernel
theorem dX4_drawn_96 : decode cX4_drawn 96 = .ok (.iconst (-1), 1) := by decide +kernel
theorem dX4_drawn_97 : decode cX4_drawn 97 = .ok (.if_icmp .ne 7, 3) := by decide +kernel
theorem dX4_drawn_100 : decode cX4_drawn 100 = .ok (.iconst 0, 1) := by decide +kernel
theorem dX4_drawn_101 : decode cX4_drawn 101 = .ok (.goto 4, 3) := by decide +kernel
theorem dX4_drawn_104 : decode cX4_drawn 104 = .ok (.iconst 1, 1) := by decide +kernel
theorem dX4_drawn_105 : decode cX4_drawn 105 = .ok (.iadd, 1) := by decide +kernel
theorem dX4_drawn_106 : decode cX4_drawn 106 = .ok (.istore_n 2, 1) := by decide +kernel
theorem dX4_drawn_107 : decode cX4_drawn 107 = .ok (.iinc 3 1, 3) := by decide +kernel
theorem dX4_drawn_110 : decode cX4_drawn 110 = .ok (.goto (-32), 3) := by decide +kernel
theorem dX4_drawn_113 : decode cX4_drawn 113 = .ok (.aload_n 0, 1) := by decide +kernel
theorem dX4_drawn_114 : decode cX4_drawn 114 = .ok (.getfield 47, 3) := by decide +kernel
theorem dX4_drawn_117 : decode cX4_drawn 117 = .ok (.iload_n 1, 1) := by decide +kernel
theorem dX4_drawn_118 : decode cX4_drawn 118 = .ok (.iconst 2, 1) := by decide +kernel
theorem dX4_drawn_119 : decode cX4_drawn 119 = .ok (.iastore, 1) := by decide +kernel
theorem dX4_drawn_120 : decode cX4_drawn 120 = .ok (.iload_n 2, 1) := by decide +kernel
theorem dX4_drawn_121 : decode cX4_drawn 121 = .ok (.ireturn, 1) := by decide +kernel
theorem dX4_draw_0 : decode cX4_draw 0 = .ok (.aload_n 0, 1) := by decide +kernel
theorem dX4_draw_1 : decode cX4_draw 1 = .ok (.iload_n 1, 1) := by decide +kernel
theorem dX4_draw_2 : decode cX4_draw 2 = .ok (.invokevirtual 129, 3) := by decide +kernel
theorem dX4_draw_5 : decode cX4_draw 5 = .ok (.istore_n 2, 1) := by decide +kernel
theorem dX4_draw_6 : decode cX4_draw 6 = .ok (.aload_n 0, 1) := by decide +kernel
theorem dX4_draw_7 : decode cX4_draw 7 = .ok (.iload_n 2, 1) := by decide +kernel
theorem dX4_draw_8 : decode cX4_draw 8 = .ok (.ifCond .ne 7, 3) := by decide +kernel
theorem dX4_draw_11 : decode cX4_draw 11 = .ok (.iconst 1, 1) := by decide +kernel
theorem dX4_draw_12 : decode cX4_draw 12 = .ok (.goto 18, 3) := by decide +kernel
theorem dX4_draw_15 : decode cX4_draw 15 = .ok (.aload_n 0, 1) := by decide +kernel
theorem dX4_draw_16 : decode cX4_draw 16 = .ok (.getfield 47, 3) := by decide +kernel
theorem dX4_draw_19 : decode cX4_draw 19 = .ok (.iload_n 1, 1) := by decide +kernel
theorem dX4_draw_20 : decode cX4_draw 20 = .ok (.iaload, 1) := by decide +kernel
theorem dX4_draw_21 : decode cX4_draw 21 = .ok (.iconst 1, 1) := by decide +kernel
theorem dX4_draw_22 : decode cX4_draw 22 = .ok (.if_icmp .eq 7, 3) := by decide +kernel
theorem dX4_draw_25 : decode cX4_draw 25 = .ok (.iconst 2, 1) := by decide +kernel
theorem dX4_draw_26 : decode cX4_draw 26 = .ok (.goto 4, 3) := by decide +kernel
theorem dX4_draw_29 : decode cX4_draw 29 = .ok (.iconst 0, 1) := by decide +kernel
theorem dX4_draw_30 : decode cX4_draw 30 = .ok (.invokevirtual 113, 3) := by decide +kernel
theorem dX4_draw_33 : decode cX4_draw 33 = .ok (.ifCond .eq 11, 3) := by decide +kernel
theorem dX4_draw_36 : decode cX4_draw 36 = .ok (.aload_n 0, 1) := by decide +kernel
theorem dX4_draw_37 : decode cX4_draw 37 = .ok (.iload_n 1, 1) := by decide +kernel
theorem dX4_draw_38 : decode cX4_draw 38 = .ok (.invokevirtual 171, 3) := by decide +kernel
theorem dX4_draw_41 : decode cX4_draw 41 = .ok (.goto 4, 3) := by decide +kernel
theorem dX4_draw_44 : decode cX4_draw 44 = .ok (.iconst 0, 1) := by decide +kernel
theorem dX4_draw_45 : decode cX4_draw 45 = .ok (.ireturn, 1) := by decide +kernel
theorem dX4_drawn__0 : decode cX4_drawn_ 0 = .ok (.aload_n 0, 1) := by decide +kernel
theorem dX4_drawn__1 : decode cX4_drawn_ 1 = .ok (.aload_n 0, 1) := by decide +kernel
theorem dX4_drawn__2 : decode cX4_drawn_ 2 = .ok (.iload_n 1, 1) := by decide +kernel
theorem dX4_drawn__3 : decode cX4_drawn_ 3 = .ok (.invokevirtual 129, 3) := by decide +kernel
theorem dX4_drawn__6 : decode cX4_drawn_ 6 = .ok (.ifCond .eq 15, 3) := by decide +kernel
theorem dX4_drawn__9 : decode cX4_drawn_ 9 = .ok (.aload_n 0, 1) := by decide +kernel
theorem dX4_drawn__10 : decode cX4_drawn_ 10 = .ok (.iload_n 2, 1) := by decide +kernel
theorem dX4_drawn__11 : decode cX4_drawn_ 11 = .ok (.invokevirtual 135, 3) := by decide +kernel
theorem dX4_drawn__14 : decode cX4_drawn_ 14 = .ok (.ifCond .eq 7, 3) := by decide +kernel
theorem dX4_drawn__17 : decode cX4_drawn_ 17 = .ok (.iconst 0, 1) := by decide +kernel
theorem dX4_drawn__18 : decode cX4_drawn_ 18 = .ok (.goto 4, 3) := by decide +kernel
theorem dX4_drawn__21 : decode cX4_drawn_ 21 = .ok (.iconst 1, 1) := by decide +kernel
theorem dX4_drawn__22 : decode cX4_drawn_ 22 = .ok (.invokevirtual 113, 3) := by decide +kernel
theorem dX4_drawn__25 : decode cX4_drawn_ 25 = .ok (.ifCond .eq 16, 3) := by decide +kernel
theorem dX4_drawn__28 : decode cX4_drawn_ 28 = .ok (.aload_n 0, 1) := by decide +kernel
theorem dX4_drawn__29 : decode cX4_drawn_ 29 = .ok (.getfield 68, 3) := by decide +kernel
theorem dX4_drawn__32 : decode cX4_drawn_ 32 = .ok (.iload_n 1, 1) := by decide +kernel
theorem dX4_drawn__33 : decode cX4_drawn_ 33 = .ok (.iload_n 2, 1) := by decide +kernel
theorem dX4_drawn__34 : decode cX4_drawn_ 34 = .ok (.invokestatic 118, 3) := by decide +kernel
theorem dX4_drawn__37 : decode cX4_drawn_ 37 = .ok (.iaload, 1) := by decide +kernel
theorem dX4_drawn__38 : decode cX4_drawn_ 38 = .ok (.goto 4, 3) := by decide +kernel
theorem dX4_drawn__41 : decode cX4_drawn_ 41 = .ok (.iconst 0, 1) := by decide +kernel
theorem dX4_drawn__42 : decode cX4_drawn_ 42 = .ok (.ireturn, 1) := by decide +kernel
theorem dX4_rides_0 : decode cX4_rides 0 = .ok (.aload_n 0, 1) := by decide +kernel
theorem dX4_rides_1 : decode cX4_rides 1 = .ok (.getfield 68, 3) := by decide +kernel
theorem dX4_rides_4 : decode cX4_rides 4 = .ok (.iload_n 1, 1) := by decide +kernel
theorem dX4_rides_5 : decode cX4_rides 5 = .ok (.iaload, 1) := by decide +kernel
theorem dX4_rides_6 : decode cX4_rides 6 = .ok (.istore 5, 2) := by decide +kernel
theorem dX4_rides_8 : decode cX4_rides 8 = .ok (.iload_n 2, 1) := by decide +kernel
theorem dX4_rides_9 : decode cX4_rides 9 = .ok (.bipush 26, 2) := by decide +kernel
theorem dX4_rides_11 : decode cX4_rides 11 = .ok (.irem, 1) := by decide +kernel
theorem dX4_rides_12 : decode cX4_rides 12 = .ok (.iload_n 2, 1) := by decide +kernel
theorem dX4_rides_13 : decode cX4_rides 13 = .ok (.bipush 26, 2) := by decide +kernel
theorem dX4_rides_15 : decode cX4_rides 15 = .ok (.idiv, 1) := by decide +kernel
theorem dX4_rides_16 : decode cX4_rides 16 = .ok (.bipush 26, 2) := by decide +kernel
theorem dX4_rides_18 : decode cX4_rides 18 = .ok (.irem, 1) := by decide +kernel
theorem dX4_rides_19 : decode cX4_rides 19 = .ok (.iadd, 1) := by decide +kernel
theorem dX4_rides_20 : decode cX4_rides 20 = .ok (.iload_n 2, 1) := by decide +kernel
theorem dX4_rides_21 : decode cX4_rides 21 = .ok (.sipush 676, 3) := by decide +kernel
theorem dX4_rides_24 : decode cX4_rides 24 = .ok (.idiv, 1) := by decide +kernel
theorem dX4_rides_25 : decode cX4_rides 25 = .ok (.bipush 26, 2) := by decide +kernel
theorem dX4_rides_27 : decode cX4_rides 27 = .ok (.irem, 1) := by decide +kernel
theorem dX4_rides_28 : decode cX4_rides 28 = .ok (.iadd, 1) := by decide +kernel
theorem dX4_rides_29 : decode cX4_rides 29 = .ok (.iload_n 2, 1) := by decide +kernel
theorem dX4_rides_30 : decode cX4_rides 30 = .ok (.sipush 17576, 3) := by decide +kernel
theorem dX4_rides_33 : decode cX4_rides 33 = .ok (.idiv, 1) := by decide +kernel
theorem dX4_rides_34 : decode cX4_rides 34 = .ok (.iadd, 1) := by decide +kernel
theorem dX4_rides_35 : decode cX4_rides 35 = .ok (.istore 6, 2) := by decide +kernel
theorem dX4_rides_37 : decode cX4_rides 37 = .ok (.iload_n 2, 1) := by decide +kernel
theorem dX4_rides_38 : decode cX4_rides 38 = .ok (.bipush 26, 2) := by decide +kernel
theorem dX4_rides_40 : decode cX4_rides 40 = .ok (.idiv, 1) := by decide +kernel
theorem dX4_rides_41 : decode cX4_rides 41 = .ok (.bipush 26, 2) := by decide +kernel
theorem dX4_rides_43 : decode cX4_rides 43 = .ok (.irem, 1) := by decide +kernel
theorem dX4_rides_44 : decode cX4_rides 44 = .ok (.iload_n 2, 1) := by decide +kernel
theorem dX4_rides_45 : decode cX4_rides 45 = .ok (.sipush 17576, 3) := by decide +kernel
theorem dX4_rides_48 : decode cX4_rides 48 = .ok (.idiv, 1) := by decide +kernel
theorem dX4_rides_49 : decode cX4_rides 49 = .ok (.iadd, 1) := by decide +kernel
theorem dX4_rides_50 : decode cX4_rides 50 = .ok (.istore 7, 2) := by decide +kernel
theorem dX4_rides_52 : decode cX4_rides 52 = .ok (.iload 4, 2) := by decide +kernel
theorem dX4_rides_54 : decode cX4_rides 54 = .ok (.ifCond .ne 24, 3) := by decide +kernel
theorem dX4_rides_57 : decode cX4_rides 57 = .ok (.iload_n 3, 1) := by decide +kernel
theorem dX4_rides_58 : decode cX4_rides 58 = .ok (.sipush 1000, 3) := by decide +kernel
theorem dX4_rides_61 : decode cX4_rides 61 = .ok (.idiv, 1) := by decide +kernel
theorem dX4_rides_62 : decode cX4_rides 62 = .ok (.iload_n 3, 1) := by decide +kernel
theorem dX4_rides_63 : decode cX4_rides 63 = .ok (.sipush 1000, 3) := by decide +kernel
theorem dX4_rides_66 : decode cX4_rides 66 = .ok (.irem, 1) := by decide +kernel
theorem dX4_rides_67 : decode cX4_rides 67 = .ok (.iadd, 1) := by decide +kernel
theorem dX4_rides_68 : decode cX4_rides 68 = .ok (.sipush 1600, 3) := by decide +kernel
theorem dX4_rides_71 : decode cX4_rides 71 = .ok (.if_icmp .lt 7, 3) := by decide +kernel
theorem dX4_rides_74 : decode cX4_rides 74 = .ok (.iconst 1, 1) := by decide +kernel
theorem dX4_rides_75 : decode cX4_rides 75 = .ok (.goto 4, 3) := by decide +kernel
theorem dX4_rides_78 : decode cX4_rides 78 = .ok (.iconst 0, 1) := by decide +kernel
theorem dX4_rides_79 : decode cX4_rides 79 = .ok (.istore 8, 2) := by decide +kernel
theorem dX4_rides_81 : decode cX4_rides 81 = .ok (.aload_n 0, 1) := by decide +kernel
theorem dX4_rides_82 : decode cX4_rides 82 = .ok (.getfield 13, 3) := by decide +kernel
theorem dX4_rides_85 : decode cX4_rides 85 = .ok (.iload 5, 2) := by decide +kernel
theorem dX4_rides_87 : decode cX4_rides 87 = .ok (.dup2, 1) := by decide +kernel
theorem dX4_rides_88 : decode cX4_rides 88 = .ok (.iaload, 1) := by decide +kernel
theorem dX4_rides_89 : decode cX4_rides 89 = .ok (.iconst 1, 1) := by decide +kernel
theorem dX4_rides_90 : decode cX4_rides 90 = .ok (.iadd, 1) := by decide +kernel
theorem dX4_rides_91 : decode cX4_rides 91 = .ok (.iastore, 1) := by decide +kernel
theorem dX4_rides_92 : decode cX4_rides 92 = .ok (.aload_n 0, 1) := by decide +kernel
theorem dX4_rides_93 : decode cX4_rides 93 = .ok (.getfield 16, 3) := by decide +kernel
theorem dX4_rides_96 : decode cX4_rides 96 = .ok (.iload 5, 2) := by decide +kernel
theorem dX4_rides_98 : decode cX4_rides 98 = .ok (.dup2, 1) := by decide +kernel
theorem dX4_rides_99 : decode cX4_rides 99 = .ok (.iaload, 1) := by decide +kernel
theorem dX4_rides_100 : decode cX4_rides 100 = .ok (.iload 8, 2) := by decide +kernel
theorem dX4_rides_102 : decode cX4_rides 102 = .ok (.ifCond .eq 7, 3) := by decide +kernel
theorem dX4_rides_105 : decode cX4_rides 105 = .ok (.iconst 0, 1) := by decide +kernel
theorem dX4_rides_106 : decode cX4_rides 106 = .ok (.goto 4, 3) := by decide +kernel
theorem dX4_rides_109 : decode cX4_rides 109 = .ok (.iconst 1, 1) := by decide +kernel
theorem dX4_rides_110 : decode cX4_rides 110 = .ok (.iadd, 1) := by decide +kernel
theorem dX4_rides_111 : decode cX4_rides 111 = .ok (.iastore, 1) := by decide +kernel
theorem dX4_rides_112 : decode cX4_rides 112 = .ok (.aload_n 0, 1) := by decide +kernel
theorem dX4_rides_113 : decode cX4_rides 113 = .ok (.getfield 19, 3) := by decide +kernel
theorem dX4_rides_116 : decode cX4_rides 116 = .ok (.iload 5, 2) := by decide +kernel
theorem dX4_rides_118 : decode cX4_rides 118 = .ok (.dup2, 1) := by decide +kernel
theorem dX4_rides_119 : decode cX4_rides 119 = .ok (.iaload, 1) := by decide +kernel
theorem dX4_rides_120 : decode cX4_rides 120 = .ok (.iload 7, 2) := by decide +kernel
theorem dX4_rides_122 : decode cX4_rides 122 = .ok (.iadd, 1) := by decide +kernel
theorem dX4_rides_123 : decode cX4_rides 123 = .ok (.iastore, 1) := by decide +kernel
theorem dX4_rides_124 : decode cX4_rides 124 = .ok (.aload_n 0, 1) := by decide +kernel
theorem dX4_rides_125 : decode cX4_rides 125 = .ok (.getfield 71, 3) := by decide +kernel
theorem dX4_rides_128 : decode cX4_rides 128 = .ok (.iload_n 1, 1) := by decide +kernel
theorem dX4_rides_129 : decode cX4_rides 129 = .ok (.iconst 0, 1) := by decide +kernel
theorem dX4_rides_130 : decode cX4_rides 130 = .ok (.bastore, 1) := by decide +kernel
theorem dX4_rides_131 : decode cX4_rides 131 = .ok (.aload_n 0, 1) := by decide +kernel
theorem dX4_rides_132 : decode cX4_rides 132 = .ok (.getfield 81, 3) := by decide +kernel
theorem dX4_rides_135 : decode cX4_rides 135 = .ok (.iload_n 1, 1) := by decide +kernel
theorem dX4_rides_136 : decode cX4_rides 136 = .ok (.iload 8, 2) := by decide +kernel
theorem dX4_rides_138 : decode cX4_rides 138 = .ok (.bastore, 1) := by decide +kernel
theorem dX4_rides_139 : decode cX4_rides 139 = .ok (.aload_n 0, 1) := by decide +kernel
theorem dX4_rides_140 : decode cX4_rides 140 = .ok (.getfield 84, 3) := by decide +kernel
theorem dX4_rides_143 : decode cX4_rides 143 = .ok (.iload_n 1, 1) := by decide +kernel
theorem dX4_rides_144 : decode cX4_rides 144 = .ok (.iload 8, 2) := by decide +kernel
theorem dX4_rides_146 : decode cX4_rides 146 = .ok (.ifCond .eq 8, 3) := by decide +kernel
theorem dX4_rides_149 : decode cX4_rides 149 = .ok (.iload 6, 2) := by decide +kernel
theorem dX4_rides_151 : decode cX4_rides 151 = .ok (.goto 4, 3) := by decide +kernel
theorem dX4_rides_154 : decode cX4_rides 154 = .ok (.iconst 0, 1) := by decide +kernel
theorem dX4_rides_155 : decode cX4_rides 155 = .ok (.iastore, 1) := by decide +kernel
theorem dX4_rides_156 : decode cX4_rides 156 = .ok (.aload_n 0, 1) := by decide +kernel
theorem dX4_rides_157 : decode cX4_rides 157 = .ok (.getfield 78, 3) := by decide +kernel
theorem dX4_rides_160 : decode cX4_rides 160 = .ok (.iload_n 1, 1) := by decide +kernel
theorem dX4_rides_161 : decode cX4_rides 161 = .ok (.iload 8, 2) := by decide +kernel
theorem dX4_rides_163 : decode cX4_rides 163 = .ok (.ifCond .eq 23, 3) := by decide +kernel
theorem dX4_rides_166 : decode cX4_rides 166 = .ok (.iload 7, 2) := by decide +kernel
theorem dX4_rides_168 : decode cX4_rides 168 = .ok (.bipush 20, 2) := by decide +kernel
theorem dX4_rides_170 : decode cX4_rides 170 = .ok (.if_icmp .ge 16, 3) := by decide +kernel
theorem dX4_rides_173 : decode cX4_rides 173 = .ok (.aload_n 0, 1) := by decide +kernel
theorem dX4_rides_174 : decode cX4_rides 174 = .ok (.getfield 75, 3) := by decide +kernel
theorem dX4_rides_177 : decode cX4_rides 177 = .ok (.iload_n 1, 1) := by decide +kernel
theorem dX4_rides_178 : decode cX4_rides 178 = .ok (.baload, 1) := by decide +kernel
theorem dX4_rides_179 : decode cX4_rides 179 = .ok (.ifCond .ne 7, 3) := by decide +kernel
theorem dX4_rides_182 : decode cX4_rides 182 = .ok (.iconst 1, 1) := by decide +kernel
theorem dX4_rides_183 : decode cX4_rides 183 = .ok (.goto 4, 3) := by decide +kernel
theorem dX4_rides_186 : decode cX4_rides 186 = .ok (.iconst 0, 1) := by decide +kernel
theorem dX4_rides_187 : decode cX4_rides 187 = .ok (.bastore, 1) := by decide +kernel
theorem dX4_rides_188 : decode cX4_rides 188 = .ok (.aload_n 0, 1) := by decide +kernel
theorem dX4_rides_189 : decode cX4_rides 189 = .ok (.getfield 84, 3) := by decide +kernel
theorem dX4_rides_192 : decode cX4_rides 192 = .ok (.iload_n 1, 1) := by decide +kernel
theorem dX4_rides_193 : decode cX4_rides 193 = .ok (.iaload, 1) := by decide +kernel
theorem dX4_rides_194 : decode cX4_rides 194 = .ok (.ireturn, 1) := by decide +kernel
theorem dX4_ride_0 : decode cX4_ride 0 = .ok (.aload_n 0, 1) := by decide +kernel
theorem dX4_ride_1 : decode cX4_ride 1 = .ok (.iload_n 1, 1) := by decide +kernel
theorem dX4_ride_2 : decode cX4_ride 2 = .ok (.invokevirtual 129, 3) := by decide +kernel
theorem dX4_ride_5 : decode cX4_ride 5 = .ok (.ifCond .eq 15, 3) := by decide +kernel
theorem dX4_ride_8 : decode cX4_ride 8 = .ok (.aload_n 0, 1) := by decide +kernel
theorem dX4_ride_9 : decode cX4_ride 9 = .ok (.iload_n 2, 1) := by decide +kernel
theorem dX4_ride_10 : decode cX4_ride 10 = .ok (.invokevirtual 135, 3) := by decide +kernel
theorem dX4_ride_13 : decode cX4_ride 13 = .ok (.ifCond .eq 7, 3) := by decide +kernel
theorem dX4_ride_16 : decode cX4_ride 16 = .ok (.iconst 1, 1) := by decide +kernel
theorem dX4_ride_17 : decode cX4_ride 17 = .ok (.goto 4, 3) := by decide +kernel
theorem dX4_ride_20 : decode cX4_ride 20 = .ok (.iconst 0, 1) := by decide +kernel
theorem dX4_ride_21 : decode cX4_ride 21 = .ok (.istore 6, 2) := by decide +kernel
theorem dX4_ride_23 : decode cX4_ride 23 = .ok (.iload_n 3, 1) := by decide +kernel
theorem dX4_ride_24 : decode cX4_ride 24 = .ok (.iconst 0, 1) := by decide +kernel
theorem dX4_ride_25 : decode cX4_ride 25 = .ok (.ldc 174, 2) := by decide +kernel
theorem dX4_ride_27 : decode cX4_ride 27 = .ok (.invokestatic 103, 3) := by decide +kernel
theorem dX4_ride_30 : decode cX4_ride 30 = .ok (.ifCond .eq 18, 3) := by decide +kernel
theorem dX4_ride_33 : decode cX4_ride 33 = .ok (.iload 4, 2) := by decide +kernel
theorem dX4_ride_35 : decode cX4_ride 35 = .ok (.iconst 0, 1) := by decide +kernel
theorem dX4_ride_36 : decode cX4_ride 36 = .ok (.ldc 175, 2) := by decide +kernel
theorem dX4_ride_38 : decode cX4_ride 38 = .ok (.invokestatic 103, 3) := by decide +kernel
theorem dX4_ride_41 : decode cX4_ride 41 = .ok (.ifCond .eq 7, 3) := by decide +kernel
theorem dX4_ride_44 : decode cX4_ride 44 = .ok (.iconst 1, 1) := by decide +kernel
theorem dX4_ride_45 : decode cX4_ride 45 = .ok (.goto 4, 3) := by decide +kernel
theorem dX4_ride_48 : decode cX4_ride 48 = .ok (.iconst 0, 1) := by decide +kernel
theorem dX4_ride_49 : decode cX4_ride 49 = .ok (.istore 7, 2) := by decide +kernel
theorem dX4_ride_51 : decode cX4_ride 51 = .ok (.iload 6, 2) := by decide +kernel
theorem dX4_ride_53 : decode cX4_ride 53 = .ok (.ifCond .eq 11, 3) := by decide +kernel
theorem dX4_ride_56 : decode cX4_ride 56 = .ok (.iload_n 1, 1) := by decide +kernel
theorem dX4_ride_57 : decode cX4_ride 57 = .ok (.iload_n 2, 1) := by decide +kernel
theorem dX4_ride_58 : decode cX4_ride 58 = .ok (.invokestatic 118, 3) := by decide +kernel
theorem dX4_ride_61 : decode cX4_ride 61 = .ok (.goto 4, 3) := by decide +kernel
theorem dX4_ride_64 : decode cX4_ride 64 = .ok (.iconst 0, 1) := by decide +kernel
theorem dX4_ride_65 : decode cX4_ride 65 = .ok (.istore 8, 2) := by decide +kernel
theorem dX4_ride_67 : decode cX4_ride 67 = .ok (.aload_n 0, 1) := by decide +kernel
theorem dX4_ride_68 : decode cX4_ride 68 = .ok (.iload 6, 2) := by decide +kernel
theorem dX4_ride_70 : decode cX4_ride 70 = .ok (.ifCond .ne 7, 3) := by decide +kernel
theorem dX4_ride_73 : decode cX4_ride 73 = .ok (.iconst 1, 1) := by decide +kernel
theorem dX4_ride_74 : decode cX4_ride 74 = .ok (.goto 37, 3) := by decide +kernel
theorem dX4_ride_77 : decode cX4_ride 77 = .ok (.iload 7, 2) := by decide +kernel
theorem dX4_ride_79 : decode cX4_ride 79 = .ok (.ifCond .ne 7, 3) := by decide +kernel
theorem dX4_ride_82 : decode cX4_ride 82 = .ok (.iconst 2, 1) := by decide +kernel
theorem dX4_ride_83 : decode cX4_ride 83 = .ok (.goto 28, 3) := by decide +kernel
theorem dX4_ride_86 : decode cX4_ride 86 = .ok (.aload_n 0, 1) := by decide +kernel
theorem dX4_ride_87 : decode cX4_ride 87 = .ok (.getfield 47, 3) := by decide +kernel
theorem dX4_ride_90 : decode cX4_ride 90 = .ok (.iload_n 1, 1) := by decide +kernel
theorem dX4_ride_91 : decode cX4_ride 91 = .ok (.iaload, 1) := by decide +kernel
theorem dX4_ride_92 : decode cX4_ride 92 = .ok (.iconst 2, 1) := by decide +kernel
theorem dX4_ride_93 : decode cX4_ride 93 = .ok (.if_icmp .ne 13, 3) := by decide +kernel
theorem dX4_ride_96 : decode cX4_ride 96 = .ok (.aload_n 0, 1) := by decide +kernel
theorem dX4_ride_97 : decode cX4_ride 97 = .ok (.getfield 71, 3) := by decide +kernel
theorem dX4_ride_100 : decode cX4_ride 100 = .ok (.iload 8, 2) := by decide +kernel
theorem dX4_ride_102 : decode cX4_ride 102 = .ok (.baload, 1) := by decide +kernel
theorem dX4_ride_103 : decode cX4_ride 103 = .ok (.ifCond .ne 7, 3) := by decide +kernel
theorem dX4_ride_106 : decode cX4_ride 106 = .ok (.iconst 3, 1) := by decide +kernel
theorem dX4_ride_107 : decode cX4_ride 107 = .ok (.goto 4, 3) := by decide +kernel
theorem dX4_ride_110 : decode cX4_ride 110 = .ok (.iconst 0, 1) := by decide +kernel
theorem dX4_ride_111 : decode cX4_ride 111 = .ok (.invokevirtual 113, 3) := by decide +kernel
theorem dX4_ride_114 : decode cX4_ride 114 = .ok (.ifCond .eq 17, 3) := by decide +kernel
theorem dX4_ride_117 : decode cX4_ride 117 = .ok (.aload_n 0, 1) := by decide +kernel
theorem dX4_ride_118 : decode cX4_ride 118 = .ok (.iload 8, 2) := by decide +kernel
theorem dX4_ride_120 : decode cX4_ride 120 = .ok (.iload_n 3, 1) := by decide +kernel
theorem dX4_ride_121 : decode cX4_ride 121 = .ok (.iload 4, 2) := by decide +kernel
theorem dX4_ride_123 : decode cX4_ride 123 = .ok (.iload 5, 2) := by decide +kernel
theorem dX4_ride_125 : decode cX4_ride 125 = .ok (.invokevirtual 176, 3) := by decide +kernel
theorem dX4_ride_128 : decode cX4_ride 128 = .ok (.goto 4, 3) := by decide +kernel
theorem dX4_ride_131 : decode cX4_ride 131 = .ok (.iconst 0, 1) := by decide +kernel
theorem dX4_ride_132 : decode cX4_ride 132 = .ok (.ireturn, 1) := by decide +kernel
theorem dX4_isOffered_0 : decode cX4_isOffered 0 = .ok (.aload_n 0, 1) := by decide +kernel
theorem dX4_isOffered_1 : decode cX4_isOffered 1 = .ok (.aload_n 0, 1) := by decide +kernel
theorem dX4_isOffered_2 : decode cX4_isOffered 2 = .ok (.iload_n 1, 1) := by decide +kernel
theorem dX4_isOffered_3 : decode cX4_isOffered 3 = .ok (.invokevirtual 129, 3) := by decide +kernel
theorem dX4_isOffered_6 : decode cX4_isOffered 6 = .ok (.ifCond .eq 15, 3) := by decide +kernel
theorem dX4_isOffered_9 : decode cX4_isOffered 9 = .ok (.aload_n 0, 1) := by decide +kernel
theorem dX4_isOffered_10 : decode cX4_isOffered 10 = .ok (.iload_n 2, 1) := by decide +kernel
theorem dX4_isOffered_11 : decode cX4_isOffered 11 = .ok (.invokevirtual 135, 3) := by decide +kernel
theorem dX4_isOffered_14 : decode cX4_isOffered 14 = .ok (.ifCond .eq 7, 3) := by decide +kernel
theorem dX4_isOffered_17 : decode cX4_isOffered 17 = .ok (.iconst 0, 1) := by decide +kernel
theorem dX4_isOffered_18 : decode cX4_isOffered 18 = .ok (.goto 4, 3) := by decide +kernel
theorem dX4_isOffered_21 : decode cX4_isOffered 21 = .ok (.iconst 1, 1) := by decide +kernel
theorem dX4_isOffered_22 : decode cX4_isOffered 22 = .ok (.invokevirtual 113, 3) := by decide +kernel
theorem dX4_isOffered_25 : decode cX4_isOffered 25 = .ok (.ifCond .eq 20, 3) := by decide +kernel
theorem dX4_isOffered_28 : decode cX4_isOffered 28 = .ok (.aload_n 0, 1) := by decide +kernel
theorem dX4_isOffered_29 : decode cX4_isOffered 29 = .ok (.getfield 78, 3) := by decide +kernel
theorem dX4_isOffered_32 : decode cX4_isOffered 32 = .ok (.iload_n 1, 1) := by decide +kernel
theorem dX4_isOffered_33 : decode cX4_isOffered 33 = .ok (.iload_n 2, 1) := by decide +kernel
theorem dX4_isOffered_34 : decode cX4_isOffered 34 = .ok (.invokestatic 118, 3) := by decide +kernel
theorem dX4_isOffered_37 : decode cX4_isOffered 37 = .ok (.baload, 1) := by decide +kernel
theorem dX4_isOffered_38 : decode cX4_isOffered 38 = .ok (.ifCond .eq 7, 3) := by decide +kernel
theorem dX4_isOffered_41 : decode cX4_isOffered 41 = .ok (.iconst 1, 1) := by decide +kernel
theorem dX4_isOffered_42 : decode cX4_isOffered 42 = .ok (.goto 4, 3) := by decide +kernel
theorem dX4_isOffered_45 : decode cX4_isOffered 45 = .ok (.iconst 0, 1) := by decide +kernel
theorem dX4_isOffered_46 : decode cX4_isOffered 46 = .ok (.ireturn, 1) := by decide +kernel
theorem dX4_answered_0 : decode cX4_answered 0 = .ok (.iload_n 1, 1) := by decide +kernel
theorem dX4_answered_1 : decode cX4_answered 1 = .ok (.iload_n 2, 1) := by decide +kernel
theorem dX4_answered_2 : decode cX4_answered 2 = .ok (.invokestatic 118, 3) := by decide +kernel
theorem dX4_answered_5 : decode cX4_answered 5 = .ok (.istore 4, 2) := by decide +kernel
theorem dX4_answered_7 : decode cX4_answered 7 = .ok (.aload_n 0, 1) := by decide +kernel
theorem dX4_answered_8 : decode cX4_answered 8 = .ok (.getfield 78, 3) := by decide +kernel
theorem dX4_answered_11 : decode cX4_answered 11 = .ok (.iload 4, 2) := by decide +kernel
theorem dX4_answered_13 : decode cX4_answered 13 = .ok (.iconst 0, 1) := by decide +kernel
theorem dX4_answered_14 : decode cX4_answered 14 = .ok (.bastore, 1) := by decide +kernel
theorem dX4_answered_15 : decode cX4_answered 15 = .ok (.iload_n 3, 1) := by decide +kernel
theorem dX4_answered_16 : decode cX4_answered 16 = .ok (.ifCond .ne 5, 3) := by decide +kernel
theorem dX4_answered_19 : decode cX4_answered 19 = .ok (.iconst (-1), 1) := by decide +kernel
theorem dX4_answered_20 : decode cX4_answered 20 = .ok (.ireturn, 1) := by decide +kernel
theorem dX4_answered_21 : decode cX4_answered 21 = .ok (.aload_n 0, 1) := by decide +kernel
theorem dX4_answered_22 : decode cX4_answered 22 = .ok (.getfield 84, 3) := by decide +kernel
theorem dX4_answered_25 : decode cX4_answered 25 = .ok (.iload 4, 2) := by decide +kernel
theorem dX4_answered_27 : decode cX4_answered 27 = .ok (.iconst (-1), 1) := by decide +kernel
theorem dX4_answered_28 : decode cX4_answered 28 = .ok (.iastore, 1) := by decide +kernel
theorem dX4_answered_29 : decode cX4_answered 29 = .ok (.aload_n 0, 1) := by decide +kernel
theorem dX4_answered_30 : decode cX4_answered 30 = .ok (.getfield 81, 3) := by decide +kernel
theorem dX4_answered_33 : decode cX4_answered 33 = .ok (.iload 4, 2) := by decide +kernel
theorem dX4_answered_35 : decode cX4_answered 35 = .ok (.iconst 0, 1) := by decide +kernel
theorem dX4_answered_36 : decode cX4_answered 36 = .ok (.bastore, 1) := by decide +kernel
theorem dX4_answered_37 : decode cX4_answered 37 = .ok (.aload_n 0, 1) := by decide +kernel
theorem dX4_answered_38 : decode cX4_answered 38 = .ok (.getfield 75, 3) := by decide +kernel
theorem dX4_answered_41 : decode cX4_answered 41 = .ok (.iload 4, 2) := by decide +kernel
theorem dX4_answered_43 : decode cX4_answered 43 = .ok (.iconst 1, 1) := by decide +kernel
theorem dX4_answered_44 : decode cX4_answered 44 = .ok (.bastore, 1) := by decide +kernel
theorem dX4_answered_45 : decode cX4_answered 45 = .ok (.aload_n 0, 1) := by decide +kernel
theorem dX4_answered_46 : decode cX4_answered 46 = .ok (.iload_n 1, 1) := by decide +kernel
theorem dX4_answered_47 : decode cX4_answered 47 = .ok (.iload_n 2, 1) := by decide +kernel
theorem dX4_answered_48 : decode cX4_answered 48 = .ok (.invokevirtual 168, 3) := by decide +kernel
theorem dX4_answered_51 : decode cX4_answered 51 = .ok (.aload_n 0, 1) := by decide +kernel
theorem dX4_answered_52 : decode cX4_answered 52 = .ok (.getfield 68, 3) := by decide +kernel
theorem dX4_answered_55 : decode cX4_answered 55 = .ok (.iload 4, 2) := by decide +kernel
theorem dX4_answered_57 : decode cX4_answered 57 = .ok (.iaload, 1) := by decide +kernel
theorem dX4_answered_58 : decode cX4_answered 58 = .ok (.ireturn, 1) := by decide +kernel
theorem dX4_answer_0 : decode cX4_answer 0 = .ok (.aload_n 0, 1) := by decide +kernel
theorem dX4_answer_1 : decode cX4_answer 1 = .ok (.iload_n 1, 1) := by decide +kernel
theorem dX4_answer_2 : decode cX4_answer 2 = .ok (.invokevirtual 129, 3) := by decide +kernel
theorem dX4_answer_5 : decode cX4_answer 5 = .ok (.ifCond .eq 15, 3) := by decide +kernel
theorem dX4_answer_8 : decode cX4_answer 8 = .ok (.aload_n 0, 1) := by decide +kernel
theorem dX4_answer_9 : decode cX4_answer 9 = .ok (.iload_n 2, 1) := by decide +kernel
theorem dX4_answer_10 : decode cX4_answer 10 = .ok (.invokevirtual 135, 3) := by decide +kernel
theorem dX4_answer_13 : decode cX4_answer 13 = .ok (.ifCond .eq 7, 3) := by decide +kernel
theorem dX4_answer_16 : decode cX4_answer 16 = .ok (.iconst 1, 1) := by decide +kernel
theorem dX4_answer_17 : decode cX4_answer 17 = .ok (.goto 4, 3) := by decide +kernel
theorem dX4_answer_20 : decode cX4_answer 20 = .ok (.iconst 0, 1) := by decide +kernel
theorem dX4_answer_21 : decode cX4_answer 21 = .ok (.istore 4, 2) := by decide +kernel
theorem dX4_answer_23 : decode cX4_answer 23 = .ok (.aload_n 0, 1) := by decide +kernel
theorem dX4_answer_24 : decode cX4_answer 24 = .ok (.iload 4, 2) := by decide +kernel
theorem dX4_answer_26 : decode cX4_answer 26 = .ok (.ifCond .ne 7, 3) := by decide +kernel
theorem dX4_answer_29 : decode cX4_answer 29 = .ok (.iconst 1, 1) := by decide +kernel
theorem dX4_answer_30 : decode cX4_answer 30 = .ok (.goto 21, 3) := by decide +kernel
theorem dX4_answer_33 : decode cX4_answer 33 = .ok (.aload_n 0, 1) := by decide +kernel
theorem dX4_answer_34 : decode cX4_answer 34 = .ok (.getfield 78, 3) := by decide +kernel
theorem dX4_answer_37 : decode cX4_answer 37 = .ok (.iload_n 1, 1) := by decide +kernel
theorem dX4_answer_38 : decode cX4_answer 38 = .ok (.iload_n 2, 1) := by decide +kernel
theorem dX4_answer_39 : decode cX4_answer 39 = .ok (.invokestatic 118, 3) := by decide +kernel
theorem dX4_answer_42 : decode cX4_answer 42 = .ok (.baload, 1) := by decide +kernel
theorem dX4_answer_43 : decode cX4_answer 43 = .ok (.ifCond .ne 7, 3) := by decide +kernel
theorem dX4_answer_46 : decode cX4_answer 46 = .ok (.iconst 2, 1) := by decide +kernel
theorem dX4_answer_47 : decode cX4_answer 47 = .ok (.goto 4, 3) := by decide +kernel
theorem dX4_answer_50 : decode cX4_answer 50 = .ok (.iconst 0, 1) := by decide +kernel
theorem dX4_answer_51 : decode cX4_answer 51 = .ok (.invokevirtual 113, 3) := by decide +kernel
theorem dX4_answer_54 : decode cX4_answer 54 = .ok (.ifCond .eq 13, 3) := by decide +kernel
theorem dX4_answer_57 : decode cX4_answer 57 = .ok (.aload_n 0, 1) := by decide +kernel
theorem dX4_answer_58 : decode cX4_answer 58 = .ok (.iload_n 1, 1) := by decide +kernel
theorem dX4_answer_59 : decode cX4_answer 59 = .ok (.iload_n 2, 1) := by decide +kernel
theorem dX4_answer_60 : decode cX4_answer 60 = .ok (.iload_n 3, 1) := by decide +kernel
theorem dX4_answer_61 : decode cX4_answer 61 = .ok (.invokevirtual 180, 3) := by decide +kernel
theorem dX4_answer_64 : decode cX4_answer 64 = .ok (.goto 4, 3) := by decide +kernel
theorem dX4_answer_67 : decode cX4_answer 67 = .ok (.iconst 0, 1) := by decide +kernel
theorem dX4_answer_68 : decode cX4_answer 68 = .ok (.ireturn, 1) := by decide +kernel
theorem dX4_score_0 : decode cX4_score 0 = .ok (.aload_n 0, 1) := by decide +kernel
theorem dX4_score_1 : decode cX4_score 1 = .ok (.aload_n 0, 1) := by decide +kernel
theorem dX4_score_2 : decode cX4_score 2 = .ok (.iload_n 1, 1) := by decide +kernel
theorem dX4_score_3 : decode cX4_score 3 = .ok (.invokevirtual 129, 3) := by decide +kernel
theorem dX4_score_6 : decode cX4_score 6 = .ok (.ifCond .eq 15, 3) := by decide +kernel
theorem dX4_score_9 : decode cX4_score 9 = .ok (.aload_n 0, 1) := by decide +kernel
theorem dX4_score_10 : decode cX4_score 10 = .ok (.iload_n 2, 1) := by decide +kernel
theorem dX4_score_11 : decode cX4_score 11 = .ok (.invokevirtual 135, 3) := by decide +kernel
theorem dX4_score_14 : decode cX4_score 14 = .ok (.ifCond .eq 7, 3) := by decide +kernel
theorem dX4_score_17 : decode cX4_score 17 = .ok (.iconst 0, 1) := by decide +kernel
theorem dX4_score_18 : decode cX4_score 18 = .ok (.goto 4, 3) := by decide +kernel
theorem dX4_score_21 : decode cX4_score 21 = .ok (.iconst 1, 1) := by decide +kernel
theorem dX4_score_22 : decode cX4_score 22 = .ok (.invokevirtual 113, 3) := by decide +kernel
theorem dX4_score_25 : decode cX4_score 25 = .ok (.ifCond .eq 16, 3) := by decide +kernel
theorem dX4_score_28 : decode cX4_score 28 = .ok (.aload_n 0, 1) := by decide +kernel
theorem dX4_score_29 : decode cX4_score 29 = .ok (.getfield 84, 3) := by decide +kernel
theorem dX4_score_32 : decode cX4_score 32 = .ok (.iload_n 1, 1) := by decide +kernel
theorem dX4_score_33 : decode cX4_score 33 = .ok (.iload_n 2, 1) := by decide +kernel
theorem dX4_score_34 : decode cX4_score 34 = .ok (.invokestatic 118, 3) := by decide +kernel
theorem dX4_score_37 : decode cX4_score 37 = .ok (.iaload, 1) := by decide +kernel
theorem dX4_score_38 : decode cX4_score 38 = .ok (.goto 4, 3) := by decide +kernel
theorem dX4_score_41 : decode cX4_score 41 = .ok (.iconst 0, 1) := by decide +kernel
theorem dX4_score_42 : decode cX4_score 42 = .ok (.ireturn, 1) := by decide +kernel
theorem dX4_isAhead_0 : decode cX4_isAhead 0 = .ok (.aload_n 0, 1) := by decide +kernel
theorem dX4_isAhead_1 : decode cX4_isAhead 1 = .ok (.getfield 16, 3) := by decide +kernel
theorem dX4_isAhead_4 : decode cX4_isAhead 4 = .ok (.iload_n 1, 1) := by decide +kernel
theorem dX4_isAhead_5 : decode cX4_isAhead 5 = .ok (.iaload, 1) := by decide +kernel
theorem dX4_isAhead_6 : decode cX4_isAhead 6 = .ok (.aload_n 0, 1) := by decide +kernel
theorem dX4_isAhead_7 : decode cX4_isAhead 7 = .ok (.getfield 13, 3) := by decide +kernel
theorem dX4_isAhead_10 : decode cX4_isAhead 10 = .ok (.iload_n 2, 1) := by decide +kernel
theorem dX4_isAhead_11 : decode cX4_isAhead 11 = .ok (.iaload, 1) := by decide +kernel
theorem dX4_isAhead_12 : decode cX4_isAhead 12 = .ok (.imul, 1) := by decide +kernel
theorem dX4_isAhead_13 : decode cX4_isAhead 13 = .ok (.aload_n 0, 1) := by decide +kernel
theorem dX4_isAhead_14 : decode cX4_isAhead 14 = .ok (.getfield 16, 3) := by decide +kernel
theorem dX4_isAhead_17 : decode cX4_isAhead 17 = .ok (.iload_n 2, 1) := by decide +kernel
theorem dX4_isAhead_18 : decode cX4_isAhead 18 = .ok (.iaload, 1) := by decide +kernel
theorem dX4_isAhead_19 : decode cX4_isAhead 19 = .ok (.aload_n 0, 1) := by decide +kernel
theorem dX4_isAhead_20 : decode cX4_isAhead 20 = .ok (.getfield 13, 3) := by decide +kernel
theorem dX4_isAhead_23 : decode cX4_isAhead 23 = .ok (.iload_n 1, 1) := by decide +kernel
theorem dX4_isAhead_24 : decode cX4_isAhead 24 = .ok (.iaload, 1) := by decide +kernel
theorem dX4_isAhead_25 : decode cX4_isAhead 25 = .ok (.imul, 1) := by decide +kernel
theorem dX4_isAhead_26 : decode cX4_isAhead 26 = .ok (.isub, 1) := by decide +kernel
theorem dX4_isAhead_27 : decode cX4_isAhead 27 = .ok (.istore_n 3, 1) := by decide +kernel
theorem dX4_isAhead_28 : decode cX4_isAhead 28 = .ok (.aload_n 0, 1) := by decide +kernel
theorem dX4_isAhead_29 : decode cX4_isAhead 29 = .ok (.getfield 19, 3) := by decide +kernel
theorem dX4_isAhead_32 : decode cX4_isAhead 32 = .ok (.iload_n 1, 1) := by decide +kernel
theorem dX4_isAhead_33 : decode cX4_isAhead 33 = .ok (.iaload, 1) := by decide +kernel
theorem dX4_isAhead_34 : decode cX4_isAhead 34 = .ok (.aload_n 0, 1) := by decide +kernel
theorem dX4_isAhead_35 : decode cX4_isAhead 35 = .ok (.getfield 13, 3) := by decide +kernel
theorem dX4_isAhead_38 : decode cX4_isAhead 38 = .ok (.iload_n 2, 1) := by decide +kernel
theorem dX4_isAhead_39 : decode cX4_isAhead 39 = .ok (.iaload, 1) := by decide +kernel
theorem dX4_isAhead_40 : decode cX4_isAhead 40 = .ok (.imul, 1) := by decide +kernel
theorem dX4_isAhead_41 : decode cX4_isAhead 41 = .ok (.aload_n 0, 1) := by decide +kernel
theorem dX4_isAhead_42 : decode cX4_isAhead 42 = .ok (.getfield 19, 3) := by decide +kernel
theorem dX4_isAhead_45 : decode cX4_isAhead 45 = .ok (.iload_n 2, 1) := by decide +kernel
theorem dX4_isAhead_46 : decode cX4_isAhead 46 = .ok (.iaload, 1) := by decide +kernel
theorem dX4_isAhead_47 : decode cX4_isAhead 47 = .ok (.aload_n 0, 1) := by decide +kernel
theorem dX4_isAhead_48 : decode cX4_isAhead 48 = .ok (.getfield 13, 3) := by decide +kernel
theorem dX4_isAhead_51 : decode cX4_isAhead 51 = .ok (.iload_n 1, 1) := by decide +kernel
theorem dX4_isAhead_52 : decode cX4_isAhead 52 = .ok (.iaload, 1) := by decide +kernel
theorem dX4_isAhead_53 : decode cX4_isAhead 53 = .ok (.imul, 1) := by decide +kernel
theorem dX4_isAhead_54 : decode cX4_isAhead 54 = .ok (.isub, 1) := by decide +kernel
theorem dX4_isAhead_55 : decode cX4_isAhead 55 = .ok (.istore 4, 2) := by decide +kernel
theorem dX4_isAhead_57 : decode cX4_isAhead 57 = .ok (.iload_n 3, 1) := by decide +kernel
theorem dX4_isAhead_58 : decode cX4_isAhead 58 = .ok (.ifCond .eq 15, 3) := by decide +kernel
theorem dX4_isAhead_61 : decode cX4_isAhead 61 = .ok (.iload_n 3, 1) := by decide +kernel
theorem dX4_isAhead_62 : decode cX4_isAhead 62 = .ok (.ifCond .le 7, 3) := by decide +kernel
theorem dX4_isAhead_65 : decode cX4_isAhead 65 = .ok (.iconst 1, 1) := by decide +kernel
theorem dX4_isAhead_66 : decode cX4_isAhead 66 = .ok (.goto 35, 3) := by decide +kernel
theorem dX4_isAhead_69 : decode cX4_isAhead 69 = .ok (.iconst 0, 1) := by decide +kernel
theorem dX4_isAhead_70 : decode cX4_isAhead 70 = .ok (.goto 31, 3) := by decide +kernel
theorem dX4_isAhead_73 : decode cX4_isAhead 73 = .ok (.iload 4, 2) := by decide +kernel
theorem dX4_isAhead_75 : decode cX4_isAhead 75 = .ok (.ifCond .eq 16, 3) := by decide +kernel
theorem dX4_isAhead_78 : decode cX4_isAhead 78 = .ok (.iload 4, 2) := by decide +kernel
theorem dX4_isAhead_80 : decode cX4_isAhead 80 = .ok (.ifCond .le 7, 3) := by decide +kernel
theorem dX4_isAhead_83 : decode cX4_isAhead 83 = .ok (.iconst 1, 1) := by decide +kernel
theorem dX4_isAhead_84 : decode cX4_isAhead 84 = .ok (.goto 17, 3) := by decide +kernel
theorem dX4_isAhead_87 : decode cX4_isAhead 87 = .ok (.iconst 0, 1) := by decide +kernel
theorem dX4_isAhead_88 : decode cX4_isAhead 88 = .ok (.goto 13, 3) := by decide +kernel
theorem dX4_isAhead_91 : decode cX4_isAhead 91 = .ok (.iload_n 1, 1) := by decide +kernel
theorem dX4_isAhead_92 : decode cX4_isAhead 92 = .ok (.iload_n 2, 1) := by decide +kernel
theorem dX4_isAhead_93 : decode cX4_isAhead 93 = .ok (.if_icmp .ge 7, 3) := by decide +kernel
theorem dX4_isAhead_96 : decode cX4_isAhead 96 = .ok (.iconst 1, 1) := by decide +kernel
theorem dX4_isAhead_97 : decode cX4_isAhead 97 = .ok (.goto 4, 3) := by decide +kernel
theorem dX4_isAhead_100 : decode cX4_isAhead 100 = .ok (.iconst 0, 1) := by decide +kernel
theorem dX4_isAhead_101 : decode cX4_isAhead 101 = .ok (.ireturn, 1) := by decide +kernel
theorem dX4_rankOf_0 : decode cX4_rankOf 0 = .ok (.iconst 0, 1) := by decide +kernel
theorem dX4_rankOf_1 : decode cX4_rankOf 1 = .ok (.istore_n 2, 1) := by decide +kernel
theorem dX4_rankOf_2 : decode cX4_rankOf 2 = .ok (.iconst 0, 1) := by decide +kernel
theorem dX4_rankOf_3 : decode cX4_rankOf 3 = .ok (.istore_n 3, 1) := by decide +kernel
theorem dX4_rankOf_4 : decode cX4_rankOf 4 = .ok (.iload_n 3, 1) := by decide +kernel
theorem dX4_rankOf_5 : decode cX4_rankOf 5 = .ok (.aload_n 0, 1) := by decide +kernel
theorem dX4_rankOf_6 : decode cX4_rankOf 6 = .ok (.getfield 100, 3) := by decide +kernel
theorem dX4_rankOf_9 : decode cX4_rankOf 9 = .ok (.if_icmp .ge 40, 3) := by decide +kernel
theorem dX4_rankOf_12 : decode cX4_rankOf 12 = .ok (.iload_n 2, 1) := by decide +kernel
theorem dX4_rankOf_13 : decode cX4_rankOf 13 = .ok (.iload_n 3, 1) := by decide +kernel
theorem dX4_rankOf_14 : decode cX4_rankOf 14 = .ok (.iload_n 1, 1) := by decide +kernel
theorem dX4_rankOf_15 : decode cX4_rankOf 15 = .ok (.if_icmp .eq 25, 3) := by decide +kernel
theorem dX4_rankOf_18 : decode cX4_rankOf 18 = .ok (.aload_n 0, 1) := by decide +kernel
theorem dX4_rankOf_19 : decode cX4_rankOf 19 = .ok (.getfield 13, 3) := by decide +kernel
theorem dX4_rankOf_22 : decode cX4_rankOf 22 = .ok (.iload_n 3, 1) := by decide +kernel
theorem dX4_rankOf_23 : decode cX4_rankOf 23 = .ok (.iaload, 1) := by decide +kernel
theorem dX4_rankOf_24 : decode cX4_rankOf 24 = .ok (.ifCond .le 16, 3) := by decide +kernel
theorem dX4_rankOf_27 : decode cX4_rankOf 27 = .ok (.aload_n 0, 1) := by decide +kernel
theorem dX4_rankOf_28 : decode cX4_rankOf 28 = .ok (.iload_n 3, 1) := by decide +kernel
theorem dX4_rankOf_29 : decode cX4_rankOf 29 = .ok (.iload_n 1, 1) := by decide +kernel
theorem dX4_rankOf_30 : decode cX4_rankOf 30 = .ok (.invokevirtual 184, 3) := by decide +kernel
theorem dX4_rankOf_33 : decode cX4_rankOf 33 = .ok (.ifCond .eq 7, 3) := by decide +kernel
theorem dX4_rankOf_36 : decode cX4_rankOf 36 = .ok (.iconst 1, 1) := by decide +kernel
theorem dX4_rankOf_37 : decode cX4_rankOf 37 = .ok (.goto 4, 3) := by decide +kernel
theorem dX4_rankOf_40 : decode cX4_rankOf 40 = .ok (.iconst 0, 1) := by decide +kernel
theorem dX4_rankOf_41 : decode cX4_rankOf 41 = .ok (.iadd, 1) := by decide +kernel
theorem dX4_rankOf_42 : decode cX4_rankOf 42 = .ok (.istore_n 2, 1) := by decide +kernel
theorem dX4_rankOf_43 : decode cX4_rankOf 43 = .ok (.iinc 3 1, 3) := by decide +kernel
theorem dX4_rankOf_46 : decode cX4_rankOf 46 = .ok (.goto (-42), 3) := by decide +kernel
theorem dX4_rankOf_49 : decode cX4_rankOf 49 = .ok (.aload_n 0, 1) := by decide +kernel
theorem dX4_rankOf_50 : decode cX4_rankOf 50 = .ok (.getfield 13, 3) := by decide +kernel
theorem dX4_rankOf_53 : decode cX4_rankOf 53 = .ok (.iload_n 1, 1) := by decide +kernel
theorem dX4_rankOf_54 : decode cX4_rankOf 54 = .ok (.iaload, 1) := by decide +kernel
theorem dX4_rankOf_55 : decode cX4_rankOf 55 = .ok (.ifCond .ne 7, 3) := by decide +kernel
theorem dX4_rankOf_58 : decode cX4_rankOf 58 = .ok (.iconst (-1), 1) := by decide +kernel
theorem dX4_rankOf_59 : decode cX4_rankOf 59 = .ok (.goto 4, 3) := by decide +kernel
theorem dX4_rankOf_62 : decode cX4_rankOf 62 = .ok (.iload_n 2, 1) := by decide +kernel
theorem dX4_rankOf_63 : decode cX4_rankOf 63 = .ok (.ireturn, 1) := by decide +kernel
theorem dX4_told_0 : decode cX4_told 0 = .ok (.iload_n 2, 1) := by decide +kernel
theorem dX4_told_1 : decode cX4_told 1 = .ok (.tableswitch 59 0 3 #[31, 38, 45, 52], 31) := by decide +kernel
theorem dX4_told_32 : decode cX4_told 32 = .ok (.aload_n 0, 1) := by decide +kernel
theorem dX4_told_33 : decode cX4_told 33 = .ok (.getfield 7, 3) := by decide +kernel
theorem dX4_told_36 : decode cX4_told 36 = .ok (.iload_n 1, 1) := by decide +kernel
theorem dX4_told_37 : decode cX4_told 37 = .ok (.iaload, 1) := by decide +kernel
theorem dX4_told_38 : decode cX4_told 38 = .ok (.ireturn, 1) := by decide +kernel
theorem dX4_told_39 : decode cX4_told 39 = .ok (.aload_n 0, 1) := by decide +kernel
theorem dX4_told_40 : decode cX4_told 40 = .ok (.getfield 13, 3) := by decide +kernel
theorem dX4_told_43 : decode cX4_told 43 = .ok (.iload_n 1, 1) := by decide +kernel
theorem dX4_told_44 : decode cX4_told 44 = .ok (.iaload, 1) := by decide +kernel
theorem dX4_told_45 : decode cX4_told 45 = .ok (.ireturn, 1) := by decide +kernel
theorem dX4_told_46 : decode cX4_told 46 = .ok (.aload_n 0, 1) := by decide +kernel
theorem dX4_told_47 : decode cX4_told 47 = .ok (.getfield 16, 3) := by decide +kernel
theorem dX4_told_50 : decode cX4_told 50 = .ok (.iload_n 1, 1) := by decide +kernel
theorem dX4_told_51 : decode cX4_told 51 = .ok (.iaload, 1) := by decide +kernel
theorem dX4_told_52 : decode cX4_told 52 = .ok (.ireturn, 1) := by decide +kernel
theorem dX4_told_53 : decode cX4_told 53 = .ok (.aload_n 0, 1) := by decide +kernel
theorem dX4_told_54 : decode cX4_told 54 = .ok (.getfield 19, 3) := by decide +kernel
theorem dX4_told_57 : decode cX4_told 57 = .ok (.iload_n 1, 1) := by decide +kernel
theorem dX4_told_58 : decode cX4_told 58 = .ok (.iaload, 1) := by decide +kernel
theorem dX4_told_59 : decode cX4_told 59 = .ok (.ireturn, 1) := by decide +kernel
theorem dX4_told_60 : decode cX4_told 60 = .ok (.aload_n 0, 1) := by decide +kernel
theorem dX4_told_61 : decode cX4_told 61 = .ok (.iload_n 1, 1) := by decide +kernel
theorem dX4_told_62 : decode cX4_told 62 = .ok (.invokevirtual 187, 3) := by decide +kernel
theorem dX4_told_65 : decode cX4_told 65 = .ok (.ireturn, 1) := by decide +kernel
theorem dX4_beastIs_0 : decode cX4_beastIs 0 = .ok (.aload_n 0, 1) := by decide +kernel
theorem dX4_beastIs_1 : decode cX4_beastIs 1 = .ok (.iload_n 1, 1) := by decide +kernel
theorem dX4_beastIs_2 : decode cX4_beastIs 2 = .ok (.invokevirtual 190, 3) := by decide +kernel
theorem dX4_beastIs_5 : decode cX4_beastIs 5 = .ok (.istore_n 3, 1) := by decide +kernel
theorem dX4_beastIs_6 : decode cX4_beastIs 6 = .ok (.aload_n 0, 1) := by decide +kernel
theorem dX4_beastIs_7 : decode cX4_beastIs 7 = .ok (.iload_n 3, 1) := by decide +kernel
theorem dX4_beastIs_8 : decode cX4_beastIs 8 = .ok (.ifCond .ne 7, 3) := by decide +kernel
theorem dX4_beastIs_11 : decode cX4_beastIs 11 = .ok (.iconst 1, 1) := by decide +kernel
theorem dX4_beastIs_12 : decode cX4_beastIs 12 = .ok (.goto 17, 3) := by decide +kernel
theorem dX4_beastIs_15 : decode cX4_beastIs 15 = .ok (.iload_n 2, 1) := by decide +kernel
theorem dX4_beastIs_16 : decode cX4_beastIs 16 = .ok (.iconst 0, 1) := by decide +kernel
theorem dX4_beastIs_17 : decode cX4_beastIs 17 = .ok (.iconst 4, 1) := by decide +kernel
theorem dX4_beastIs_18 : decode cX4_beastIs 18 = .ok (.invokestatic 103, 3) := by decide +kernel
theorem dX4_beastIs_21 : decode cX4_beastIs 21 = .ok (.ifCond .ne 7, 3) := by decide +kernel
theorem dX4_beastIs_24 : decode cX4_beastIs 24 = .ok (.iconst 2, 1) := by decide +kernel
theorem dX4_beastIs_25 : decode cX4_beastIs 25 = .ok (.goto 4, 3) := by decide +kernel
theorem dX4_beastIs_28 : decode cX4_beastIs 28 = .ok (.iconst 0, 1) := by decide +kernel
theorem dX4_beastIs_29 : decode cX4_beastIs 29 = .ok (.invokevirtual 113, 3) := by decide +kernel
theorem dX4_beastIs_32 : decode cX4_beastIs 32 = .ok (.ifCond .eq 12, 3) := by decide +kernel
theorem dX4_beastIs_35 : decode cX4_beastIs 35 = .ok (.aload_n 0, 1) := by decide +kernel
theorem dX4_beastIs_36 : decode cX4_beastIs 36 = .ok (.iload_n 1, 1) := by decide +kernel
theorem dX4_beastIs_37 : decode cX4_beastIs 37 = .ok (.iload_n 2, 1) := by decide +kernel
theorem dX4_beastIs_38 : decode cX4_beastIs 38 = .ok (.invokevirtual 193, 3) := by decide +kernel
theorem dX4_beastIs_41 : decode cX4_beastIs 41 = .ok (.goto 4, 3) := by decide +kernel
theorem dX4_beastIs_44 : decode cX4_beastIs 44 = .ok (.iconst 0, 1) := by decide +kernel
theorem dX4_beastIs_45 : decode cX4_beastIs 45 = .ok (.ireturn, 1) := by decide +kernel
theorem dX4_canBePaid_0 : decode cX4_canBePaid 0 = .ok (.aload_n 0, 1) := by decide +kernel
theorem dX4_canBePaid_1 : decode cX4_canBePaid 1 = .ok (.getfield 47, 3) := by decide +kernel
theorem dX4_canBePaid_4 : decode cX4_canBePaid 4 = .ok (.iload_n 1, 1) := by decide +kernel
theorem dX4_canBePaid_5 : decode cX4_canBePaid 5 = .ok (.iaload, 1) := by decide +kernel
theorem dX4_canBePaid_6 : decode cX4_canBePaid 6 = .ok (.iconst 2, 1) := by decide +kernel
theorem dX4_canBePaid_7 : decode cX4_canBePaid 7 = .ok (.if_icmp .ne 7, 3) := by decide +kernel
theorem dX4_canBePaid_10 : decode cX4_canBePaid 10 = .ok (.iconst 1, 1) := by decide +kernel
theorem dX4_canBePaid_11 : decode cX4_canBePaid 11 = .ok (.goto 4, 3) := by decide +kernel
theorem dX4_canBePaid_14 : decode cX4_canBePaid 14 = .ok (.iconst 0, 1) := by decide +kernel
theorem dX4_canBePaid_15 : decode cX4_canBePaid 15 = .ok (.istore_n 2, 1) := by decide +kernel
theorem dX4_canBePaid_16 : decode cX4_canBePaid 16 = .ok (.iload_n 1, 1) := by decide +kernel
theorem dX4_canBePaid_17 : decode cX4_canBePaid 17 = .ok (.iconst 0, 1) := by decide +kernel
theorem dX4_canBePaid_18 : decode cX4_canBePaid 18 = .ok (.invokestatic 118, 3) := by decide +kernel
theorem dX4_canBePaid_21 : decode cX4_canBePaid 21 = .ok (.istore_n 3, 1) := by decide +kernel
theorem dX4_canBePaid_22 : decode cX4_canBePaid 22 = .ok (.iload_n 3, 1) := by decide +kernel
theorem dX4_canBePaid_23 : decode cX4_canBePaid 23 = .ok (.iload_n 1, 1) := by decide +kernel
theorem dX4_canBePaid_24 : decode cX4_canBePaid 24 = .ok (.iconst 1, 1) := by decide +kernel
theorem dX4_canBePaid_25 : decode cX4_canBePaid 25 = .ok (.iadd, 1) := by decide +kernel
theorem dX4_canBePaid_26 : decode cX4_canBePaid 26 = .ok (.iconst 0, 1) := by decide +kernel
theorem dX4_canBePaid_27 : decode cX4_canBePaid 27 = .ok (.invokestatic 118, 3) := by decide +kernel
theorem dX4_canBePaid_30 : decode cX4_canBePaid 30 = .ok (.if_icmp .ge 37, 3) := by decide +kernel
theorem dX4_canBePaid_33 : decode cX4_canBePaid 33 = .ok (.iload_n 2, 1) := by decide +kernel
theorem dX4_canBePaid_34 : decode cX4_canBePaid 34 = .ok (.ifCond .eq 25, 3) := by decide +kernel
theorem dX4_canBePaid_37 : decode cX4_canBePaid 37 = .ok (.aload_n 0, 1) := by decide +kernel
theorem dX4_canBePaid_38 : decode cX4_canBePaid 38 = .ok (.getfield 71, 3) := by decide +kernel
theorem dX4_canBePaid_41 : decode cX4_canBePaid 41 = .ok (.iload_n 3, 1) := by decide +kernel
theorem dX4_canBePaid_42 : decode cX4_canBePaid 42 = .ok (.baload, 1) := by decide +kernel
theorem dX4_canBePaid_43 : decode cX4_canBePaid 43 = .ok (.ifCond .ne 16, 3) := by decide +kernel
theorem dX4_canBePaid_46 : decode cX4_canBePaid 46 = .ok (.aload_n 0, 1) := by decide +kernel
theorem dX4_canBePaid_47 : decode cX4_canBePaid 47 = .ok (.getfield 78, 3) := by decide +kernel
theorem dX4_canBePaid_50 : decode cX4_canBePaid 50 = .ok (.iload_n 3, 1) := by decide +kernel
theorem dX4_canBePaid_51 : decode cX4_canBePaid 51 = .ok (.baload, 1) := by decide +kernel
theorem dX4_canBePaid_52 : decode cX4_canBePaid 52 = .ok (.ifCond .ne 7, 3) := by decide +kernel
