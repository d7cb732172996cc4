theorem dL_call_0 : decode cL_call 0 = .ok (.iload_n 1, 1) := by decide +kernel
theorem dL_call_1 : decode cL_call 1 = .ok (.tableswitch 216 0 16 #[83, 89, 94, 101, 112, 118, 125, 131, 137, 144, 159, 177, 184, 191, 197, 204, 210], 83) := by decide +kernel
theorem dL_call_84 : decode cL_call 84 = .ok (.aload_n 0, 1) := by decide +kernel
theorem dL_call_85 : decode cL_call 85 = .ok (.iload_n 2, 1) := by decide +kernel
theorem dL_call_86 : decode cL_call 86 = .ok (.invokevirtual 7, 3) := by decide +kernel
theorem dL_call_89 : decode cL_call 89 = .ok (.ireturn, 1) := by decide +kernel
theorem dL_call_90 : decode cL_call 90 = .ok (.aload_n 0, 1) := by decide +kernel
theorem dL_call_91 : decode cL_call 91 = .ok (.invokevirtual 13, 3) := by decide +kernel
theorem dL_call_94 : decode cL_call 94 = .ok (.ireturn, 1) := by decide +kernel
theorem dL_call_95 : decode cL_call 95 = .ok (.aload_n 0, 1) := by decide +kernel
theorem dL_call_96 : decode cL_call 96 = .ok (.iload_n 2, 1) := by decide +kernel
theorem dL_call_97 : decode cL_call 97 = .ok (.iload_n 3, 1) := by decide +kernel
theorem dL_call_98 : decode cL_call 98 = .ok (.invokevirtual 17, 3) := by decide +kernel
theorem dL_call_101 : decode cL_call 101 = .ok (.ireturn, 1) := by decide +kernel
theorem dL_call_102 : decode cL_call 102 = .ok (.aload_n 0, 1) := by decide +kernel
theorem dL_call_103 : decode cL_call 103 = .ok (.iload_n 2, 1) := by decide +kernel
theorem dL_call_104 : decode cL_call 104 = .ok (.iload_n 3, 1) := by decide +kernel
theorem dL_call_105 : decode cL_call 105 = .ok (.iload 4, 2) := by decide +kernel
theorem dL_call_107 : decode cL_call 107 = .ok (.iload 5, 2) := by decide +kernel
theorem dL_call_109 : decode cL_call 109 = .ok (.invokevirtual 21, 3) := by decide +kernel
theorem dL_call_112 : decode cL_call 112 = .ok (.ireturn, 1) := by decide +kernel
theorem dL_call_113 : decode cL_call 113 = .ok (.aload_n 0, 1) := by decide +kernel
theorem dL_call_114 : decode cL_call 114 = .ok (.iload_n 2, 1) := by decide +kernel
theorem dL_call_115 : decode cL_call 115 = .ok (.invokevirtual 25, 3) := by decide +kernel
theorem dL_call_118 : decode cL_call 118 = .ok (.ireturn, 1) := by decide +kernel
theorem dL_call_119 : decode cL_call 119 = .ok (.aload_n 0, 1) := by decide +kernel
theorem dL_call_120 : decode cL_call 120 = .ok (.iload_n 2, 1) := by decide +kernel
theorem dL_call_121 : decode cL_call 121 = .ok (.iload_n 3, 1) := by decide +kernel
theorem dL_call_122 : decode cL_call 122 = .ok (.invokevirtual 28, 3) := by decide +kernel
theorem dL_call_125 : decode cL_call 125 = .ok (.ireturn, 1) := by decide +kernel
theorem dL_call_126 : decode cL_call 126 = .ok (.aload_n 0, 1) := by decide +kernel
theorem dL_call_127 : decode cL_call 127 = .ok (.iload_n 2, 1) := by decide +kernel
theorem dL_call_128 : decode cL_call 128 = .ok (.invokevirtual 31, 3) := by decide +kernel
theorem dL_call_131 : decode cL_call 131 = .ok (.ireturn, 1) := by decide +kernel
theorem dL_call_132 : decode cL_call 132 = .ok (.aload_n 0, 1) := by decide +kernel
theorem dL_call_133 : decode cL_call 133 = .ok (.iload_n 2, 1) := by decide +kernel
theorem dL_call_134 : decode cL_call 134 = .ok (.invokevirtual 34, 3) := by decide +kernel
theorem dL_call_137 : decode cL_call 137 = .ok (.ireturn, 1) := by decide +kernel
theorem dL_call_138 : decode cL_call 138 = .ok (.aload_n 0, 1) := by decide +kernel
theorem dL_call_139 : decode cL_call 139 = .ok (.iload_n 2, 1) := by decide +kernel
theorem dL_call_140 : decode cL_call 140 = .ok (.iload_n 3, 1) := by decide +kernel
theorem dL_call_141 : decode cL_call 141 = .ok (.invokevirtual 37, 3) := by decide +kernel
theorem dL_call_144 : decode cL_call 144 = .ok (.ireturn, 1) := by decide +kernel
theorem dL_call_145 : decode cL_call 145 = .ok (.aload_n 0, 1) := by decide +kernel
theorem dL_call_146 : decode cL_call 146 = .ok (.iload_n 2, 1) := by decide +kernel
theorem dL_call_147 : decode cL_call 147 = .ok (.iload_n 3, 1) := by decide +kernel
theorem dL_call_148 : decode cL_call 148 = .ok (.invokevirtual 40, 3) := by decide +kernel
theorem dL_call_151 : decode cL_call 151 = .ok (.ifCond .eq 7, 3) := by decide +kernel
theorem dL_call_154 : decode cL_call 154 = .ok (.iconst 1, 1) := by decide +kernel
theorem dL_call_155 : decode cL_call 155 = .ok (.goto 4, 3) := by decide +kernel
theorem dL_call_158 : decode cL_call 158 = .ok (.iconst 0, 1) := by decide +kernel
theorem dL_call_159 : decode cL_call 159 = .ok (.ireturn, 1) := by decide +kernel
theorem dL_call_160 : decode cL_call 160 = .ok (.aload_n 0, 1) := by decide +kernel
theorem dL_call_161 : decode cL_call 161 = .ok (.iload_n 2, 1) := by decide +kernel
theorem dL_call_162 : decode cL_call 162 = .ok (.iload_n 3, 1) := by decide +kernel
theorem dL_call_163 : decode cL_call 163 = .ok (.iload 4, 2) := by decide +kernel
theorem dL_call_165 : decode cL_call 165 = .ok (.iconst 1, 1) := by decide +kernel
theorem dL_call_166 : decode cL_call 166 = .ok (.if_icmp .ne 7, 3) := by decide +kernel
theorem dL_call_169 : decode cL_call 169 = .ok (.iconst 1, 1) := by decide +kernel
theorem dL_call_170 : decode cL_call 170 = .ok (.goto 4, 3) := by decide +kernel
theorem dL_call_173 : decode cL_call 173 = .ok (.iconst 0, 1) := by decide +kernel
theorem dL_call_174 : decode cL_call 174 = .ok (.invokevirtual 44, 3) := by decide +kernel
theorem dL_call_177 : decode cL_call 177 = .ok (.ireturn, 1) := by decide +kernel
theorem dL_call_178 : decode cL_call 178 = .ok (.aload_n 0, 1) := by decide +kernel
theorem dL_call_179 : decode cL_call 179 = .ok (.iload_n 2, 1) := by decide +kernel
theorem dL_call_180 : decode cL_call 180 = .ok (.iload_n 3, 1) := by decide +kernel
theorem dL_call_181 : decode cL_call 181 = .ok (.invokevirtual 48, 3) := by decide +kernel
theorem dL_call_184 : decode cL_call 184 = .ok (.ireturn, 1) := by decide +kernel
theorem dL_call_185 : decode cL_call 185 = .ok (.aload_n 0, 1) := by decide +kernel
theorem dL_call_186 : decode cL_call 186 = .ok (.iload_n 2, 1) := by decide +kernel
theorem dL_call_187 : decode cL_call 187 = .ok (.iload_n 3, 1) := by decide +kernel
theorem dL_call_188 : decode cL_call 188 = .ok (.invokevirtual 51, 3) := by decide +kernel
theorem dL_call_191 : decode cL_call 191 = .ok (.ireturn, 1) := by decide +kernel
theorem dL_call_192 : decode cL_call 192 = .ok (.aload_n 0, 1) := by decide +kernel
theorem dL_call_193 : decode cL_call 193 = .ok (.iload_n 2, 1) := by decide +kernel
theorem dL_call_194 : decode cL_call 194 = .ok (.invokevirtual 54, 3) := by decide +kernel
theorem dL_call_197 : decode cL_call 197 = .ok (.ireturn, 1) := by decide +kernel
theorem dL_call_198 : decode cL_call 198 = .ok (.aload_n 0, 1) := by decide +kernel
theorem dL_call_199 : decode cL_call 199 = .ok (.iload_n 2, 1) := by decide +kernel
theorem dL_call_200 : decode cL_call 200 = .ok (.iload_n 3, 1) := by decide +kernel
theorem dL_call_201 : decode cL_call 201 = .ok (.invokevirtual 57, 3) := by decide +kernel
theorem dL_call_204 : decode cL_call 204 = .ok (.ireturn, 1) := by decide +kernel
theorem dL_call_205 : decode cL_call 205 = .ok (.aload_n 0, 1) := by decide +kernel
theorem dL_call_206 : decode cL_call 206 = .ok (.iload_n 2, 1) := by decide +kernel
theorem dL_call_207 : decode cL_call 207 = .ok (.invokevirtual 60, 3) := by decide +kernel
theorem dL_call_210 : decode cL_call 210 = .ok (.ireturn, 1) := by decide +kernel
theorem dL_call_211 : decode cL_call 211 = .ok (.aload_n 0, 1) := by decide +kernel
theorem dL_call_212 : decode cL_call 212 = .ok (.iload_n 2, 1) := by decide +kernel
theorem dL_call_213 : decode cL_call 213 = .ok (.invokevirtual 63, 3) := by decide +kernel
theorem dL_call_216 : decode cL_call 216 = .ok (.ireturn, 1) := by decide +kernel
theorem dL_call_217 : decode cL_call 217 = .ok (.aload_n 0, 1) := by decide +kernel
theorem dL_call_218 : decode cL_call 218 = .ok (.iload_n 2, 1) := by decide +kernel
theorem dL_call_219 : decode cL_call 219 = .ok (.invokestatic 66, 3) := by decide +kernel
theorem dL_call_222 : decode cL_call 222 = .ok (.ireturn, 1) := by decide +kernel
theorem dL_hides_0 : decode cL_hides 0 = .ok (.aload_n 0, 1) := by decide +kernel
theorem dL_hides_1 : decode cL_hides 1 = .ok (.iload_n 1, 1) := by decide +kernel
theorem dL_hides_2 : decode cL_hides 2 = .ok (.invokevirtual 72, 3) := by decide +kernel
theorem dL_hides_5 : decode cL_hides 5 = .ok (.iconst 0, 1) := by decide +kernel
theorem dL_hides_6 : decode cL_hides 6 = .ok (.ireturn, 1) := by decide +kernel
theorem dL_ask_0 : decode cL_ask 0 = .ok (.aload_n 0, 1) := by decide +kernel
theorem dL_ask_1 : decode cL_ask 1 = .ok (.iload_n 1, 1) := by decide +kernel
theorem dL_ask_2 : decode cL_ask 2 = .ok (.iload_n 2, 1) := by decide +kernel
theorem dL_ask_3 : decode cL_ask 3 = .ok (.iload_n 3, 1) := by decide +kernel
theorem dL_ask_4 : decode cL_ask 4 = .ok (.iload 4, 2) := by decide +kernel
theorem dL_ask_6 : decode cL_ask 6 = .ok (.iload 5, 2) := by decide +kernel
theorem dL_ask_8 : decode cL_ask 8 = .ok (.invokestatic 76, 3) := by decide +kernel
theorem dL_ask_11 : decode cL_ask 11 = .ok (.ireturn, 1) := by decide +kernel
theorem dL_ask_12 : decode cL_ask 12 = .ok (.astore 6, 2) := by decide +kernel
theorem dL_ask_14 : decode cL_ask 14 = .ok (.bipush (-11), 2) := by decide +kernel
theorem dL_ask_16 : decode cL_ask 16 = .ok (.ireturn, 1) := by decide +kernel
theorem dL_ask_17 : decode cL_ask 17 = .ok (.astore 6, 2) := by decide +kernel
theorem dL_ask_19 : decode cL_ask 19 = .ok (.bipush (-12), 2) := by decide +kernel
theorem dL_ask_21 : decode cL_ask 21 = .ok (.ireturn, 1) := by decide +kernel
theorem dL_ask_22 : decode cL_ask 22 = .ok (.astore 6, 2) := by decide +kernel
theorem dL_ask_24 : decode cL_ask 24 = .ok (.bipush (-13), 2) := by decide +kernel
theorem dL_ask_26 : decode cL_ask 26 = .ok (.ireturn, 1) := by decide +kernel
theorem dL_rodeo_0 : decode cL_rodeo 0 = .ok (.aload_n 0, 1) := by decide +kernel
theorem dL_rodeo_1 : decode cL_rodeo 1 = .ok (.iload_n 1, 1) := by decide +kernel
theorem dL_rodeo_2 : decode cL_rodeo 2 = .ok (.iload_n 2, 1) := by decide +kernel
theorem dL_rodeo_3 : decode cL_rodeo 3 = .ok (.iload_n 3, 1) := by decide +kernel
theorem dL_rodeo_4 : decode cL_rodeo 4 = .ok (.iload 4, 2) := by decide +kernel
theorem dL_rodeo_6 : decode cL_rodeo 6 = .ok (.iload 5, 2) := by decide +kernel
theorem dL_rodeo_8 : decode cL_rodeo 8 = .ok (.iload 6, 2) := by decide +kernel
theorem dL_rodeo_10 : decode cL_rodeo 10 = .ok (.sipush 1000, 3) := by decide +kernel
theorem dL_rodeo_13 : decode cL_rodeo 13 = .ok (.idiv, 1) := by decide +kernel
theorem dL_rodeo_14 : decode cL_rodeo 14 = .ok (.iload 6, 2) := by decide +kernel
theorem dL_rodeo_16 : decode cL_rodeo 16 = .ok (.sipush 1000, 3) := by decide +kernel
theorem dL_rodeo_19 : decode cL_rodeo 19 = .ok (.irem, 1) := by decide +kernel
theorem dL_rodeo_20 : decode cL_rodeo 20 = .ok (.invokevirtual 86, 3) := by decide +kernel
theorem dL_rodeo_23 : decode cL_rodeo 23 = .ok (.ireturn, 1) := by decide +kernel
theorem dL_rodeo_24 : decode cL_rodeo 24 = .ok (.astore 7, 2) := by decide +kernel
theorem dL_rodeo_26 : decode cL_rodeo 26 = .ok (.bipush (-12), 2) := by decide +kernel
theorem dL_rodeo_28 : decode cL_rodeo 28 = .ok (.ireturn, 1) := by decide +kernel
theorem dL_rodeo_29 : decode cL_rodeo 29 = .ok (.astore 7, 2) := by decide +kernel
theorem dL_rodeo_31 : decode cL_rodeo 31 = .ok (.bipush (-13), 2) := by decide +kernel
theorem dL_rodeo_33 : decode cL_rodeo 33 = .ok (.ireturn, 1) := by decide +kernel
theorem dL_ride_0 : decode cL_ride 0 = .ok (.aload_n 0, 1) := by decide +kernel
theorem dL_ride_1 : decode cL_ride 1 = .ok (.iload_n 1, 1) := by decide +kernel
theorem dL_ride_2 : decode cL_ride 2 = .ok (.iload_n 2, 1) := by decide +kernel
theorem dL_ride_3 : decode cL_ride 3 = .ok (.iload_n 3, 1) := by decide +kernel
theorem dL_ride_4 : decode cL_ride 4 = .ok (.iload 4, 2) := by decide +kernel
theorem dL_ride_6 : decode cL_ride 6 = .ok (.iload 5, 2) := by decide +kernel
theorem dL_ride_8 : decode cL_ride 8 = .ok (.invokevirtual 90, 3) := by decide +kernel
theorem dL_ride_11 : decode cL_ride 11 = .ok (.ireturn, 1) := by decide +kernel
theorem dL_ride_12 : decode cL_ride 12 = .ok (.astore 6, 2) := by decide +kernel
theorem dL_ride_14 : decode cL_ride 14 = .ok (.bipush (-11), 2) := by decide +kernel
theorem dL_ride_16 : decode cL_ride 16 = .ok (.ireturn, 1) := by decide +kernel
theorem dL_ride_17 : decode cL_ride 17 = .ok (.astore 6, 2) := by decide +kernel
theorem dL_ride_19 : decode cL_ride 19 = .ok (.bipush (-12), 2) := by decide +kernel
theorem dL_ride_21 : decode cL_ride 21 = .ok (.ireturn, 1) := by decide +kernel
theorem dL_ride_22 : decode cL_ride 22 = .ok (.astore 6, 2) := by decide +kernel
theorem dL_ride_24 : decode cL_ride 24 = .ok (.bipush (-13), 2) := by decide +kernel
theorem dL_ride_26 : decode cL_ride 26 = .ok (.ireturn, 1) := by decide +kernel
theorem dL_draw_0 : decode cL_draw 0 = .ok (.iload_n 1, 1) := by decide +kernel
theorem dL_draw_1 : decode cL_draw 1 = .ok (.aload_n 0, 1) := by decide +kernel
theorem dL_draw_2 : decode cL_draw 2 = .ok (.arraylength, 1) := by decide +kernel
theorem dL_draw_3 : decode cL_draw 3 = .ok (.if_icmp .ge 9, 3) := by decide +kernel
theorem dL_draw_6 : decode cL_draw 6 = .ok (.aload_n 0, 1) := by decide +kernel
theorem dL_draw_7 : decode cL_draw 7 = .ok (.iload_n 1, 1) := by decide +kernel
theorem dL_draw_8 : decode cL_draw 8 = .ok (.iaload, 1) := by decide +kernel
theorem dL_draw_9 : decode cL_draw 9 = .ok (.goto 18, 3) := by decide +kernel
theorem dL_draw_12 : decode cL_draw 12 = .ok (.ldc 94, 2) := by decide +kernel
theorem dL_draw_14 : decode cL_draw 14 = .ok (.iload_n 1, 1) := by decide +kernel
theorem dL_draw_15 : decode cL_draw 15 = .ok (.imul, 1) := by decide +kernel
theorem dL_draw_16 : decode cL_draw 16 = .ok (.iload_n 1, 1) := by decide +kernel
theorem dL_draw_17 : decode cL_draw 17 = .ok (.imul, 1) := by decide +kernel
theorem dL_draw_18 : decode cL_draw 18 = .ok (.ldc 95, 2) := by decide +kernel
theorem dL_draw_20 : decode cL_draw 20 = .ok (.iload_n 1, 1) := by decide +kernel
theorem dL_draw_21 : decode cL_draw 21 = .ok (.imul, 1) := by decide +kernel
theorem dL_draw_22 : decode cL_draw 22 = .ok (.iadd, 1) := by decide +kernel
theorem dL_draw_23 : decode cL_draw 23 = .ok (.sipush 365, 3) := by decide +kernel
theorem dL_draw_26 : decode cL_draw 26 = .ok (.iadd, 1) := by decide +kernel
theorem dL_draw_27 : decode cL_draw 27 = .ok (.ireturn, 1) := by decide +kernel
theorem dL_isPlace_0 : decode cL_isPlace 0 = .ok (.aload_n 0, 1) := by decide +kernel
theorem dL_isPlace_1 : decode cL_isPlace 1 = .ok (.iload_n 1, 1) := by decide +kernel
theorem dL_isPlace_2 : decode cL_isPlace 2 = .ok (.iconst 0, 1) := by decide +kernel
theorem dL_isPlace_3 : decode cL_isPlace 3 = .ok (.invokevirtual 17, 3) := by decide +kernel
theorem dL_isPlace_6 : decode cL_isPlace 6 = .ok (.istore_n 3, 1) := by decide +kernel
theorem dL_isPlace_7 : decode cL_isPlace 7 = .ok (.aload_n 0, 1) := by decide +kernel
theorem dL_isPlace_8 : decode cL_isPlace 8 = .ok (.iload_n 1, 1) := by decide +kernel
theorem dL_isPlace_9 : decode cL_isPlace 9 = .ok (.iload_n 2, 1) := by decide +kernel
theorem dL_isPlace_10 : decode cL_isPlace 10 = .ok (.invokevirtual 28, 3) := by decide +kernel
theorem dL_isPlace_13 : decode cL_isPlace 13 = .ok (.istore 4, 2) := by decide +kernel
theorem dL_isPlace_15 : decode cL_isPlace 15 = .ok (.aload_n 0, 1) := by decide +kernel
theorem dL_isPlace_16 : decode cL_isPlace 16 = .ok (.iload_n 1, 1) := by decide +kernel
theorem dL_isPlace_17 : decode cL_isPlace 17 = .ok (.iload_n 2, 1) := by decide +kernel
theorem dL_isPlace_18 : decode cL_isPlace 18 = .ok (.invokevirtual 37, 3) := by decide +kernel
theorem dL_isPlace_21 : decode cL_isPlace 21 = .ok (.istore 5, 2) := by decide +kernel
theorem dL_isPlace_23 : decode cL_isPlace 23 = .ok (.aload_n 0, 1) := by decide +kernel
theorem dL_isPlace_24 : decode cL_isPlace 24 = .ok (.iload_n 1, 1) := by decide +kernel
theorem dL_isPlace_25 : decode cL_isPlace 25 = .ok (.iload_n 2, 1) := by decide +kernel
theorem dL_isPlace_26 : decode cL_isPlace 26 = .ok (.invokevirtual 48, 3) := by decide +kernel
theorem dL_isPlace_29 : decode cL_isPlace 29 = .ok (.istore 6, 2) := by decide +kernel
theorem dL_isPlace_31 : decode cL_isPlace 31 = .ok (.aload_n 0, 1) := by decide +kernel
theorem dL_isPlace_32 : decode cL_isPlace 32 = .ok (.iload_n 1, 1) := by decide +kernel
theorem dL_isPlace_33 : decode cL_isPlace 33 = .ok (.iload_n 2, 1) := by decide +kernel
theorem dL_isPlace_34 : decode cL_isPlace 34 = .ok (.invokevirtual 57, 3) := by decide +kernel
theorem dL_isPlace_37 : decode cL_isPlace 37 = .ok (.istore 7, 2) := by decide +kernel
theorem dL_isPlace_39 : decode cL_isPlace 39 = .ok (.aload_n 0, 1) := by decide +kernel
theorem dL_isPlace_40 : decode cL_isPlace 40 = .ok (.iload_n 1, 1) := by decide +kernel
theorem dL_isPlace_41 : decode cL_isPlace 41 = .ok (.iload_n 2, 1) := by decide +kernel
theorem dL_isPlace_42 : decode cL_isPlace 42 = .ok (.invokevirtual 40, 3) := by decide +kernel
theorem dL_isPlace_45 : decode cL_isPlace 45 = .ok (.istore 8, 2) := by decide +kernel
theorem dL_isPlace_47 : decode cL_isPlace 47 = .ok (.iload 4, 2) := by decide +kernel
theorem dL_isPlace_49 : decode cL_isPlace 49 = .ok (.iconst (-1), 1) := by decide +kernel
theorem dL_isPlace_50 : decode cL_isPlace 50 = .ok (.if_icmp .lt 115, 3) := by decide +kernel
theorem dL_isPlace_53 : decode cL_isPlace 53 = .ok (.iload 4, 2) := by decide +kernel
theorem dL_isPlace_55 : decode cL_isPlace 55 = .ok (.iconst 4, 1) := by decide +kernel
theorem dL_isPlace_56 : decode cL_isPlace 56 = .ok (.if_icmp .ge 109, 3) := by decide +kernel
theorem dL_isPlace_59 : decode cL_isPlace 59 = .ok (.iload_n 3, 1) := by decide +kernel
theorem dL_isPlace_60 : decode cL_isPlace 60 = .ok (.ifCond .gt 9, 3) := by decide +kernel
theorem dL_isPlace_63 : decode cL_isPlace 63 = .ok (.iload 4, 2) := by decide +kernel
theorem dL_isPlace_65 : decode cL_isPlace 65 = .ok (.iconst (-1), 1) := by decide +kernel
theorem dL_isPlace_66 : decode cL_isPlace 66 = .ok (.if_icmp .ne 99, 3) := by decide +kernel
theorem dL_isPlace_69 : decode cL_isPlace 69 = .ok (.iload_n 3, 1) := by decide +kernel
theorem dL_isPlace_70 : decode cL_isPlace 70 = .ok (.iconst 1, 1) := by decide +kernel
theorem dL_isPlace_71 : decode cL_isPlace 71 = .ok (.if_icmp .gt 9, 3) := by decide +kernel
theorem dL_isPlace_74 : decode cL_isPlace 74 = .ok (.iload 5, 2) := by decide +kernel
theorem dL_isPlace_76 : decode cL_isPlace 76 = .ok (.iconst (-1), 1) := by decide +kernel
theorem dL_isPlace_77 : decode cL_isPlace 77 = .ok (.if_icmp .ne 88, 3) := by decide +kernel
theorem dL_isPlace_80 : decode cL_isPlace 80 = .ok (.iload 5, 2) := by decide +kernel
theorem dL_isPlace_82 : decode cL_isPlace 82 = .ok (.iconst (-1), 1) := by decide +kernel
theorem dL_isPlace_83 : decode cL_isPlace 83 = .ok (.if_icmp .eq 8, 3) := by decide +kernel
theorem dL_isPlace_86 : decode cL_isPlace 86 = .ok (.iload 4, 2) := by decide +kernel
theorem dL_isPlace_88 : decode cL_isPlace 88 = .ok (.ifCond .lt 77, 3) := by decide +kernel
theorem dL_isPlace_91 : decode cL_isPlace 91 = .ok (.iload 6, 2) := by decide +kernel
theorem dL_isPlace_93 : decode cL_isPlace 93 = .ok (.iconst (-1), 1) := by decide +kernel
theorem dL_isPlace_94 : decode cL_isPlace 94 = .ok (.if_icmp .eq 8, 3) := by decide +kernel
theorem dL_isPlace_97 : decode cL_isPlace 97 = .ok (.iload 5, 2) := by decide +kernel
theorem dL_isPlace_99 : decode cL_isPlace 99 = .ok (.ifCond .lt 66, 3) := by decide +kernel
theorem dL_isPlace_102 : decode cL_isPlace 102 = .ok (.iload 6, 2) := by decide +kernel
theorem dL_isPlace_104 : decode cL_isPlace 104 = .ok (.iconst (-1), 1) := by decide +kernel
theorem dL_isPlace_105 : decode cL_isPlace 105 = .ok (.if_icmp .lt 60, 3) := by decide +kernel
theorem dL_isPlace_108 : decode cL_isPlace 108 = .ok (.iload 6, 2) := by decide +kernel
theorem dL_isPlace_110 : decode cL_isPlace 110 = .ok (.bipush 100, 2) := by decide +kernel
theorem dL_isPlace_112 : decode cL_isPlace 112 = .ok (.if_icmp .gt 53, 3) := by decide +kernel
theorem dL_isPlace_115 : decode cL_isPlace 115 = .ok (.iload 7, 2) := by decide +kernel
theorem dL_isPlace_117 : decode cL_isPlace 117 = .ok (.ifCond .eq 13, 3) := by decide +kernel
theorem dL_isPlace_120 : decode cL_isPlace 120 = .ok (.iload_n 3, 1) := by decide +kernel
theorem dL_isPlace_121 : decode cL_isPlace 121 = .ok (.iconst 3, 1) := by decide +kernel
theorem dL_isPlace_122 : decode cL_isPlace 122 = .ok (.if_icmp .ne 43, 3) := by decide +kernel
theorem dL_isPlace_125 : decode cL_isPlace 125 = .ok (.iload 6, 2) := by decide +kernel
theorem dL_isPlace_127 : decode cL_isPlace 127 = .ok (.ifCond .lt 38, 3) := by decide +kernel
theorem dL_isPlace_130 : decode cL_isPlace 130 = .ok (.iload 8, 2) := by decide +kernel
theorem dL_isPlace_132 : decode cL_isPlace 132 = .ok (.ifCond .eq 13, 3) := by decide +kernel
theorem dL_isPlace_135 : decode cL_isPlace 135 = .ok (.iload_n 3, 1) := by decide +kernel
theorem dL_isPlace_136 : decode cL_isPlace 136 = .ok (.iconst 2, 1) := by decide +kernel
theorem dL_isPlace_137 : decode cL_isPlace 137 = .ok (.if_icmp .ne 28, 3) := by decide +kernel
theorem dL_isPlace_140 : decode cL_isPlace 140 = .ok (.iload 6, 2) := by decide +kernel
theorem dL_isPlace_142 : decode cL_isPlace 142 = .ok (.ifCond .lt 23, 3) := by decide +kernel
theorem dL_isPlace_145 : decode cL_isPlace 145 = .ok (.iload_n 3, 1) := by decide +kernel
theorem dL_isPlace_146 : decode cL_isPlace 146 = .ok (.iconst 3, 1) := by decide +kernel
theorem dL_isPlace_147 : decode cL_isPlace 147 = .ok (.if_icmp .lt 14, 3) := by decide +kernel
theorem dL_isPlace_150 : decode cL_isPlace 150 = .ok (.iload 5, 2) := by decide +kernel
theorem dL_isPlace_152 : decode cL_isPlace 152 = .ok (.iconst (-1), 1) := by decide +kernel
theorem dL_isPlace_153 : decode cL_isPlace 153 = .ok (.if_icmp .eq 8, 3) := by decide +kernel
theorem dL_isPlace_156 : decode cL_isPlace 156 = .ok (.iload 6, 2) := by decide +kernel
theorem dL_isPlace_158 : decode cL_isPlace 158 = .ok (.ifCond .lt 7, 3) := by decide +kernel
theorem dL_isPlace_161 : decode cL_isPlace 161 = .ok (.iconst 1, 1) := by decide +kernel
theorem dL_isPlace_162 : decode cL_isPlace 162 = .ok (.goto 4, 3) := by decide +kernel
theorem dL_isPlace_165 : decode cL_isPlace 165 = .ok (.iconst 0, 1) := by decide +kernel
theorem dL_isPlace_166 : decode cL_isPlace 166 = .ok (.ireturn, 1) := by decide +kernel
theorem dL_isRodeo_0 : decode cL_isRodeo 0 = .ok (.aload_n 0, 1) := by decide +kernel
theorem dL_isRodeo_1 : decode cL_isRodeo 1 = .ok (.iload_n 1, 1) := by decide +kernel
theorem dL_isRodeo_2 : decode cL_isRodeo 2 = .ok (.iconst 0, 1) := by decide +kernel
theorem dL_isRodeo_3 : decode cL_isRodeo 3 = .ok (.invokevirtual 17, 3) := by decide +kernel
theorem dL_isRodeo_6 : decode cL_isRodeo 6 = .ok (.istore_n 3, 1) := by decide +kernel
theorem dL_isRodeo_7 : decode cL_isRodeo 7 = .ok (.iconst 0, 1) := by decide +kernel
theorem dL_isRodeo_8 : decode cL_isRodeo 8 = .ok (.istore 4, 2) := by decide +kernel
theorem dL_isRodeo_10 : decode cL_isRodeo 10 = .ok (.aload_n 0, 1) := by decide +kernel
theorem dL_isRodeo_11 : decode cL_isRodeo 11 = .ok (.iload_n 1, 1) := by decide +kernel
theorem dL_isRodeo_12 : decode cL_isRodeo 12 = .ok (.iconst 4, 1) := by decide +kernel
theorem dL_isRodeo_13 : decode cL_isRodeo 13 = .ok (.invokevirtual 17, 3) := by decide +kernel
theorem dL_isRodeo_16 : decode cL_isRodeo 16 = .ok (.istore 5, 2) := by decide +kernel
theorem dL_isRodeo_18 : decode cL_isRodeo 18 = .ok (.iconst 0, 1) := by decide +kernel
theorem dL_isRodeo_19 : decode cL_isRodeo 19 = .ok (.istore 6, 2) := by decide +kernel
theorem dL_isRodeo_21 : decode cL_isRodeo 21 = .ok (.iload 6, 2) := by decide +kernel
theorem dL_isRodeo_23 : decode cL_isRodeo 23 = .ok (.iload_n 2, 1) := by decide +kernel
theorem dL_isRodeo_24 : decode cL_isRodeo 24 = .ok (.if_icmp .ge 41, 3) := by decide +kernel
theorem dL_isRodeo_27 : decode cL_isRodeo 27 = .ok (.iload 4, 2) := by decide +kernel
theorem dL_isRodeo_29 : decode cL_isRodeo 29 = .ok (.aload_n 0, 1) := by decide +kernel
theorem dL_isRodeo_30 : decode cL_isRodeo 30 = .ok (.iload_n 1, 1) := by decide +kernel
theorem dL_isRodeo_31 : decode cL_isRodeo 31 = .ok (.iload 6, 2) := by decide +kernel
theorem dL_isRodeo_33 : decode cL_isRodeo 33 = .ok (.invokevirtual 28, 3) := by decide +kernel
theorem dL_isRodeo_36 : decode cL_isRodeo 36 = .ok (.ifCond .lt 7, 3) := by decide +kernel
theorem dL_isRodeo_39 : decode cL_isRodeo 39 = .ok (.iconst 1, 1) := by decide +kernel
theorem dL_isRodeo_40 : decode cL_isRodeo 40 = .ok (.goto 4, 3) := by decide +kernel
theorem dL_isRodeo_43 : decode cL_isRodeo 43 = .ok (.iconst 0, 1) := by decide +kernel
theorem dL_isRodeo_44 : decode cL_isRodeo 44 = .ok (.iadd, 1) := by decide +kernel
theorem dL_isRodeo_45 : decode cL_isRodeo 45 = .ok (.istore 4, 2) := by decide +kernel
theorem dL_isRodeo_47 : decode cL_isRodeo 47 = .ok (.iload 5, 2) := by decide +kernel
theorem dL_isRodeo_49 : decode cL_isRodeo 49 = .ok (.aload_n 0, 1) := by decide +kernel
theorem dL_isRodeo_50 : decode cL_isRodeo 50 = .ok (.iload_n 1, 1) := by decide +kernel
theorem dL_isRodeo_51 : decode cL_isRodeo 51 = .ok (.iload 6, 2) := by decide +kernel
theorem dL_isRodeo_53 : decode cL_isRodeo 53 = .ok (.invokevirtual 57, 3) := by decide +kernel
theorem dL_isRodeo_56 : decode cL_isRodeo 56 = .ok (.iadd, 1) := by decide +kernel
theorem dL_isRodeo_57 : decode cL_isRodeo 57 = .ok (.istore 5, 2) := by decide +kernel
theorem dL_isRodeo_59 : decode cL_isRodeo 59 = .ok (.iinc 6 1, 3) := by decide +kernel
theorem dL_isRodeo_62 : decode cL_isRodeo 62 = .ok (.goto (-41), 3) := by decide +kernel
theorem dL_isRodeo_65 : decode cL_isRodeo 65 = .ok (.iload 4, 2) := by decide +kernel
theorem dL_isRodeo_67 : decode cL_isRodeo 67 = .ok (.aload_n 0, 1) := by decide +kernel
theorem dL_isRodeo_68 : decode cL_isRodeo 68 = .ok (.iload_n 1, 1) := by decide +kernel
theorem dL_isRodeo_69 : decode cL_isRodeo 69 = .ok (.iconst 2, 1) := by decide +kernel
theorem dL_isRodeo_70 : decode cL_isRodeo 70 = .ok (.invokevirtual 17, 3) := by decide +kernel
theorem dL_isRodeo_73 : decode cL_isRodeo 73 = .ok (.if_icmp .ne 64, 3) := by decide +kernel
theorem dL_isRodeo_76 : decode cL_isRodeo 76 = .ok (.iload 4, 2) := by decide +kernel
theorem dL_isRodeo_78 : decode cL_isRodeo 78 = .ok (.aload_n 0, 1) := by decide +kernel
theorem dL_isRodeo_79 : decode cL_isRodeo 79 = .ok (.iload_n 1, 1) := by decide +kernel
theorem dL_isRodeo_80 : decode cL_isRodeo 80 = .ok (.iconst 1, 1) := by decide +kernel
theorem dL_isRodeo_81 : decode cL_isRodeo 81 = .ok (.invokevirtual 17, 3) := by decide +kernel
theorem dL_isRodeo_84 : decode cL_isRodeo 84 = .ok (.if_icmp .gt 53, 3) := by decide +kernel
theorem dL_isRodeo_87 : decode cL_isRodeo 87 = .ok (.iload_n 3, 1) := by decide +kernel
theorem dL_isRodeo_88 : decode cL_isRodeo 88 = .ok (.iconst 3, 1) := by decide +kernel
theorem dL_isRodeo_89 : decode cL_isRodeo 89 = .ok (.if_icmp .ne 17, 3) := by decide +kernel
theorem dL_isRodeo_92 : decode cL_isRodeo 92 = .ok (.iload 5, 2) := by decide +kernel
theorem dL_isRodeo_94 : decode cL_isRodeo 94 = .ok (.aload_n 0, 1) := by decide +kernel
theorem dL_isRodeo_95 : decode cL_isRodeo 95 = .ok (.iload_n 1, 1) := by decide +kernel
theorem dL_isRodeo_96 : decode cL_isRodeo 96 = .ok (.iconst 3, 1) := by decide +kernel
theorem dL_isRodeo_97 : decode cL_isRodeo 97 = .ok (.invokevirtual 17, 3) := by decide +kernel
theorem dL_isRodeo_100 : decode cL_isRodeo 100 = .ok (.if_icmp .ne 37, 3) := by decide +kernel
theorem dL_isRodeo_103 : decode cL_isRodeo 103 = .ok (.goto 8, 3) := by decide +kernel
theorem dL_isRodeo_106 : decode cL_isRodeo 106 = .ok (.iload 5, 2) := by decide +kernel
theorem dL_isRodeo_108 : decode cL_isRodeo 108 = .ok (.ifCond .ne 29, 3) := by decide +kernel
theorem dL_isRodeo_111 : decode cL_isRodeo 111 = .ok (.iload_n 3, 1) := by decide +kernel
theorem dL_isRodeo_112 : decode cL_isRodeo 112 = .ok (.ifCond .gt 12, 3) := by decide +kernel
theorem dL_isRodeo_115 : decode cL_isRodeo 115 = .ok (.aload_n 0, 1) := by decide +kernel
theorem dL_isRodeo_116 : decode cL_isRodeo 116 = .ok (.iload_n 1, 1) := by decide +kernel
theorem dL_isRodeo_117 : decode cL_isRodeo 117 = .ok (.iconst 3, 1) := by decide +kernel
theorem dL_isRodeo_118 : decode cL_isRodeo 118 = .ok (.invokevirtual 17, 3) := by decide +kernel
theorem dL_isRodeo_121 : decode cL_isRodeo 121 = .ok (.ifCond .ne 16, 3) := by decide +kernel
theorem dL_isRodeo_124 : decode cL_isRodeo 124 = .ok (.iload_n 3, 1) := by decide +kernel
theorem dL_isRodeo_125 : decode cL_isRodeo 125 = .ok (.ifCond .lt 12, 3) := by decide +kernel
theorem dL_isRodeo_128 : decode cL_isRodeo 128 = .ok (.iload_n 3, 1) := by decide +kernel
theorem dL_isRodeo_129 : decode cL_isRodeo 129 = .ok (.iconst 4, 1) := by decide +kernel
theorem dL_isRodeo_130 : decode cL_isRodeo 130 = .ok (.if_icmp .ge 7, 3) := by decide +kernel
theorem dL_isRodeo_133 : decode cL_isRodeo 133 = .ok (.iconst 1, 1) := by decide +kernel
theorem dL_isRodeo_134 : decode cL_isRodeo 134 = .ok (.goto 4, 3) := by decide +kernel
theorem dL_isRodeo_137 : decode cL_isRodeo 137 = .ok (.iconst 0, 1) := by decide +kernel
theorem dL_isRodeo_138 : decode cL_isRodeo 138 = .ok (.ireturn, 1) := by decide +kernel
theorem dL_areRanks_0 : decode cL_areRanks 0 = .ok (.iconst 0, 1) := by decide +kernel
theorem dL_areRanks_1 : decode cL_areRanks 1 = .ok (.istore_n 3, 1) := by decide +kernel
theorem dL_areRanks_2 : decode cL_areRanks 2 = .ok (.ldc 96, 2) := by decide +kernel
theorem dL_areRanks_4 : decode cL_areRanks 4 = .ok (.istore 4, 2) := by decide +kernel
theorem dL_areRanks_6 : decode cL_areRanks 6 = .ok (.iconst 1, 1) := by decide +kernel
theorem dL_areRanks_7 : decode cL_areRanks 7 = .ok (.istore 5, 2) := by decide +kernel
theorem dL_areRanks_9 : decode cL_areRanks 9 = .ok (.iconst 0, 1) := by decide +kernel
theorem dL_areRanks_10 : decode cL_areRanks 10 = .ok (.istore 6, 2) := by decide +kernel
theorem dL_areRanks_12 : decode cL_areRanks 12 = .ok (.iload 6, 2) := by decide +kernel
theorem dL_areRanks_14 : decode cL_areRanks 14 = .ok (.iload_n 1, 1) := by decide +kernel
theorem dL_areRanks_15 : decode cL_areRanks 15 = .ok (.if_icmp .ge 99, 3) := by decide +kernel
theorem dL_areRanks_18 : decode cL_areRanks 18 = .ok (.iload 5, 2) := by decide +kernel
theorem dL_areRanks_20 : decode cL_areRanks 20 = .ok (.ifCond .eq 94, 3) := by decide +kernel
theorem dL_areRanks_23 : decode cL_areRanks 23 = .ok (.aload_n 0, 1) := by decide +kernel
theorem dL_areRanks_24 : decode cL_areRanks 24 = .ok (.bipush 16, 2) := by decide +kernel
theorem dL_areRanks_26 : decode cL_areRanks 26 = .ok (.iload 6, 2) := by decide +kernel
theorem dL_areRanks_28 : decode cL_areRanks 28 = .ok (.iconst 0, 1) := by decide +kernel
theorem dL_areRanks_29 : decode cL_areRanks 29 = .ok (.iconst 0, 1) := by decide +kernel
theorem dL_areRanks_30 : decode cL_areRanks 30 = .ok (.iconst 0, 1) := by decide +kernel
theorem dL_areRanks_31 : decode cL_areRanks 31 = .ok (.invokestatic 97, 3) := by decide +kernel
theorem dL_areRanks_34 : decode cL_areRanks 34 = .ok (.istore 7, 2) := by decide +kernel
theorem dL_areRanks_36 : decode cL_areRanks 36 = .ok (.iload 7, 2) := by decide +kernel
theorem dL_areRanks_38 : decode cL_areRanks 38 = .ok (.ifCond .lt 33, 3) := by decide +kernel
theorem dL_areRanks_41 : decode cL_areRanks 41 = .ok (.iload 7, 2) := by decide +kernel
theorem dL_areRanks_43 : decode cL_areRanks 43 = .ok (.iload_n 1, 1) := by decide +kernel
theorem dL_areRanks_44 : decode cL_areRanks 44 = .ok (.if_icmp .ge 27, 3) := by decide +kernel
theorem dL_areRanks_47 : decode cL_areRanks 47 = .ok (.iload_n 3, 1) := by decide +kernel
theorem dL_areRanks_48 : decode cL_areRanks 48 = .ok (.iload 7, 2) := by decide +kernel
theorem dL_areRanks_50 : decode cL_areRanks 50 = .ok (.ishr, 1) := by decide +kernel
theorem dL_areRanks_51 : decode cL_areRanks 51 = .ok (.iconst 1, 1) := by decide +kernel
theorem dL_areRanks_52 : decode cL_areRanks 52 = .ok (.iand, 1) := by decide +kernel
theorem dL_areRanks_53 : decode cL_areRanks 53 = .ok (.ifCond .ne 18, 3) := by decide +kernel
theorem dL_areRanks_56 : decode cL_areRanks 56 = .ok (.aload_n 0, 1) := by decide +kernel
theorem dL_areRanks_57 : decode cL_areRanks 57 = .ok (.iload 7, 2) := by decide +kernel
theorem dL_areRanks_59 : decode cL_areRanks 59 = .ok (.invokevirtual 60, 3) := by decide +kernel
theorem dL_areRanks_62 : decode cL_areRanks 62 = .ok (.iload 4, 2) := by decide +kernel
theorem dL_areRanks_64 : decode cL_areRanks 64 = .ok (.if_icmp .gt 7, 3) := by decide +kernel
theorem dL_areRanks_67 : decode cL_areRanks 67 = .ok (.iconst 1, 1) := by decide +kernel
theorem dL_areRanks_68 : decode cL_areRanks 68 = .ok (.goto 4, 3) := by decide +kernel
theorem dL_areRanks_71 : decode cL_areRanks 71 = .ok (.iconst 0, 1) := by decide +kernel
theorem dL_areRanks_72 : decode cL_areRanks 72 = .ok (.istore 5, 2) := by decide +kernel
theorem dL_areRanks_74 : decode cL_areRanks 74 = .ok (.iload_n 3, 1) := by decide +kernel
theorem dL_areRanks_75 : decode cL_areRanks 75 = .ok (.iconst 1, 1) := by decide +kernel
theorem dL_areRanks_76 : decode cL_areRanks 76 = .ok (.iload 7, 2) := by decide +kernel
theorem dL_areRanks_78 : decode cL_areRanks 78 = .ok (.ifCond .ge 7, 3) := by decide +kernel
theorem dL_areRanks_81 : decode cL_areRanks 81 = .ok (.iconst 0, 1) := by decide +kernel
theorem dL_areRanks_82 : decode cL_areRanks 82 = .ok (.goto 5, 3) := by decide +kernel
theorem dL_areRanks_85 : decode cL_areRanks 85 = .ok (.iload 7, 2) := by decide +kernel
theorem dL_areRanks_87 : decode cL_areRanks 87 = .ok (.ishl, 1) := by decide +kernel
theorem dL_areRanks_88 : decode cL_areRanks 88 = .ok (.ior, 1) := by decide +kernel
theorem dL_areRanks_89 : decode cL_areRanks 89 = .ok (.istore_n 3, 1) := by decide +kernel
theorem dL_areRanks_90 : decode cL_areRanks 90 = .ok (.iload 5, 2) := by decide +kernel
theorem dL_areRanks_92 : decode cL_areRanks 92 = .ok (.ifCond .eq 12, 3) := by decide +kernel
theorem dL_areRanks_95 : decode cL_areRanks 95 = .ok (.aload_n 0, 1) := by decide +kernel
theorem dL_areRanks_96 : decode cL_areRanks 96 = .ok (.iload 7, 2) := by decide +kernel
theorem dL_areRanks_98 : decode cL_areRanks 98 = .ok (.invokevirtual 60, 3) := by decide +kernel
theorem dL_areRanks_101 : decode cL_areRanks 101 = .ok (.goto 5, 3) := by decide +kernel
theorem dL_areRanks_104 : decode cL_areRanks 104 = .ok (.iload 4, 2) := by decide +kernel
theorem dL_areRanks_106 : decode cL_areRanks 106 = .ok (.istore 4, 2) := by decide +kernel
theorem dL_areRanks_108 : decode cL_areRanks 108 = .ok (.iinc 6 1, 3) := by decide +kernel
theorem dL_areRanks_111 : decode cL_areRanks 111 = .ok (.goto (-99), 3) := by decide +kernel
theorem dL_areRanks_114 : decode cL_areRanks 114 = .ok (.iconst 0, 1) := by decide +kernel
theorem dL_areRanks_115 : decode cL_areRanks 115 = .ok (.istore 6, 2) := by decide +kernel
theorem dL_areRanks_117 : decode cL_areRanks 117 = .ok (.iconst 0, 1) := by decide +kernel
theorem dL_areRanks_118 : decode cL_areRanks 118 = .ok (.istore 7, 2) := by decide +kernel
theorem dL_areRanks_120 : decode cL_areRanks 120 = .ok (.iconst 0, 1) := by decide +kernel
theorem dL_areRanks_121 : decode cL_areRanks 121 = .ok (.istore 8, 2) := by decide +kernel
theorem dL_areRanks_123 : decode cL_areRanks 123 = .ok (.iload 8, 2) := by decide +kernel
theorem dL_areRanks_125 : decode cL_areRanks 125 = .ok (.iload_n 2, 1) := by decide +kernel
theorem dL_areRanks_126 : decode cL_areRanks 126 = .ok (.if_icmp .ge 143, 3) := by decide +kernel
theorem dL_areRanks_129 : decode cL_areRanks 129 = .ok (.iload 5, 2) := by decide +kernel
theorem dL_areRanks_131 : decode cL_areRanks 131 = .ok (.ifCond .eq 138, 3) := by decide +kernel
theorem dL_areRanks_134 : decode cL_areRanks 134 = .ok (.aload_n 0, 1) := by decide +kernel
theorem dL_areRanks_135 : decode cL_areRanks 135 = .ok (.iload 8, 2) := by decide +kernel
theorem dL_areRanks_137 : decode cL_areRanks 137 = .ok (.iconst 4, 1) := by decide +kernel
theorem dL_areRanks_138 : decode cL_areRanks 138 = .ok (.invokevirtual 51, 3) := by decide +kernel
theorem dL_areRanks_141 : decode cL_areRanks 141 = .ok (.istore 9, 2) := by decide +kernel
theorem dL_areRanks_143 : decode cL_areRanks 143 = .ok (.iload 9, 2) := by decide +kernel
theorem dL_areRanks_145 : decode cL_areRanks 145 = .ok (.ifCond .lt 7, 3) := by decide +kernel
theorem dL_areRanks_148 : decode cL_areRanks 148 = .ok (.iconst 1, 1) := by decide +kernel
theorem dL_areRanks_149 : decode cL_areRanks 149 = .ok (.goto 4, 3) := by decide +kernel
theorem dL_areRanks_152 : decode cL_areRanks 152 = .ok (.iconst 0, 1) := by decide +kernel
theorem dL_areRanks_153 : decode cL_areRanks 153 = .ok (.aload_n 0, 1) := by decide +kernel
theorem dL_areRanks_154 : decode cL_areRanks 154 = .ok (.iload 8, 2) := by decide +kernel
theorem dL_areRanks_156 : decode cL_areRanks 156 = .ok (.iconst 1, 1) := by decide +kernel
theorem dL_areRanks_157 : decode cL_areRanks 157 = .ok (.invokevirtual 51, 3) := by decide +kernel
theorem dL_areRanks_160 : decode cL_areRanks 160 = .ok (.ifCond .le 7, 3) := by decide +kernel
theorem dL_areRanks_163 : decode cL_areRanks 163 = .ok (.iconst 1, 1) := by decide +kernel
theorem dL_areRanks_164 : decode cL_areRanks 164 = .ok (.goto 4, 3) := by decide +kernel
theorem dL_areRanks_167 : decode cL_areRanks 167 = .ok (.iconst 0, 1) := by decide +kernel
theorem dL_areRanks_168 : decode cL_areRanks 168 = .ok (.if_icmp .ne 59, 3) := by decide +kernel
theorem dL_areRanks_171 : decode cL_areRanks 171 = .ok (.aload_n 0, 1) := by decide +kernel
theorem dL_areRanks_172 : decode cL_areRanks 172 = .ok (.iload 8, 2) := by decide +kernel
theorem dL_areRanks_174 : decode cL_areRanks 174 = .ok (.iconst 2, 1) := by decide +kernel
theorem dL_areRanks_175 : decode cL_areRanks 175 = .ok (.invokevirtual 51, 3) := by decide +kernel
theorem dL_areRanks_178 : decode cL_areRanks 178 = .ok (.aload_n 0, 1) := by decide +kernel
theorem dL_areRanks_179 : decode cL_areRanks 179 = .ok (.iload 8, 2) := by decide +kernel
theorem dL_areRanks_181 : decode cL_areRanks 181 = .ok (.iconst 1, 1) := by decide +kernel
theorem dL_areRanks_182 : decode cL_areRanks 182 = .ok (.invokevirtual 51, 3) := by decide +kernel
theorem dL_areRanks_185 : decode cL_areRanks 185 = .ok (.if_icmp .gt 42, 3) := by decide +kernel
theorem dL_areRanks_188 : decode cL_areRanks 188 = .ok (.aload_n 0, 1) := by decide +kernel
theorem dL_areRanks_189 : decode cL_areRanks 189 = .ok (.iload 8, 2) := by decide +kernel
theorem dL_areRanks_191 : decode cL_areRanks 191 = .ok (.iconst 3, 1) := by decide +kernel
theorem dL_areRanks_192 : decode cL_areRanks 192 = .ok (.invokevirtual 51, 3) := by decide +kernel
theorem dL_areRanks_195 : decode cL_areRanks 195 = .ok (.bipush 50, 2) := by decide +kernel
theorem dL_areRanks_197 : decode cL_areRanks 197 = .ok (.aload_n 0, 1) := by decide +kernel
theorem dL_areRanks_198 : decode cL_areRanks 198 = .ok (.iload 8, 2) := by decide +kernel
theorem dL_areRanks_200 : decode cL_areRanks 200 = .ok (.iconst 1, 1) := by decide +kernel
theorem dL_areRanks_201 : decode cL_areRanks 201 = .ok (.invokevirtual 51, 3) := by decide +kernel
theorem dL_areRanks_204 : decode cL_areRanks 204 = .ok (.imul, 1) := by decide +kernel
theorem dL_areRanks_205 : decode cL_areRanks 205 = .ok (.if_icmp .gt 22, 3) := by decide +kernel
theorem dL_areRanks_208 : decode cL_areRanks 208 = .ok (.iload 9, 2) := by decide +kernel
theorem dL_areRanks_210 : decode cL_areRanks 210 = .ok (.ifCond .lt 13, 3) := by decide +kernel
theorem dL_areRanks_213 : decode cL_areRanks 213 = .ok (.iload 6, 2) := by decide +kernel
theorem dL_areRanks_215 : decode cL_areRanks 215 = .ok (.iload 9, 2) := by decide +kernel
theorem dL_areRanks_217 : decode cL_areRanks 217 = .ok (.ishr, 1) := by decide +kernel
theorem dL_areRanks_218 : decode cL_areRanks 218 = .ok (.iconst 1, 1) := by decide +kernel
theorem dL_areRanks_219 : decode cL_areRanks 219 = .ok (.iand, 1) := by decide +kernel
theorem dL_areRanks_220 : decode cL_areRanks 220 = .ok (.ifCond .ne 7, 3) := by decide +kernel
theorem dL_areRanks_223 : decode cL_areRanks 223 = .ok (.iconst 1, 1) := by decide +kernel
theorem dL_areRanks_224 : decode cL_areRanks 224 = .ok (.goto 4, 3) := by decide +kernel
theorem dL_areRanks_227 : decode cL_areRanks 227 = .ok (.iconst 0, 1) := by decide +kernel
theorem dL_areRanks_228 : decode cL_areRanks 228 = .ok (.istore 5, 2) := by decide +kernel
theorem dL_areRanks_230 : decode cL_areRanks 230 = .ok (.iload 6, 2) := by decide +kernel
theorem dL_areRanks_232 : decode cL_areRanks 232 = .ok (.iload 9, 2) := by decide +kernel
theorem dL_areRanks_234 : decode cL_areRanks 234 = .ok (.ifCond .ge 7, 3) := by decide +kernel
theorem dL_areRanks_237 : decode cL_areRanks 237 = .ok (.iconst 0, 1) := by decide +kernel
theorem dL_areRanks_238 : decode cL_areRanks 238 = .ok (.goto 7, 3) := by decide +kernel
theorem dL_areRanks_241 : decode cL_areRanks 241 = .ok (.iconst 1, 1) := by decide +kernel
theorem dL_areRanks_242 : decode cL_areRanks 242 = .ok (.iload 9, 2) := by decide +kernel
theorem dL_areRanks_244 : decode cL_areRanks 244 = .ok (.ishl, 1) := by decide +kernel
theorem dL_areRanks_245 : decode cL_areRanks 245 = .ok (.ior, 1) := by decide +kernel
theorem dL_areRanks_246 : decode cL_areRanks 246 = .ok (.istore 6, 2) := by decide +kernel
theorem dL_areRanks_248 : decode cL_areRanks 248 = .ok (.iload 7, 2) := by decide +kernel
theorem dL_areRanks_250 : decode cL_areRanks 250 = .ok (.iload 9, 2) := by decide +kernel
theorem dL_areRanks_252 : decode cL_areRanks 252 = .ok (.ifCond .ge 7, 3) := by decide +kernel
theorem dL_areRanks_255 : decode cL_areRanks 255 = .ok (.iconst 0, 1) := by decide +kernel
theorem dL_areRanks_256 : decode cL_areRanks 256 = .ok (.goto 4, 3) := by decide +kernel
theorem dL_areRanks_259 : decode cL_areRanks 259 = .ok (.iconst 1, 1) := by decide +kernel
theorem dL_areRanks_260 : decode cL_areRanks 260 = .ok (.iadd, 1) := by decide +kernel
theorem dL_areRanks_261 : decode cL_areRanks 261 = .ok (.istore 7, 2) := by decide +kernel
theorem dL_areRanks_263 : decode cL_areRanks 263 = .ok (.iinc 8 1, 3) := by decide +kernel
theorem dL_areRanks_266 : decode cL_areRanks 266 = .ok (.goto (-143), 3) := by decide +kernel
theorem dL_areRanks_269 : decode cL_areRanks 269 = .ok (.iload 5, 2) := by decide +kernel
theorem dL_areRanks_271 : decode cL_areRanks 271 = .ok (.ifCond .eq 38, 3) := by decide +kernel
theorem dL_areRanks_274 : decode cL_areRanks 274 = .ok (.iload 6, 2) := by decide +kernel
theorem dL_areRanks_276 : decode cL_areRanks 276 = .ok (.iconst 1, 1) := by decide +kernel
theorem dL_areRanks_277 : decode cL_areRanks 277 = .ok (.iload 7, 2) := by decide +kernel
theorem dL_areRanks_279 : decode cL_areRanks 279 = .ok (.ishl, 1) := by decide +kernel
theorem dL_areRanks_280 : decode cL_areRanks 280 = .ok (.iconst 1, 1) := by decide +kernel
theorem dL_areRanks_281 : decode cL_areRanks 281 = .ok (.isub, 1) := by decide +kernel
theorem dL_areRanks_282 : decode cL_areRanks 282 = .ok (.if_icmp .ne 27, 3) := by decide +kernel
theorem dL_areRanks_285 : decode cL_areRanks 285 = .ok (.iload_n 1, 1) := by decide +kernel
theorem dL_areRanks_286 : decode cL_areRanks 286 = .ok (.bipush 12, 2) := by decide +kernel
theorem dL_areRanks_288 : decode cL_areRanks 288 = .ok (.if_icmp .eq 17, 3) := by decide +kernel
theorem dL_areRanks_291 : decode cL_areRanks 291 = .ok (.aload_n 0, 1) := by decide +kernel
theorem dL_areRanks_292 : decode cL_areRanks 292 = .ok (.bipush 16, 2) := by decide +kernel
theorem dL_areRanks_294 : decode cL_areRanks 294 = .ok (.iload_n 1, 1) := by decide +kernel
theorem dL_areRanks_295 : decode cL_areRanks 295 = .ok (.iconst 0, 1) := by decide +kernel
theorem dL_areRanks_296 : decode cL_areRanks 296 = .ok (.iconst 0, 1) := by decide +kernel
theorem dL_areRanks_297 : decode cL_areRanks 297 = .ok (.iconst 0, 1) := by decide +kernel
theorem dL_areRanks_298 : decode cL_areRanks 298 = .ok (.invokestatic 97, 3) := by decide +kernel
theorem dL_areRanks_301 : decode cL_areRanks 301 = .ok (.iconst (-1), 1) := by decide +kernel
theorem dL_areRanks_302 : decode cL_areRanks 302 = .ok (.if_icmp .ne 7, 3) := by decide +kernel
theorem dL_areRanks_305 : decode cL_areRanks 305 = .ok (.iconst 1, 1) := by decide +kernel
theorem dL_areRanks_306 : decode cL_areRanks 306 = .ok (.goto 4, 3) := by decide +kernel
theorem dL_areRanks_309 : decode cL_areRanks 309 = .ok (.iconst 0, 1) := by decide +kernel
theorem dL_areRanks_310 : decode cL_areRanks 310 = .ok (.ireturn, 1) := by decide +kernel
theorem dL_law_0 : decode cL_law 0 = .ok (.new 8, 3) := by decide +kernel
theorem dL_law_3 : decode cL_law 3 = .ok (.dup, 1) := by decide +kernel
theorem dL_law_4 : decode cL_law 4 = .ok (.invokespecial 100, 3) := by decide +kernel
theorem dL_law_7 : decode cL_law 7 = .ok (.astore_n 1, 1) := by decide +kernel
theorem dL_law_8 : decode cL_law 8 = .ok (.iconst 0, 1) := by decide +kernel
theorem dL_law_9 : decode cL_law 9 = .ok (.istore_n 2, 1) := by decide +kernel
theorem dL_law_10 : decode cL_law 10 = .ok (.iconst 0, 1) := by decide +kernel
theorem dL_law_11 : decode cL_law 11 = .ok (.istore_n 3, 1) := by decide +kernel
theorem dL_law_12 : decode cL_law 12 = .ok (.iconst 0, 1) := by decide +kernel
theorem dL_law_13 : decode cL_law 13 = .ok (.istore 4, 2) := by decide +kernel
theorem dL_law_15 : decode cL_law 15 = .ok (.iconst 0, 1) := by decide +kernel
theorem dL_law_16 : decode cL_law 16 = .ok (.istore 5, 2) := by decide +kernel
theorem dL_law_18 : decode cL_law 18 = .ok (.iconst 1, 1) := by decide +kernel
theorem dL_law_19 : decode cL_law 19 = .ok (.istore 6, 2) := by decide +kernel
theorem dL_law_21 : decode cL_law 21 = .ok (.aload_n 0, 1) := by decide +kernel
theorem dL_law_22 : decode cL_law 22 = .ok (.arraylength, 1) := by decide +kernel
theorem dL_law_23 : decode cL_law 23 = .ok (.bipush 60, 2) := by decide +kernel
theorem dL_law_25 : decode cL_law 25 = .ok (.if_icmp .ge 9, 3) := by decide +kernel
theorem dL_law_28 : decode cL_law 28 = .ok (.sipush 260, 3) := by decide +kernel
theorem dL_law_31 : decode cL_law 31 = .ok (.goto 20, 3) := by decide +kernel
theorem dL_law_34 : decode cL_law 34 = .ok (.aload_n 0, 1) := by decide +kernel
theorem dL_law_35 : decode cL_law 35 = .ok (.arraylength, 1) := by decide +kernel
theorem dL_law_36 : decode cL_law 36 = .ok (.bipush 110, 2) := by decide +kernel
theorem dL_law_38 : decode cL_law 38 = .ok (.if_icmp .ge 10, 3) := by decide +kernel
theorem dL_law_41 : decode cL_law 41 = .ok (.iconst 3, 1) := by decide +kernel
theorem dL_law_42 : decode cL_law 42 = .ok (.aload_n 0, 1) := by decide +kernel
theorem dL_law_43 : decode cL_law 43 = .ok (.arraylength, 1) := by decide +kernel
theorem dL_law_44 : decode cL_law 44 = .ok (.imul, 1) := by decide +kernel
theorem dL_law_45 : decode cL_law 45 = .ok (.goto 6, 3) := by decide +kernel
theorem dL_law_48 : decode cL_law 48 = .ok (.sipush 330, 3) := by decide +kernel
theorem dL_law_51 : decode cL_law 51 = .ok (.istore 7, 2) := by decide +kernel
theorem dL_law_53 : decode cL_law 53 = .ok (.iconst 0, 1) := by decide +kernel
theorem dL_law_54 : decode cL_law 54 = .ok (.istore 8, 2) := by decide +kernel
theorem dL_law_56 : decode cL_law 56 = .ok (.iload 8, 2) := by decide +kernel
theorem dL_law_58 : decode cL_law 58 = .ok (.iload 7, 2) := by decide +kernel
theorem dL_law_60 : decode cL_law 60 = .ok (.if_icmp .ge 1450, 3) := by decide +kernel
theorem dL_law_63 : decode cL_law 63 = .ok (.iload 6, 2) := by decide +kernel
theorem dL_law_65 : decode cL_law 65 = .ok (.ifCond .eq 1445, 3) := by decide +kernel
theorem dL_law_68 : decode cL_law 68 = .ok (.aload_n 0, 1) := by decide +kernel
theorem dL_law_69 : decode cL_law 69 = .ok (.iload 8, 2) := by decide +kernel
theorem dL_law_71 : decode cL_law 71 = .ok (.invokestatic 101, 3) := by decide +kernel
theorem dL_law_74 : decode cL_law 74 = .ok (.istore 9, 2) := by decide +kernel
theorem dL_law_76 : decode cL_law 76 = .ok (.iload 9, 2) := by decide +kernel
theorem dL_law_78 : decode cL_law 78 = .ok (.iconst 5, 1) := by decide +kernel
theorem dL_law_79 : decode cL_law 79 = .ok (.ishr, 1) := by decide +kernel
theorem dL_law_80 : decode cL_law 80 = .ok (.ldc 104, 2) := by decide +kernel
theorem dL_law_82 : decode cL_law 82 = .ok (.iand, 1) := by decide +kernel
theorem dL_law_83 : decode cL_law 83 = .ok (.istore 10, 2) := by decide +kernel
theorem dL_law_85 : decode cL_law 85 = .ok (.iload 8, 2) := by decide +kernel
theorem dL_law_87 : decode cL_law 87 = .ok (.bipush 12, 2) := by decide +kernel
theorem dL_law_89 : decode cL_law 89 = .ok (.if_icmp .ge 31, 3) := by decide +kernel
theorem dL_law_92 : decode cL_law 92 = .ok (.iload 8, 2) := by decide +kernel
theorem dL_law_94 : decode cL_law 94 = .ok (.iconst 4, 1) := by decide +kernel
theorem dL_law_95 : decode cL_law 95 = .ok (.irem, 1) := by decide +kernel
theorem dL_law_96 : decode cL_law 96 = .ok (.iconst 3, 1) := by decide +kernel
theorem dL_law_97 : decode cL_law 97 = .ok (.if_icmp .ne 7, 3) := by decide +kernel
theorem dL_law_100 : decode cL_law 100 = .ok (.iconst 4, 1) := by decide +kernel
theorem dL_law_101 : decode cL_law 101 = .ok (.goto 24, 3) := by decide +kernel
theorem dL_law_104 : decode cL_law 104 = .ok (.iload 8, 2) := by decide +kernel
theorem dL_law_106 : decode cL_law 106 = .ok (.iconst 4, 1) := by decide +kernel
theorem dL_law_107 : decode cL_law 107 = .ok (.irem, 1) := by decide +kernel
theorem dL_law_108 : decode cL_law 108 = .ok (.iconst 2, 1) := by decide +kernel
theorem dL_law_109 : decode cL_law 109 = .ok (.if_icmp .ne 7, 3) := by decide +kernel
theorem dL_law_112 : decode cL_law 112 = .ok (.iconst 2, 1) := by decide +kernel
theorem dL_law_113 : decode cL_law 113 = .ok (.goto 12, 3) := by decide +kernel
theorem dL_law_116 : decode cL_law 116 = .ok (.iconst 0, 1) := by decide +kernel
theorem dL_law_117 : decode cL_law 117 = .ok (.goto 8, 3) := by decide +kernel
theorem dL_law_120 : decode cL_law 120 = .ok (.iload 9, 2) := by decide +kernel
theorem dL_law_122 : decode cL_law 122 = .ok (.bipush 31, 2) := by decide +kernel
theorem dL_law_124 : decode cL_law 124 = .ok (.iand, 1) := by decide +kernel
theorem dL_law_125 : decode cL_law 125 = .ok (.istore 11, 2) := by decide +kernel
theorem dL_law_127 : decode cL_law 127 = .ok (.iload 4, 2) := by decide +kernel
theorem dL_law_129 : decode cL_law 129 = .ok (.ifCond .ne 7, 3) := by decide +kernel
theorem dL_law_132 : decode cL_law 132 = .ok (.iconst 0, 1) := by decide +kernel
theorem dL_law_133 : decode cL_law 133 = .ok (.goto 10, 3) := by decide +kernel
theorem dL_law_136 : decode cL_law 136 = .ok (.iload 10, 2) := by decide +kernel
theorem dL_law_138 : decode cL_law 138 = .ok (.iconst 1, 1) := by decide +kernel
theorem dL_law_139 : decode cL_law 139 = .ok (.ishr, 1) := by decide +kernel
theorem dL_law_140 : decode cL_law 140 = .ok (.iload 4, 2) := by decide +kernel
theorem dL_law_142 : decode cL_law 142 = .ok (.irem, 1) := by decide +kernel
theorem dL_law_143 : decode cL_law 143 = .ok (.istore 12, 2) := by decide +kernel
theorem dL_law_145 : decode cL_law 145 = .ok (.iload_n 3, 1) := by decide +kernel
theorem dL_law_146 : decode cL_law 146 = .ok (.ifCond .ne 7, 3) := by decide +kernel
theorem dL_law_149 : decode cL_law 149 = .ok (.iconst 0, 1) := by decide +kernel
theorem dL_law_150 : decode cL_law 150 = .ok (.goto 9, 3) := by decide +kernel
theorem dL_law_153 : decode cL_law 153 = .ok (.iload 10, 2) := by decide +kernel
theorem dL_law_155 : decode cL_law 155 = .ok (.iconst 5, 1) := by decide +kernel
theorem dL_law_156 : decode cL_law 156 = .ok (.ishr, 1) := by decide +kernel
theorem dL_law_157 : decode cL_law 157 = .ok (.iload_n 3, 1) := by decide +kernel
theorem dL_law_158 : decode cL_law 158 = .ok (.irem, 1) := by decide +kernel
theorem dL_law_159 : decode cL_law 159 = .ok (.istore 13, 2) := by decide +kernel
theorem dL_law_161 : decode cL_law 161 = .ok (.iload 11, 2) := by decide +kernel
theorem dL_law_163 : decode cL_law 163 = .ok (.iconst 2, 1) := by decide +kernel
theorem dL_law_164 : decode cL_law 164 = .ok (.if_icmp .ge 62, 3) := by decide +kernel
theorem dL_law_167 : decode cL_law 167 = .ok (.aload_n 1, 1) := by decide +kernel
theorem dL_law_168 : decode cL_law 168 = .ok (.iconst 0, 1) := by decide +kernel
theorem dL_law_169 : decode cL_law 169 = .ok (.iload 10, 2) := by decide +kernel
theorem dL_law_171 : decode cL_law 171 = .ok (.iconst 3, 1) := by decide +kernel
theorem dL_law_172 : decode cL_law 172 = .ok (.iand, 1) := by decide +kernel
theorem dL_law_173 : decode cL_law 173 = .ok (.ifCond .ne 7, 3) := by decide +kernel
theorem dL_law_176 : decode cL_law 176 = .ok (.iconst 1, 1) := by decide +kernel
theorem dL_law_177 : decode cL_law 177 = .ok (.goto 4, 3) := by decide +kernel
theorem dL_law_180 : decode cL_law 180 = .ok (.iconst 0, 1) := by decide +kernel
theorem dL_law_181 : decode cL_law 181 = .ok (.iconst 0, 1) := by decide +kernel
theorem dL_law_182 : decode cL_law 182 = .ok (.iconst 0, 1) := by decide +kernel
theorem dL_law_183 : decode cL_law 183 = .ok (.iconst 0, 1) := by decide +kernel
theorem dL_law_184 : decode cL_law 184 = .ok (.invokestatic 97, 3) := by decide +kernel
theorem dL_law_187 : decode cL_law 187 = .ok (.iload_n 2, 1) := by decide +kernel
theorem dL_law_188 : decode cL_law 188 = .ok (.bipush 16, 2) := by decide +kernel
theorem dL_law_190 : decode cL_law 190 = .ok (.if_icmp .ne 8, 3) := by decide +kernel
theorem dL_law_193 : decode cL_law 193 = .ok (.bipush (-13), 2) := by decide +kernel
theorem dL_law_195 : decode cL_law 195 = .ok (.goto 4, 3) := by decide +kernel
theorem dL_law_198 : decode cL_law 198 = .ok (.iload_n 2, 1) := by decide +kernel
theorem dL_law_199 : decode cL_law 199 = .ok (.if_icmp .ne 7, 3) := by decide +kernel
theorem dL_law_202 : decode cL_law 202 = .ok (.iconst 1, 1) := by decide +kernel
theorem dL_law_203 : decode cL_law 203 = .ok (.goto 4, 3) := by decide +kernel
theorem dL_law_206 : decode cL_law 206 = .ok (.iconst 0, 1) := by decide +kernel
theorem dL_law_207 : decode cL_law 207 = .ok (.istore 6, 2) := by decide +kernel
theorem dL_law_209 : decode cL_law 209 = .ok (.iload_n 2, 1) := by decide +kernel
theorem dL_law_210 : decode cL_law 210 = .ok (.iload_n 2, 1) := by decide +kernel
theorem dL_law_211 : decode cL_law 211 = .ok (.bipush 16, 2) := by decide +kernel
theorem dL_law_213 : decode cL_law 213 = .ok (.if_icmp .ge 7, 3) := by decide +kernel
theorem dL_law_216 : decode cL_law 216 = .ok (.iconst 1, 1) := by decide +kernel
theorem dL_law_217 : decode cL_law 217 = .ok (.goto 4, 3) := by decide +kernel
theorem dL_law_220 : decode cL_law 220 = .ok (.iconst 0, 1) := by decide +kernel
theorem dL_law_221 : decode cL_law 221 = .ok (.iadd, 1) := by decide +kernel
theorem dL_law_222 : decode cL_law 222 = .ok (.istore_n 2, 1) := by decide +kernel
theorem dL_law_223 : decode cL_law 223 = .ok (.goto 1281, 3) := by decide +kernel
theorem dL_law_226 : decode cL_law 226 = .ok (.iload 11, 2) := by decide +kernel
theorem dL_law_228 : decode cL_law 228 = .ok (.iconst 4, 1) := by decide +kernel
theorem dL_law_229 : decode cL_law 229 = .ok (.if_icmp .ge 51, 3) := by decide +kernel
theorem dL_law_232 : decode cL_law 232 = .ok (.aload_n 1, 1) := by decide +kernel
theorem dL_law_233 : decode cL_law 233 = .ok (.iconst 1, 1) := by decide +kernel
theorem dL_law_234 : decode cL_law 234 = .ok (.iconst 0, 1) := by decide +kernel
theorem dL_law_235 : decode cL_law 235 = .ok (.iconst 0, 1) := by decide +kernel
theorem dL_law_236 : decode cL_law 236 = .ok (.iconst 0, 1) := by decide +kernel
theorem dL_law_237 : decode cL_law 237 = .ok (.iconst 0, 1) := by decide +kernel
theorem dL_law_238 : decode cL_law 238 = .ok (.invokestatic 97, 3) := by decide +kernel
theorem dL_law_241 : decode cL_law 241 = .ok (.iload_n 3, 1) := by decide +kernel
theorem dL_law_242 : decode cL_law 242 = .ok (.bipush 12, 2) := by decide +kernel
theorem dL_law_244 : decode cL_law 244 = .ok (.if_icmp .ne 8, 3) := by decide +kernel
theorem dL_law_247 : decode cL_law 247 = .ok (.bipush (-13), 2) := by decide +kernel
theorem dL_law_249 : decode cL_law 249 = .ok (.goto 4, 3) := by decide +kernel
theorem dL_law_252 : decode cL_law 252 = .ok (.iload_n 3, 1) := by decide +kernel
theorem dL_law_253 : decode cL_law 253 = .ok (.if_icmp .ne 7, 3) := by decide +kernel
theorem dL_law_256 : decode cL_law 256 = .ok (.iconst 1, 1) := by decide +kernel
theorem dL_law_257 : decode cL_law 257 = .ok (.goto 4, 3) := by decide +kernel
theorem dL_law_260 : decode cL_law 260 = .ok (.iconst 0, 1) := by decide +kernel
theorem dL_law_261 : decode cL_law 261 = .ok (.istore 6, 2) := by decide +kernel
theorem dL_law_263 : decode cL_law 263 = .ok (.iload_n 3, 1) := by decide +kernel
theorem dL_law_264 : decode cL_law 264 = .ok (.iload_n 3, 1) := by decide +kernel
theorem dL_law_265 : decode cL_law 265 = .ok (.bipush 12, 2) := by decide +kernel
theorem dL_law_267 : decode cL_law 267 = .ok (.if_icmp .ge 7, 3) := by decide +kernel
theorem dL_law_270 : decode cL_law 270 = .ok (.iconst 1, 1) := by decide +kernel
theorem dL_law_271 : decode cL_law 271 = .ok (.goto 4, 3) := by decide +kernel
theorem dL_law_274 : decode cL_law 274 = .ok (.iconst 0, 1) := by decide +kernel
theorem dL_law_275 : decode cL_law 275 = .ok (.iadd, 1) := by decide +kernel
theorem dL_law_276 : decode cL_law 276 = .ok (.istore_n 3, 1) := by decide +kernel
theorem dL_law_277 : decode cL_law 277 = .ok (.goto 1227, 3) := by decide +kernel
theorem dL_law_280 : decode cL_law 280 = .ok (.iload 11, 2) := by decide +kernel
theorem dL_law_282 : decode cL_law 282 = .ok (.iconst 4, 1) := by decide +kernel
theorem dL_law_283 : decode cL_law 283 = .ok (.if_icmp .ne 124, 3) := by decide +kernel
theorem dL_law_286 : decode cL_law 286 = .ok (.aload_n 1, 1) := by decide +kernel
theorem dL_law_287 : decode cL_law 287 = .ok (.iload 10, 2) := by decide +kernel
theorem dL_law_289 : decode cL_law 289 = .ok (.bipush 7, 2) := by decide +kernel
theorem dL_law_291 : decode cL_law 291 = .ok (.iand, 1) := by decide +kernel
theorem dL_law_292 : decode cL_law 292 = .ok (.ifCond .ne 7, 3) := by decide +kernel
theorem dL_law_295 : decode cL_law 295 = .ok (.iconst 1, 1) := by decide +kernel
theorem dL_law_296 : decode cL_law 296 = .ok (.goto 4, 3) := by decide +kernel
theorem dL_law_299 : decode cL_law 299 = .ok (.iconst 0, 1) := by decide +kernel
theorem dL_law_300 : decode cL_law 300 = .ok (.iload 10, 2) := by decide +kernel
theorem dL_law_302 : decode cL_law 302 = .ok (.iconst 3, 1) := by decide +kernel
theorem dL_law_303 : decode cL_law 303 = .ok (.ishr, 1) := by decide +kernel
theorem dL_law_304 : decode cL_law 304 = .ok (.sipush 2001, 3) := by decide +kernel
theorem dL_law_307 : decode cL_law 307 = .ok (.irem, 1) := by decide +kernel
theorem dL_law_308 : decode cL_law 308 = .ok (.iload 10, 2) := by decide +kernel
theorem dL_law_310 : decode cL_law 310 = .ok (.bipush 6, 2) := by decide +kernel
theorem dL_law_312 : decode cL_law 312 = .ok (.ishr, 1) := by decide +kernel
theorem dL_law_313 : decode cL_law 313 = .ok (.bipush 12, 2) := by decide +kernel
theorem dL_law_315 : decode cL_law 315 = .ok (.irem, 1) := by decide +kernel
theorem dL_law_316 : decode cL_law 316 = .ok (.iconst 1, 1) := by decide +kernel
theorem dL_law_317 : decode cL_law 317 = .ok (.iload 10, 2) := by decide +kernel
theorem dL_law_319 : decode cL_law 319 = .ok (.bipush 9, 2) := by decide +kernel
theorem dL_law_321 : decode cL_law 321 = .ok (.ishr, 1) := by decide +kernel
theorem dL_law_322 : decode cL_law 322 = .ok (.iconst 4, 1) := by decide +kernel
theorem dL_law_323 : decode cL_law 323 = .ok (.irem, 1) := by decide +kernel
theorem dL_law_324 : decode cL_law 324 = .ok (.iadd, 1) := by decide +kernel
theorem dL_law_325 : decode cL_law 325 = .ok (.iconst 1, 1) := by decide +kernel
theorem dL_law_326 : decode cL_law 326 = .ok (.iload 10, 2) := by decide +kernel
theorem dL_law_328 : decode cL_law 328 = .ok (.bipush 11, 2) := by decide +kernel
theorem dL_law_330 : decode cL_law 330 = .ok (.ishr, 1) := by decide +kernel
theorem dL_law_331 : decode cL_law 331 = .ok (.iconst 4, 1) := by decide +kernel
theorem dL_law_332 : decode cL_law 332 = .ok (.irem, 1) := by decide +kernel
theorem dL_law_333 : decode cL_law 333 = .ok (.iadd, 1) := by decide +kernel
theorem dL_law_334 : decode cL_law 334 = .ok (.sipush 1000, 3) := by decide +kernel
theorem dL_law_337 : decode cL_law 337 = .ok (.iload 10, 2) := by decide +kernel
theorem dL_law_339 : decode cL_law 339 = .ok (.iconst 4, 1) := by decide +kernel
theorem dL_law_340 : decode cL_law 340 = .ok (.ishr, 1) := by decide +kernel
theorem dL_law_341 : decode cL_law 341 = .ok (.sipush 9000, 3) := by decide +kernel
theorem dL_law_344 : decode cL_law 344 = .ok (.irem, 1) := by decide +kernel
theorem dL_law_345 : decode cL_law 345 = .ok (.imul, 1) := by decide +kernel
theorem dL_law_346 : decode cL_law 346 = .ok (.iload 10, 2) := by decide +kernel
theorem dL_law_348 : decode cL_law 348 = .ok (.bipush 7, 2) := by decide +kernel
theorem dL_law_350 : decode cL_law 350 = .ok (.ishr, 1) := by decide +kernel
theorem dL_law_351 : decode cL_law 351 = .ok (.sipush 300, 3) := by decide +kernel
theorem dL_law_354 : decode cL_law 354 = .ok (.irem, 1) := by decide +kernel
theorem dL_law_355 : decode cL_law 355 = .ok (.iadd, 1) := by decide +kernel
theorem dL_law_356 : decode cL_law 356 = .ok (.invokestatic 105, 3) := by decide +kernel
theorem dL_law_359 : decode cL_law 359 = .ok (.istore 14, 2) := by decide +kernel
theorem dL_law_361 : decode cL_law 361 = .ok (.iload 14, 2) := by decide +kernel
theorem dL_law_363 : decode cL_law 363 = .ok (.iload 4, 2) := by decide +kernel
theorem dL_law_365 : decode cL_law 365 = .ok (.bipush 8, 2) := by decide +kernel
theorem dL_law_367 : decode cL_law 367 = .ok (.if_icmp .ne 8, 3) := by decide +kernel
theorem dL_law_370 : decode cL_law 370 = .ok (.bipush (-13), 2) := by decide +kernel
theorem dL_law_372 : decode cL_law 372 = .ok (.goto 5, 3) := by decide +kernel
theorem dL_law_375 : decode cL_law 375 = .ok (.iload 4, 2) := by decide +kernel
theorem dL_law_377 : decode cL_law 377 = .ok (.if_icmp .ne 7, 3) := by decide +kernel
theorem dL_law_380 : decode cL_law 380 = .ok (.iconst 1, 1) := by decide +kernel
theorem dL_law_381 : decode cL_law 381 = .ok (.goto 4, 3) := by decide +kernel
theorem dL_law_384 : decode cL_law 384 = .ok (.iconst 0, 1) := by decide +kernel
theorem dL_law_385 : decode cL_law 385 = .ok (.istore 6, 2) := by decide +kernel
theorem dL_law_387 : decode cL_law 387 = .ok (.iload 4, 2) := by decide +kernel
theorem dL_law_389 : decode cL_law 389 = .ok (.iload 4, 2) := by decide +kernel
theorem dL_law_391 : decode cL_law 391 = .ok (.bipush 8, 2) := by decide +kernel
theorem dL_law_393 : decode cL_law 393 = .ok (.if_icmp .ge 7, 3) := by decide +kernel
theorem dL_law_396 : decode cL_law 396 = .ok (.iconst 1, 1) := by decide +kernel
theorem dL_law_397 : decode cL_law 397 = .ok (.goto 4, 3) := by decide +kernel
theorem dL_law_400 : decode cL_law 400 = .ok (.iconst 0, 1) := by decide +kernel
theorem dL_law_401 : decode cL_law 401 = .ok (.iadd, 1) := by decide +kernel
theorem dL_law_402 : decode cL_law 402 = .ok (.istore 4, 2) := by decide +kernel
theorem dL_law_404 : decode cL_law 404 = .ok (.goto 1100, 3) := by decide +kernel
theorem dL_law_407 : decode cL_law 407 = .ok (.iload 4, 2) := by decide +kernel
theorem dL_law_409 : decode cL_law 409 = .ok (.ifCond .eq 7, 3) := by decide +kernel
theorem dL_law_412 : decode cL_law 412 = .ok (.iload_n 3, 1) := by decide +kernel
theorem dL_law_413 : decode cL_law 413 = .ok (.ifCond .ne 40, 3) := by decide +kernel
theorem dL_law_416 : decode cL_law 416 = .ok (.aload_n 1, 1) := by decide +kernel
theorem dL_law_417 : decode cL_law 417 = .ok (.iconst 4, 1) := by decide +kernel
theorem dL_law_418 : decode cL_law 418 = .ok (.iconst 0, 1) := by decide +kernel
theorem dL_law_419 : decode cL_law 419 = .ok (.iconst 0, 1) := by decide +kernel
theorem dL_law_420 : decode cL_law 420 = .ok (.iconst 0, 1) := by decide +kernel
theorem dL_law_421 : decode cL_law 421 = .ok (.iconst 0, 1) := by decide +kernel
theorem dL_law_422 : decode cL_law 422 = .ok (.invokestatic 97, 3) := by decide +kernel
theorem dL_law_425 : decode cL_law 425 = .ok (.iload 4, 2) := by decide +kernel
theorem dL_law_427 : decode cL_law 427 = .ok (.ifCond .ne 8, 3) := by decide +kernel
theorem dL_law_430 : decode cL_law 430 = .ok (.bipush (-11), 2) := by decide +kernel
theorem dL_law_432 : decode cL_law 432 = .ok (.goto 4, 3) := by decide +kernel
theorem dL_law_435 : decode cL_law 435 = .ok (.iconst 0, 1) := by decide +kernel
theorem dL_law_436 : decode cL_law 436 = .ok (.if_icmp .eq 7, 3) := by decide +kernel
theorem dL_law_439 : decode cL_law 439 = .ok (.iload_n 3, 1) := by decide +kernel
theorem dL_law_440 : decode cL_law 440 = .ok (.ifCond .ne 7, 3) := by decide +kernel
theorem dL_law_443 : decode cL_law 443 = .ok (.iconst 1, 1) := by decide +kernel
theorem dL_law_444 : decode cL_law 444 = .ok (.goto 4, 3) := by decide +kernel
theorem dL_law_447 : decode cL_law 447 = .ok (.iconst 0, 1) := by decide +kernel
theorem dL_law_448 : decode cL_law 448 = .ok (.istore 6, 2) := by decide +kernel
theorem dL_law_450 : decode cL_law 450 = .ok (.goto 1054, 3) := by decide +kernel
theorem dL_law_453 : decode cL_law 453 = .ok (.iload 11, 2) := by decide +kernel
theorem dL_law_455 : decode cL_law 455 = .ok (.bipush 12, 2) := by decide +kernel
theorem dL_law_457 : decode cL_law 457 = .ok (.if_icmp .ge 132, 3) := by decide +kernel
theorem dL_law_460 : decode cL_law 460 = .ok (.aload_n 1, 1) := by decide +kernel
theorem dL_law_461 : decode cL_law 461 = .ok (.iload 12, 2) := by decide +kernel
theorem dL_law_463 : decode cL_law 463 = .ok (.iconst 1, 1) := by decide +kernel
theorem dL_law_464 : decode cL_law 464 = .ok (.invokevirtual 17, 3) := by decide +kernel
theorem dL_law_467 : decode cL_law 467 = .ok (.istore 14, 2) := by decide +kernel
theorem dL_law_469 : decode cL_law 469 = .ok (.aload_n 1, 1) := by decide +kernel
theorem dL_law_470 : decode cL_law 470 = .ok (.iconst 3, 1) := by decide +kernel
theorem dL_law_471 : decode cL_law 471 = .ok (.iload 12, 2) := by decide +kernel
theorem dL_law_473 : decode cL_law 473 = .ok (.iload 13, 2) := by decide +kernel
theorem dL_law_475 : decode cL_law 475 = .ok (.iconst 1, 1) := by decide +kernel
theorem dL_law_476 : decode cL_law 476 = .ok (.iload 10, 2) := by decide +kernel
theorem dL_law_478 : decode cL_law 478 = .ok (.bipush 9, 2) := by decide +kernel
theorem dL_law_480 : decode cL_law 480 = .ok (.ishr, 1) := by decide +kernel
theorem dL_law_481 : decode cL_law 481 = .ok (.bipush 15, 2) := by decide +kernel
theorem dL_law_483 : decode cL_law 483 = .ok (.irem, 1) := by decide +kernel
theorem dL_law_484 : decode cL_law 484 = .ok (.iadd, 1) := by decide +kernel
theorem dL_law_485 : decode cL_law 485 = .ok (.iload 10, 2) := by decide +kernel
theorem dL_law_487 : decode cL_law 487 = .ok (.bipush 13, 2) := by decide +kernel
theorem dL_law_489 : decode cL_law 489 = .ok (.ishr, 1) := by decide +kernel
theorem dL_law_490 : decode cL_law 490 = .ok (.iconst 4, 1) := by decide +kernel
theorem dL_law_491 : decode cL_law 491 = .ok (.irem, 1) := by decide +kernel
theorem dL_law_492 : decode cL_law 492 = .ok (.invokestatic 97, 3) := by decide +kernel
theorem dL_law_495 : decode cL_law 495 = .ok (.istore 15, 2) := by decide +kernel
theorem dL_law_497 : decode cL_law 497 = .ok (.iload 15, 2) := by decide +kernel
theorem dL_law_499 : decode cL_law 499 = .ok (.ifCond .ge 37, 3) := by decide +kernel
theorem dL_law_502 : decode cL_law 502 = .ok (.iload 15, 2) := by decide +kernel
theorem dL_law_504 : decode cL_law 504 = .ok (.bipush (-12), 2) := by decide +kernel
theorem dL_law_506 : decode cL_law 506 = .ok (.if_icmp .eq 10, 3) := by decide +kernel
theorem dL_law_509 : decode cL_law 509 = .ok (.iload 15, 2) := by decide +kernel
theorem dL_law_511 : decode cL_law 511 = .ok (.bipush (-13), 2) := by decide +kernel
theorem dL_law_513 : decode cL_law 513 = .ok (.if_icmp .ne 19, 3) := by decide +kernel
theorem dL_law_516 : decode cL_law 516 = .ok (.aload_n 1, 1) := by decide +kernel
theorem dL_law_517 : decode cL_law 517 = .ok (.iload 12, 2) := by decide +kernel
theorem dL_law_519 : decode cL_law 519 = .ok (.iconst 1, 1) := by decide +kernel
theorem dL_law_520 : decode cL_law 520 = .ok (.invokevirtual 17, 3) := by decide +kernel
theorem dL_law_523 : decode cL_law 523 = .ok (.iload 14, 2) := by decide +kernel
theorem dL_law_525 : decode cL_law 525 = .ok (.if_icmp .ne 7, 3) := by decide +kernel
theorem dL_law_528 : decode cL_law 528 = .ok (.iconst 1, 1) := by decide +kernel
theorem dL_law_529 : decode cL_law 529 = .ok (.goto 55, 3) := by decide +kernel
theorem dL_law_532 : decode cL_law 532 = .ok (.iconst 0, 1) := by decide +kernel
theorem dL_law_533 : decode cL_law 533 = .ok (.goto 51, 3) := by decide +kernel
theorem dL_law_536 : decode cL_law 536 = .ok (.iload 15, 2) := by decide +kernel
theorem dL_law_538 : decode cL_law 538 = .ok (.iload 14, 2) := by decide +kernel
theorem dL_law_540 : decode cL_law 540 = .ok (.iconst 1, 1) := by decide +kernel
theorem dL_law_541 : decode cL_law 541 = .ok (.iadd, 1) := by decide +kernel
theorem dL_law_542 : decode cL_law 542 = .ok (.if_icmp .ne 41, 3) := by decide +kernel
theorem dL_law_545 : decode cL_law 545 = .ok (.aload_n 1, 1) := by decide +kernel
theorem dL_law_546 : decode cL_law 546 = .ok (.iload 12, 2) := by decide +kernel
theorem dL_law_548 : decode cL_law 548 = .ok (.iconst 0, 1) := by decide +kernel
theorem dL_law_549 : decode cL_law 549 = .ok (.invokevirtual 17, 3) := by decide +kernel
theorem dL_law_552 : decode cL_law 552 = .ok (.ifCond .ne 31, 3) := by decide +kernel
theorem dL_law_555 : decode cL_law 555 = .ok (.aload_n 1, 1) := by decide +kernel
theorem dL_law_556 : decode cL_law 556 = .ok (.iload 12, 2) := by decide +kernel
theorem dL_law_558 : decode cL_law 558 = .ok (.iconst 1, 1) := by decide +kernel
theorem dL_law_559 : decode cL_law 559 = .ok (.invokevirtual 17, 3) := by decide +kernel
theorem dL_law_562 : decode cL_law 562 = .ok (.iload 15, 2) := by decide +kernel
theorem dL_law_564 : decode cL_law 564 = .ok (.if_icmp .ne 19, 3) := by decide +kernel
theorem dL_law_567 : decode cL_law 567 = .ok (.aload_n 1, 1) := by decide +kernel
theorem dL_law_568 : decode cL_law 568 = .ok (.iload 12, 2) := by decide +kernel
theorem dL_law_570 : decode cL_law 570 = .ok (.iload 13, 2) := by decide +kernel
theorem dL_law_572 : decode cL_law 572 = .ok (.invokevirtual 28, 3) := by decide +kernel
theorem dL_law_575 : decode cL_law 575 = .ok (.iconst (-1), 1) := by decide +kernel
theorem dL_law_576 : decode cL_law 576 = .ok (.if_icmp .ne 7, 3) := by decide +kernel
theorem dL_law_579 : decode cL_law 579 = .ok (.iconst 1, 1) := by decide +kernel
theorem dL_law_580 : decode cL_law 580 = .ok (.goto 4, 3) := by decide +kernel
theorem dL_law_583 : decode cL_law 583 = .ok (.iconst 0, 1) := by decide +kernel
theorem dL_law_584 : decode cL_law 584 = .ok (.istore 6, 2) := by decide +kernel
theorem dL_law_586 : decode cL_law 586 = .ok (.goto 918, 3) := by decide +kernel
theorem dL_law_589 : decode cL_law 589 = .ok (.iload 11, 2) := by decide +kernel
theorem dL_law_591 : decode cL_law 591 = .ok (.bipush 12, 2) := by decide +kernel
theorem dL_law_593 : decode cL_law 593 = .ok (.if_icmp .ne 127, 3) := by decide +kernel
theorem dL_law_596 : decode cL_law 596 = .ok (.iinc 5 1, 3) := by decide +kernel
theorem dL_law_599 : decode cL_law 599 = .ok (.iload 5, 2) := by decide +kernel
theorem dL_law_601 : decode cL_law 601 = .ok (.bipush 30, 2) := by decide +kernel
theorem dL_law_603 : decode cL_law 603 = .ok (.if_icmp .le 7, 3) := by decide +kernel
theorem dL_law_606 : decode cL_law 606 = .ok (.iconst (-1), 1) := by decide +kernel
theorem dL_law_607 : decode cL_law 607 = .ok (.goto 9, 3) := by decide +kernel
theorem dL_law_610 : decode cL_law 610 = .ok (.aload_n 1, 1) := by decide +kernel
theorem dL_law_611 : decode cL_law 611 = .ok (.iload 12, 2) := by decide +kernel
theorem dL_law_613 : decode cL_law 613 = .ok (.invokevirtual 31, 3) := by decide +kernel
theorem dL_law_616 : decode cL_law 616 = .ok (.istore 14, 2) := by decide +kernel
theorem dL_law_618 : decode cL_law 618 = .ok (.aload_n 1, 1) := by decide +kernel
theorem dL_law_619 : decode cL_law 619 = .ok (.iconst 4, 1) := by decide +kernel
theorem dL_law_620 : decode cL_law 620 = .ok (.iload 12, 2) := by decide +kernel
theorem dL_law_622 : decode cL_law 622 = .ok (.iconst 0, 1) := by decide +kernel
theorem dL_law_623 : decode cL_law 623 = .ok (.iconst 0, 1) := by decide +kernel
theorem dL_law_624 : decode cL_law 624 = .ok (.iconst 0, 1) := by decide +kernel
theorem dL_law_625 : decode cL_law 625 = .ok (.invokestatic 97, 3) := by decide +kernel
theorem dL_law_628 : decode cL_law 628 = .ok (.istore 15, 2) := by decide +kernel
theorem dL_law_630 : decode cL_law 630 = .ok (.iload 15, 2) := by decide +kernel
theorem dL_law_632 : decode cL_law 632 = .ok (.bipush (-13), 2) := by decide +kernel
theorem dL_law_634 : decode cL_law 634 = .ok (.if_icmp .ne 21, 3) := by decide +kernel
theorem dL_law_637 : decode cL_law 637 = .ok (.aload_n 1, 1) := by decide +kernel
theorem dL_law_638 : decode cL_law 638 = .ok (.iload 12, 2) := by decide +kernel
theorem dL_law_640 : decode cL_law 640 = .ok (.iconst 0, 1) := by decide +kernel
theorem dL_law_641 : decode cL_law 641 = .ok (.invokevirtual 17, 3) := by decide +kernel
theorem dL_law_644 : decode cL_law 644 = .ok (.ifCond .le 7, 3) := by decide +kernel
theorem dL_law_647 : decode cL_law 647 = .ok (.iconst 1, 1) := by decide +kernel
theorem dL_law_648 : decode cL_law 648 = .ok (.goto 67, 3) := by decide +kernel
theorem dL_law_651 : decode cL_law 651 = .ok (.iconst 0, 1) := by decide +kernel
theorem dL_law_652 : decode cL_law 652 = .ok (.goto 63, 3) := by decide +kernel
theorem dL_law_655 : decode cL_law 655 = .ok (.iload 15, 2) := by decide +kernel
theorem dL_law_657 : decode cL_law 657 = .ok (.aload_n 1, 1) := by decide +kernel
theorem dL_law_658 : decode cL_law 658 = .ok (.iload 12, 2) := by decide +kernel
theorem dL_law_660 : decode cL_law 660 = .ok (.iconst 2, 1) := by decide +kernel
theorem dL_law_661 : decode cL_law 661 = .ok (.invokevirtual 17, 3) := by decide +kernel
theorem dL_law_664 : decode cL_law 664 = .ok (.if_icmp .ne 50, 3) := by decide +kernel
theorem dL_law_667 : decode cL_law 667 = .ok (.aload_n 1, 1) := by decide +kernel
theorem dL_law_668 : decode cL_law 668 = .ok (.iload 12, 2) := by decide +kernel
theorem dL_law_670 : decode cL_law 670 = .ok (.iconst 0, 1) := by decide +kernel
theorem dL_law_671 : decode cL_law 671 = .ok (.invokevirtual 17, 3) := by decide +kernel
theorem dL_law_674 : decode cL_law 674 = .ok (.iconst 1, 1) := by decide +kernel
theorem dL_law_675 : decode cL_law 675 = .ok (.if_icmp .ne 39, 3) := by decide +kernel
theorem dL_law_678 : decode cL_law 678 = .ok (.iload 14, 2) := by decide +kernel
theorem dL_law_680 : decode cL_law 680 = .ok (.ifCond .lt 30, 3) := by decide +kernel
theorem dL_law_683 : decode cL_law 683 = .ok (.iload 15, 2) := by decide +kernel
theorem dL_law_685 : decode cL_law 685 = .ok (.iload 14, 2) := by decide +kernel
theorem dL_law_687 : decode cL_law 687 = .ok (.if_icmp .gt 27, 3) := by decide +kernel
theorem dL_law_690 : decode cL_law 690 = .ok (.iload 14, 2) := by decide +kernel
theorem dL_law_692 : decode cL_law 692 = .ok (.iconst 2, 1) := by decide +kernel
theorem dL_law_693 : decode cL_law 693 = .ok (.iload 15, 2) := by decide +kernel
theorem dL_law_695 : decode cL_law 695 = .ok (.imul, 1) := by decide +kernel
theorem dL_law_696 : decode cL_law 696 = .ok (.if_icmp .gt 18, 3) := by decide +kernel
theorem dL_law_699 : decode cL_law 699 = .ok (.aload_n 1, 1) := by decide +kernel
theorem dL_law_700 : decode cL_law 700 = .ok (.iload 12, 2) := by decide +kernel
theorem dL_law_702 : decode cL_law 702 = .ok (.invokevirtual 31, 3) := by decide +kernel
theorem dL_law_705 : decode cL_law 705 = .ok (.iload 14, 2) := by decide +kernel
theorem dL_law_707 : decode cL_law 707 = .ok (.if_icmp .ne 7, 3) := by decide +kernel
theorem dL_law_710 : decode cL_law 710 = .ok (.iconst 1, 1) := by decide +kernel
theorem dL_law_711 : decode cL_law 711 = .ok (.goto 4, 3) := by decide +kernel
theorem dL_law_714 : decode cL_law 714 = .ok (.iconst 0, 1) := by decide +kernel
theorem dL_law_715 : decode cL_law 715 = .ok (.istore 6, 2) := by decide +kernel
theorem dL_law_717 : decode cL_law 717 = .ok (.goto 787, 3) := by decide +kernel
theorem dL_law_720 : decode cL_law 720 = .ok (.iload 11, 2) := by decide +kernel
theorem dL_law_722 : decode cL_law 722 = .ok (.bipush 13, 2) := by decide +kernel
