theorem dX4_init_0 : decode cX4_init 0 = .ok (.aload_n 0, 1) := by decide +kernel
theorem dX4_init_1 : decode cX4_init 1 = .ok (.invokespecial 1, 3) := by decide +kernel
theorem dX4_init_4 : decode cX4_init 4 = .ok (.aload_n 0, 1) := by decide +kernel
theorem dX4_init_5 : decode cX4_init 5 = .ok (.bipush 16, 2) := by decide +kernel
theorem dX4_init_7 : decode cX4_init 7 = .ok (.newarray .int, 2) := by decide +kernel
theorem dX4_init_9 : decode cX4_init 9 = .ok (.putfield 7, 3) := by decide +kernel
theorem dX4_init_12 : decode cX4_init 12 = .ok (.aload_n 0, 1) := by decide +kernel
theorem dX4_init_13 : decode cX4_init 13 = .ok (.bipush 16, 2) := by decide +kernel
theorem dX4_init_15 : decode cX4_init 15 = .ok (.newarray .int, 2) := by decide +kernel
theorem dX4_init_17 : decode cX4_init 17 = .ok (.putfield 13, 3) := by decide +kernel
theorem dX4_init_20 : decode cX4_init 20 = .ok (.aload_n 0, 1) := by decide +kernel
theorem dX4_init_21 : decode cX4_init 21 = .ok (.bipush 16, 2) := by decide +kernel
theorem dX4_init_23 : decode cX4_init 23 = .ok (.newarray .int, 2) := by decide +kernel
theorem dX4_init_25 : decode cX4_init 25 = .ok (.putfield 16, 3) := by decide +kernel
theorem dX4_init_28 : decode cX4_init 28 = .ok (.aload_n 0, 1) := by decide +kernel
theorem dX4_init_29 : decode cX4_init 29 = .ok (.bipush 16, 2) := by decide +kernel
theorem dX4_init_31 : decode cX4_init 31 = .ok (.newarray .int, 2) := by decide +kernel
theorem dX4_init_33 : decode cX4_init 33 = .ok (.putfield 19, 3) := by decide +kernel
theorem dX4_init_36 : decode cX4_init 36 = .ok (.aload_n 0, 1) := by decide +kernel
theorem dX4_init_37 : decode cX4_init 37 = .ok (.bipush 16, 2) := by decide +kernel
theorem dX4_init_39 : decode cX4_init 39 = .ok (.newarray .long, 2) := by decide +kernel
theorem dX4_init_41 : decode cX4_init 41 = .ok (.putfield 22, 3) := by decide +kernel
theorem dX4_init_44 : decode cX4_init 44 = .ok (.aload_n 0, 1) := by decide +kernel
theorem dX4_init_45 : decode cX4_init 45 = .ok (.bipush 8, 2) := by decide +kernel
theorem dX4_init_47 : decode cX4_init 47 = .ok (.newarray .int, 2) := by decide +kernel
theorem dX4_init_49 : decode cX4_init 49 = .ok (.putfield 26, 3) := by decide +kernel
theorem dX4_init_52 : decode cX4_init 52 = .ok (.aload_n 0, 1) := by decide +kernel
theorem dX4_init_53 : decode cX4_init 53 = .ok (.bipush 8, 2) := by decide +kernel
theorem dX4_init_55 : decode cX4_init 55 = .ok (.newarray .int, 2) := by decide +kernel
theorem dX4_init_57 : decode cX4_init 57 = .ok (.putfield 29, 3) := by decide +kernel
theorem dX4_init_60 : decode cX4_init 60 = .ok (.aload_n 0, 1) := by decide +kernel
theorem dX4_init_61 : decode cX4_init 61 = .ok (.bipush 8, 2) := by decide +kernel
theorem dX4_init_63 : decode cX4_init 63 = .ok (.newarray .int, 2) := by decide +kernel
theorem dX4_init_65 : decode cX4_init 65 = .ok (.putfield 32, 3) := by decide +kernel
theorem dX4_init_68 : decode cX4_init 68 = .ok (.aload_n 0, 1) := by decide +kernel
theorem dX4_init_69 : decode cX4_init 69 = .ok (.bipush 8, 2) := by decide +kernel
theorem dX4_init_71 : decode cX4_init 71 = .ok (.newarray .int, 2) := by decide +kernel
theorem dX4_init_73 : decode cX4_init 73 = .ok (.putfield 35, 3) := by decide +kernel
theorem dX4_init_76 : decode cX4_init 76 = .ok (.aload_n 0, 1) := by decide +kernel
theorem dX4_init_77 : decode cX4_init 77 = .ok (.bipush 8, 2) := by decide +kernel
theorem dX4_init_79 : decode cX4_init 79 = .ok (.newarray .int, 2) := by decide +kernel
theorem dX4_init_81 : decode cX4_init 81 = .ok (.putfield 38, 3) := by decide +kernel
theorem dX4_init_84 : decode cX4_init 84 = .ok (.aload_n 0, 1) := by decide +kernel
theorem dX4_init_85 : decode cX4_init 85 = .ok (.bipush 8, 2) := by decide +kernel
theorem dX4_init_87 : decode cX4_init 87 = .ok (.newarray .int, 2) := by decide +kernel
theorem dX4_init_89 : decode cX4_init 89 = .ok (.putfield 41, 3) := by decide +kernel
theorem dX4_init_92 : decode cX4_init 92 = .ok (.aload_n 0, 1) := by decide +kernel
theorem dX4_init_93 : decode cX4_init 93 = .ok (.bipush 8, 2) := by decide +kernel
theorem dX4_init_95 : decode cX4_init 95 = .ok (.newarray .int, 2) := by decide +kernel
theorem dX4_init_97 : decode cX4_init 97 = .ok (.putfield 44, 3) := by decide +kernel
theorem dX4_init_100 : decode cX4_init 100 = .ok (.aload_n 0, 1) := by decide +kernel
theorem dX4_init_101 : decode cX4_init 101 = .ok (.bipush 8, 2) := by decide +kernel
theorem dX4_init_103 : decode cX4_init 103 = .ok (.newarray .int, 2) := by decide +kernel
theorem dX4_init_105 : decode cX4_init 105 = .ok (.putfield 47, 3) := by decide +kernel
theorem dX4_init_108 : decode cX4_init 108 = .ok (.aload_n 0, 1) := by decide +kernel
theorem dX4_init_109 : decode cX4_init 109 = .ok (.bipush 8, 2) := by decide +kernel
theorem dX4_init_111 : decode cX4_init 111 = .ok (.newarray .int, 2) := by decide +kernel
theorem dX4_init_113 : decode cX4_init 113 = .ok (.putfield 50, 3) := by decide +kernel
theorem dX4_init_116 : decode cX4_init 116 = .ok (.aload_n 0, 1) := by decide +kernel
theorem dX4_init_117 : decode cX4_init 117 = .ok (.bipush 8, 2) := by decide +kernel
theorem dX4_init_119 : decode cX4_init 119 = .ok (.newarray .int, 2) := by decide +kernel
theorem dX4_init_121 : decode cX4_init 121 = .ok (.putfield 53, 3) := by decide +kernel
theorem dX4_init_124 : decode cX4_init 124 = .ok (.aload_n 0, 1) := by decide +kernel
theorem dX4_init_125 : decode cX4_init 125 = .ok (.bipush 96, 2) := by decide +kernel
theorem dX4_init_127 : decode cX4_init 127 = .ok (.newarray .int, 2) := by decide +kernel
theorem dX4_init_129 : decode cX4_init 129 = .ok (.putfield 56, 3) := by decide +kernel
theorem dX4_init_132 : decode cX4_init 132 = .ok (.aload_n 0, 1) := by decide +kernel
theorem dX4_init_133 : decode cX4_init 133 = .ok (.bipush 96, 2) := by decide +kernel
theorem dX4_init_135 : decode cX4_init 135 = .ok (.newarray .int, 2) := by decide +kernel
theorem dX4_init_137 : decode cX4_init 137 = .ok (.putfield 59, 3) := by decide +kernel
theorem dX4_init_140 : decode cX4_init 140 = .ok (.aload_n 0, 1) := by decide +kernel
theorem dX4_init_141 : decode cX4_init 141 = .ok (.bipush 96, 2) := by decide +kernel
theorem dX4_init_143 : decode cX4_init 143 = .ok (.newarray .int, 2) := by decide +kernel
theorem dX4_init_145 : decode cX4_init 145 = .ok (.putfield 62, 3) := by decide +kernel
theorem dX4_init_148 : decode cX4_init 148 = .ok (.aload_n 0, 1) := by decide +kernel
theorem dX4_init_149 : decode cX4_init 149 = .ok (.bipush 96, 2) := by decide +kernel
theorem dX4_init_151 : decode cX4_init 151 = .ok (.newarray .int, 2) := by decide +kernel
theorem dX4_init_153 : decode cX4_init 153 = .ok (.putfield 65, 3) := by decide +kernel
theorem dX4_init_156 : decode cX4_init 156 = .ok (.aload_n 0, 1) := by decide +kernel
theorem dX4_init_157 : decode cX4_init 157 = .ok (.bipush 96, 2) := by decide +kernel
theorem dX4_init_159 : decode cX4_init 159 = .ok (.newarray .int, 2) := by decide +kernel
theorem dX4_init_161 : decode cX4_init 161 = .ok (.putfield 68, 3) := by decide +kernel
theorem dX4_init_164 : decode cX4_init 164 = .ok (.aload_n 0, 1) := by decide +kernel
theorem dX4_init_165 : decode cX4_init 165 = .ok (.bipush 96, 2) := by decide +kernel
theorem dX4_init_167 : decode cX4_init 167 = .ok (.newarray .boolean, 2) := by decide +kernel
theorem dX4_init_169 : decode cX4_init 169 = .ok (.putfield 71, 3) := by decide +kernel
theorem dX4_init_172 : decode cX4_init 172 = .ok (.aload_n 0, 1) := by decide +kernel
theorem dX4_init_173 : decode cX4_init 173 = .ok (.bipush 96, 2) := by decide +kernel
theorem dX4_init_175 : decode cX4_init 175 = .ok (.newarray .boolean, 2) := by decide +kernel
theorem dX4_init_177 : decode cX4_init 177 = .ok (.putfield 75, 3) := by decide +kernel
theorem dX4_init_180 : decode cX4_init 180 = .ok (.aload_n 0, 1) := by decide +kernel
theorem dX4_init_181 : decode cX4_init 181 = .ok (.bipush 96, 2) := by decide +kernel
theorem dX4_init_183 : decode cX4_init 183 = .ok (.newarray .boolean, 2) := by decide +kernel
theorem dX4_init_185 : decode cX4_init 185 = .ok (.putfield 78, 3) := by decide +kernel
theorem dX4_init_188 : decode cX4_init 188 = .ok (.aload_n 0, 1) := by decide +kernel
theorem dX4_init_189 : decode cX4_init 189 = .ok (.bipush 96, 2) := by decide +kernel
theorem dX4_init_191 : decode cX4_init 191 = .ok (.newarray .boolean, 2) := by decide +kernel
theorem dX4_init_193 : decode cX4_init 193 = .ok (.putfield 81, 3) := by decide +kernel
theorem dX4_init_196 : decode cX4_init 196 = .ok (.aload_n 0, 1) := by decide +kernel
theorem dX4_init_197 : decode cX4_init 197 = .ok (.bipush 96, 2) := by decide +kernel
theorem dX4_init_199 : decode cX4_init 199 = .ok (.newarray .int, 2) := by decide +kernel
theorem dX4_init_201 : decode cX4_init 201 = .ok (.putfield 84, 3) := by decide +kernel
theorem dX4_init_204 : decode cX4_init 204 = .ok (.aload_n 0, 1) := by decide +kernel
theorem dX4_init_205 : decode cX4_init 205 = .ok (.bipush 96, 2) := by decide +kernel
theorem dX4_init_207 : decode cX4_init 207 = .ok (.newarray .int, 2) := by decide +kernel
theorem dX4_init_209 : decode cX4_init 209 = .ok (.putfield 87, 3) := by decide +kernel
theorem dX4_init_212 : decode cX4_init 212 = .ok (.aload_n 0, 1) := by decide +kernel
theorem dX4_init_213 : decode cX4_init 213 = .ok (.iconst 1, 1) := by decide +kernel
theorem dX4_init_214 : decode cX4_init 214 = .ok (.putfield 90, 3) := by decide +kernel
theorem dX4_init_217 : decode cX4_init 217 = .ok (.aload_n 0, 1) := by decide +kernel
theorem dX4_init_218 : decode cX4_init 218 = .ok (.sipush 625, 3) := by decide +kernel
theorem dX4_init_221 : decode cX4_init 221 = .ok (.newarray .boolean, 2) := by decide +kernel
theorem dX4_init_223 : decode cX4_init 223 = .ok (.putfield 94, 3) := by decide +kernel
theorem dX4_init_226 : decode cX4_init 226 = .ok (.aload_n 0, 1) := by decide +kernel
theorem dX4_init_227 : decode cX4_init 227 = .ok (.iconst 1, 1) := by decide +kernel
theorem dX4_init_228 : decode cX4_init 228 = .ok (.putfield 90, 3) := by decide +kernel
theorem dX4_init_231 : decode cX4_init 231 = .ok (.return_, 1) := by decide +kernel
theorem dX4_thrown_0 : decode cX4_thrown 0 = .ok (.aload_n 0, 1) := by decide +kernel
theorem dX4_thrown_1 : decode cX4_thrown 1 = .ok (.getfield 97, 3) := by decide +kernel
theorem dX4_thrown_4 : decode cX4_thrown 4 = .ok (.ireturn, 1) := by decide +kernel
theorem dX4_holds_0 : decode cX4_holds 0 = .ok (.aload_n 0, 1) := by decide +kernel
theorem dX4_holds_1 : decode cX4_holds 1 = .ok (.iload_n 1, 1) := by decide +kernel
theorem dX4_holds_2 : decode cX4_holds 2 = .ok (.putfield 97, 3) := by decide +kernel
theorem dX4_holds_5 : decode cX4_holds 5 = .ok (.iload_n 1, 1) := by decide +kernel
theorem dX4_holds_6 : decode cX4_holds 6 = .ok (.ifCond .ne 7, 3) := by decide +kernel
theorem dX4_holds_9 : decode cX4_holds 9 = .ok (.iconst 1, 1) := by decide +kernel
theorem dX4_holds_10 : decode cX4_holds 10 = .ok (.goto 4, 3) := by decide +kernel
theorem dX4_holds_13 : decode cX4_holds 13 = .ok (.iconst 0, 1) := by decide +kernel
theorem dX4_holds_14 : decode cX4_holds 14 = .ok (.ireturn, 1) := by decide +kernel
theorem dX4_isIn_0 : decode cX4_isIn 0 = .ok (.iload_n 0, 1) := by decide +kernel
theorem dX4_isIn_1 : decode cX4_isIn 1 = .ok (.iload_n 1, 1) := by decide +kernel
theorem dX4_isIn_2 : decode cX4_isIn 2 = .ok (.if_icmp .lt 12, 3) := by decide +kernel
theorem dX4_isIn_5 : decode cX4_isIn 5 = .ok (.iload_n 0, 1) := by decide +kernel
theorem dX4_isIn_6 : decode cX4_isIn 6 = .ok (.iload_n 2, 1) := by decide +kernel
theorem dX4_isIn_7 : decode cX4_isIn 7 = .ok (.if_icmp .gt 7, 3) := by decide +kernel
theorem dX4_isIn_10 : decode cX4_isIn 10 = .ok (.iconst 1, 1) := by decide +kernel
theorem dX4_isIn_11 : decode cX4_isIn 11 = .ok (.goto 4, 3) := by decide +kernel
theorem dX4_isIn_14 : decode cX4_isIn 14 = .ok (.iconst 0, 1) := by decide +kernel
theorem dX4_isIn_15 : decode cX4_isIn 15 = .ok (.ireturn, 1) := by decide +kernel
theorem dX4_isBeast_0 : decode cX4_isBeast 0 = .ok (.iload_n 1, 1) := by decide +kernel
theorem dX4_isBeast_1 : decode cX4_isBeast 1 = .ok (.iconst 0, 1) := by decide +kernel
theorem dX4_isBeast_2 : decode cX4_isBeast 2 = .ok (.aload_n 0, 1) := by decide +kernel
theorem dX4_isBeast_3 : decode cX4_isBeast 3 = .ok (.getfield 100, 3) := by decide +kernel
theorem dX4_isBeast_6 : decode cX4_isBeast 6 = .ok (.iconst 1, 1) := by decide +kernel
theorem dX4_isBeast_7 : decode cX4_isBeast 7 = .ok (.isub, 1) := by decide +kernel
theorem dX4_isBeast_8 : decode cX4_isBeast 8 = .ok (.invokestatic 103, 3) := by decide +kernel
theorem dX4_isBeast_11 : decode cX4_isBeast 11 = .ok (.ireturn, 1) := by decide +kernel
theorem dX4_isRider_0 : decode cX4_isRider 0 = .ok (.iload_n 1, 1) := by decide +kernel
theorem dX4_isRider_1 : decode cX4_isRider 1 = .ok (.iconst 0, 1) := by decide +kernel
theorem dX4_isRider_2 : decode cX4_isRider 2 = .ok (.aload_n 0, 1) := by decide +kernel
theorem dX4_isRider_3 : decode cX4_isRider 3 = .ok (.getfield 107, 3) := by decide +kernel
theorem dX4_isRider_6 : decode cX4_isRider 6 = .ok (.iconst 1, 1) := by decide +kernel
theorem dX4_isRider_7 : decode cX4_isRider 7 = .ok (.isub, 1) := by decide +kernel
theorem dX4_isRider_8 : decode cX4_isRider 8 = .ok (.invokestatic 103, 3) := by decide +kernel
theorem dX4_isRider_11 : decode cX4_isRider 11 = .ok (.ireturn, 1) := by decide +kernel
theorem dX4_isRodeo_0 : decode cX4_isRodeo 0 = .ok (.iload_n 1, 1) := by decide +kernel
theorem dX4_isRodeo_1 : decode cX4_isRodeo 1 = .ok (.iconst 0, 1) := by decide +kernel
theorem dX4_isRodeo_2 : decode cX4_isRodeo 2 = .ok (.aload_n 0, 1) := by decide +kernel
theorem dX4_isRodeo_3 : decode cX4_isRodeo 3 = .ok (.getfield 110, 3) := by decide +kernel
theorem dX4_isRodeo_6 : decode cX4_isRodeo 6 = .ok (.iconst 1, 1) := by decide +kernel
theorem dX4_isRodeo_7 : decode cX4_isRodeo 7 = .ok (.isub, 1) := by decide +kernel
theorem dX4_isRodeo_8 : decode cX4_isRodeo 8 = .ok (.invokestatic 103, 3) := by decide +kernel
theorem dX4_isRodeo_11 : decode cX4_isRodeo 11 = .ok (.ireturn, 1) := by decide +kernel
theorem dX4_at_0 : decode cX4_at 0 = .ok (.bipush 12, 2) := by decide +kernel
theorem dX4_at_2 : decode cX4_at 2 = .ok (.iload_n 0, 1) := by decide +kernel
theorem dX4_at_3 : decode cX4_at 3 = .ok (.imul, 1) := by decide +kernel
theorem dX4_at_4 : decode cX4_at 4 = .ok (.iload_n 1, 1) := by decide +kernel
theorem dX4_at_5 : decode cX4_at 5 = .ok (.iadd, 1) := by decide +kernel
theorem dX4_at_6 : decode cX4_at 6 = .ok (.ireturn, 1) := by decide +kernel
theorem dX4_apart_0 : decode cX4_apart 0 = .ok (.iload_n 0, 1) := by decide +kernel
theorem dX4_apart_1 : decode cX4_apart 1 = .ok (.iload_n 1, 1) := by decide +kernel
theorem dX4_apart_2 : decode cX4_apart 2 = .ok (.if_icmp .ge 9, 3) := by decide +kernel
theorem dX4_apart_5 : decode cX4_apart 5 = .ok (.iload_n 1, 1) := by decide +kernel
theorem dX4_apart_6 : decode cX4_apart 6 = .ok (.iload_n 0, 1) := by decide +kernel
theorem dX4_apart_7 : decode cX4_apart 7 = .ok (.isub, 1) := by decide +kernel
theorem dX4_apart_8 : decode cX4_apart 8 = .ok (.goto 6, 3) := by decide +kernel
theorem dX4_apart_11 : decode cX4_apart 11 = .ok (.iload_n 0, 1) := by decide +kernel
theorem dX4_apart_12 : decode cX4_apart 12 = .ok (.iload_n 1, 1) := by decide +kernel
theorem dX4_apart_13 : decode cX4_apart 13 = .ok (.isub, 1) := by decide +kernel
theorem dX4_apart_14 : decode cX4_apart 14 = .ok (.ireturn, 1) := by decide +kernel
theorem dX4_beast_0 : decode cX4_beast 0 = .ok (.aload_n 0, 1) := by decide +kernel
theorem dX4_beast_1 : decode cX4_beast 1 = .ok (.iload_n 1, 1) := by decide +kernel
theorem dX4_beast_2 : decode cX4_beast 2 = .ok (.iconst 0, 1) := by decide +kernel
theorem dX4_beast_3 : decode cX4_beast 3 = .ok (.iconst 1, 1) := by decide +kernel
theorem dX4_beast_4 : decode cX4_beast 4 = .ok (.invokestatic 103, 3) := by decide +kernel
theorem dX4_beast_7 : decode cX4_beast 7 = .ok (.ifCond .ne 7, 3) := by decide +kernel
theorem dX4_beast_10 : decode cX4_beast 10 = .ok (.iconst 1, 1) := by decide +kernel
theorem dX4_beast_11 : decode cX4_beast 11 = .ok (.goto 17, 3) := by decide +kernel
theorem dX4_beast_14 : decode cX4_beast 14 = .ok (.aload_n 0, 1) := by decide +kernel
theorem dX4_beast_15 : decode cX4_beast 15 = .ok (.getfield 100, 3) := by decide +kernel
theorem dX4_beast_18 : decode cX4_beast 18 = .ok (.bipush 16, 2) := by decide +kernel
theorem dX4_beast_20 : decode cX4_beast 20 = .ok (.if_icmp .ne 7, 3) := by decide +kernel
theorem dX4_beast_23 : decode cX4_beast 23 = .ok (.iconst 2, 1) := by decide +kernel
theorem dX4_beast_24 : decode cX4_beast 24 = .ok (.goto 4, 3) := by decide +kernel
theorem dX4_beast_27 : decode cX4_beast 27 = .ok (.iconst 0, 1) := by decide +kernel
theorem dX4_beast_28 : decode cX4_beast 28 = .ok (.invokevirtual 113, 3) := by decide +kernel
theorem dX4_beast_31 : decode cX4_beast 31 = .ok (.ifCond .ne 5, 3) := by decide +kernel
theorem dX4_beast_34 : decode cX4_beast 34 = .ok (.iconst 0, 1) := by decide +kernel
theorem dX4_beast_35 : decode cX4_beast 35 = .ok (.ireturn, 1) := by decide +kernel
theorem dX4_beast_36 : decode cX4_beast 36 = .ok (.aload_n 0, 1) := by decide +kernel
theorem dX4_beast_37 : decode cX4_beast 37 = .ok (.getfield 7, 3) := by decide +kernel
theorem dX4_beast_40 : decode cX4_beast 40 = .ok (.aload_n 0, 1) := by decide +kernel
theorem dX4_beast_41 : decode cX4_beast 41 = .ok (.getfield 100, 3) := by decide +kernel
theorem dX4_beast_44 : decode cX4_beast 44 = .ok (.iload_n 1, 1) := by decide +kernel
theorem dX4_beast_45 : decode cX4_beast 45 = .ok (.iastore, 1) := by decide +kernel
theorem dX4_beast_46 : decode cX4_beast 46 = .ok (.aload_n 0, 1) := by decide +kernel
theorem dX4_beast_47 : decode cX4_beast 47 = .ok (.dup, 1) := by decide +kernel
theorem dX4_beast_48 : decode cX4_beast 48 = .ok (.getfield 100, 3) := by decide +kernel
theorem dX4_beast_51 : decode cX4_beast 51 = .ok (.iconst 1, 1) := by decide +kernel
theorem dX4_beast_52 : decode cX4_beast 52 = .ok (.iadd, 1) := by decide +kernel
theorem dX4_beast_53 : decode cX4_beast 53 = .ok (.putfield 100, 3) := by decide +kernel
theorem dX4_beast_56 : decode cX4_beast 56 = .ok (.aload_n 0, 1) := by decide +kernel
theorem dX4_beast_57 : decode cX4_beast 57 = .ok (.getfield 100, 3) := by decide +kernel
theorem dX4_beast_60 : decode cX4_beast 60 = .ok (.iconst 1, 1) := by decide +kernel
theorem dX4_beast_61 : decode cX4_beast 61 = .ok (.isub, 1) := by decide +kernel
theorem dX4_beast_62 : decode cX4_beast 62 = .ok (.ireturn, 1) := by decide +kernel
theorem dX4_rider_0 : decode cX4_rider 0 = .ok (.aload_n 0, 1) := by decide +kernel
theorem dX4_rider_1 : decode cX4_rider 1 = .ok (.aload_n 0, 1) := by decide +kernel
theorem dX4_rider_2 : decode cX4_rider 2 = .ok (.getfield 107, 3) := by decide +kernel
theorem dX4_rider_5 : decode cX4_rider 5 = .ok (.bipush 12, 2) := by decide +kernel
theorem dX4_rider_7 : decode cX4_rider 7 = .ok (.if_icmp .ne 7, 3) := by decide +kernel
theorem dX4_rider_10 : decode cX4_rider 10 = .ok (.iconst 1, 1) := by decide +kernel
theorem dX4_rider_11 : decode cX4_rider 11 = .ok (.goto 4, 3) := by decide +kernel
theorem dX4_rider_14 : decode cX4_rider 14 = .ok (.iconst 0, 1) := by decide +kernel
theorem dX4_rider_15 : decode cX4_rider 15 = .ok (.invokevirtual 113, 3) := by decide +kernel
theorem dX4_rider_18 : decode cX4_rider 18 = .ok (.ifCond .ne 5, 3) := by decide +kernel
theorem dX4_rider_21 : decode cX4_rider 21 = .ok (.iconst 0, 1) := by decide +kernel
theorem dX4_rider_22 : decode cX4_rider 22 = .ok (.ireturn, 1) := by decide +kernel
theorem dX4_rider_23 : decode cX4_rider 23 = .ok (.aload_n 0, 1) := by decide +kernel
theorem dX4_rider_24 : decode cX4_rider 24 = .ok (.dup, 1) := by decide +kernel
theorem dX4_rider_25 : decode cX4_rider 25 = .ok (.getfield 107, 3) := by decide +kernel
theorem dX4_rider_28 : decode cX4_rider 28 = .ok (.iconst 1, 1) := by decide +kernel
theorem dX4_rider_29 : decode cX4_rider 29 = .ok (.iadd, 1) := by decide +kernel
theorem dX4_rider_30 : decode cX4_rider 30 = .ok (.putfield 107, 3) := by decide +kernel
theorem dX4_rider_33 : decode cX4_rider 33 = .ok (.aload_n 0, 1) := by decide +kernel
theorem dX4_rider_34 : decode cX4_rider 34 = .ok (.getfield 107, 3) := by decide +kernel
theorem dX4_rider_37 : decode cX4_rider 37 = .ok (.iconst 1, 1) := by decide +kernel
theorem dX4_rider_38 : decode cX4_rider 38 = .ok (.isub, 1) := by decide +kernel
theorem dX4_rider_39 : decode cX4_rider 39 = .ok (.ireturn, 1) := by decide +kernel
theorem dX4_rodeo_0 : decode cX4_rodeo 0 = .ok (.iload_n 1, 1) := by decide +kernel
theorem dX4_rodeo_1 : decode cX4_rodeo 1 = .ok (.iconst 0, 1) := by decide +kernel
theorem dX4_rodeo_2 : decode cX4_rodeo 2 = .ok (.iconst 1, 1) := by decide +kernel
theorem dX4_rodeo_3 : decode cX4_rodeo 3 = .ok (.invokestatic 103, 3) := by decide +kernel
theorem dX4_rodeo_6 : decode cX4_rodeo 6 = .ok (.ifCond .eq 38, 3) := by decide +kernel
theorem dX4_rodeo_9 : decode cX4_rodeo 9 = .ok (.iload_n 2, 1) := by decide +kernel
theorem dX4_rodeo_10 : decode cX4_rodeo 10 = .ok (.iconst 0, 1) := by decide +kernel
theorem dX4_rodeo_11 : decode cX4_rodeo 11 = .ok (.sipush 2000, 3) := by decide +kernel
theorem dX4_rodeo_14 : decode cX4_rodeo 14 = .ok (.invokestatic 103, 3) := by decide +kernel
theorem dX4_rodeo_17 : decode cX4_rodeo 17 = .ok (.ifCond .eq 27, 3) := by decide +kernel
theorem dX4_rodeo_20 : decode cX4_rodeo 20 = .ok (.iload_n 3, 1) := by decide +kernel
theorem dX4_rodeo_21 : decode cX4_rodeo 21 = .ok (.iconst 0, 1) := by decide +kernel
theorem dX4_rodeo_22 : decode cX4_rodeo 22 = .ok (.bipush 60, 2) := by decide +kernel
theorem dX4_rodeo_24 : decode cX4_rodeo 24 = .ok (.invokestatic 103, 3) := by decide +kernel
theorem dX4_rodeo_27 : decode cX4_rodeo 27 = .ok (.ifCond .eq 17, 3) := by decide +kernel
theorem dX4_rodeo_30 : decode cX4_rodeo 30 = .ok (.iload 4, 2) := by decide +kernel
theorem dX4_rodeo_32 : decode cX4_rodeo 32 = .ok (.iconst 1, 1) := by decide +kernel
theorem dX4_rodeo_33 : decode cX4_rodeo 33 = .ok (.iconst 4, 1) := by decide +kernel
theorem dX4_rodeo_34 : decode cX4_rodeo 34 = .ok (.invokestatic 103, 3) := by decide +kernel
theorem dX4_rodeo_37 : decode cX4_rodeo 37 = .ok (.ifCond .eq 7, 3) := by decide +kernel
theorem dX4_rodeo_40 : decode cX4_rodeo 40 = .ok (.iconst 1, 1) := by decide +kernel
theorem dX4_rodeo_41 : decode cX4_rodeo 41 = .ok (.goto 4, 3) := by decide +kernel
theorem dX4_rodeo_44 : decode cX4_rodeo 44 = .ok (.iconst 0, 1) := by decide +kernel
theorem dX4_rodeo_45 : decode cX4_rodeo 45 = .ok (.istore 8, 2) := by decide +kernel
theorem dX4_rodeo_47 : decode cX4_rodeo 47 = .ok (.iload 5, 2) := by decide +kernel
theorem dX4_rodeo_49 : decode cX4_rodeo 49 = .ok (.iconst 1, 1) := by decide +kernel
theorem dX4_rodeo_50 : decode cX4_rodeo 50 = .ok (.iconst 4, 1) := by decide +kernel
theorem dX4_rodeo_51 : decode cX4_rodeo 51 = .ok (.invokestatic 103, 3) := by decide +kernel
theorem dX4_rodeo_54 : decode cX4_rodeo 54 = .ok (.ifCond .eq 30, 3) := by decide +kernel
theorem dX4_rodeo_57 : decode cX4_rodeo 57 = .ok (.iload 6, 2) := by decide +kernel
theorem dX4_rodeo_59 : decode cX4_rodeo 59 = .ok (.iconst 0, 1) := by decide +kernel
theorem dX4_rodeo_60 : decode cX4_rodeo 60 = .ok (.ldc 117, 2) := by decide +kernel
theorem dX4_rodeo_62 : decode cX4_rodeo 62 = .ok (.invokestatic 103, 3) := by decide +kernel
theorem dX4_rodeo_65 : decode cX4_rodeo 65 = .ok (.ifCond .eq 19, 3) := by decide +kernel
theorem dX4_rodeo_68 : decode cX4_rodeo 68 = .ok (.iload 7, 2) := by decide +kernel
theorem dX4_rodeo_70 : decode cX4_rodeo 70 = .ok (.iconst 0, 1) := by decide +kernel
theorem dX4_rodeo_71 : decode cX4_rodeo 71 = .ok (.sipush 999, 3) := by decide +kernel
theorem dX4_rodeo_74 : decode cX4_rodeo 74 = .ok (.invokestatic 103, 3) := by decide +kernel
theorem dX4_rodeo_77 : decode cX4_rodeo 77 = .ok (.ifCond .eq 7, 3) := by decide +kernel
theorem dX4_rodeo_80 : decode cX4_rodeo 80 = .ok (.iconst 1, 1) := by decide +kernel
theorem dX4_rodeo_81 : decode cX4_rodeo 81 = .ok (.goto 4, 3) := by decide +kernel
theorem dX4_rodeo_84 : decode cX4_rodeo 84 = .ok (.iconst 0, 1) := by decide +kernel
theorem dX4_rodeo_85 : decode cX4_rodeo 85 = .ok (.istore 9, 2) := by decide +kernel
theorem dX4_rodeo_87 : decode cX4_rodeo 87 = .ok (.aload_n 0, 1) := by decide +kernel
theorem dX4_rodeo_88 : decode cX4_rodeo 88 = .ok (.iload 8, 2) := by decide +kernel
theorem dX4_rodeo_90 : decode cX4_rodeo 90 = .ok (.ifCond .eq 8, 3) := by decide +kernel
theorem dX4_rodeo_93 : decode cX4_rodeo 93 = .ok (.iload 9, 2) := by decide +kernel
theorem dX4_rodeo_95 : decode cX4_rodeo 95 = .ok (.ifCond .ne 7, 3) := by decide +kernel
theorem dX4_rodeo_98 : decode cX4_rodeo 98 = .ok (.iconst 1, 1) := by decide +kernel
theorem dX4_rodeo_99 : decode cX4_rodeo 99 = .ok (.goto 17, 3) := by decide +kernel
theorem dX4_rodeo_102 : decode cX4_rodeo 102 = .ok (.aload_n 0, 1) := by decide +kernel
theorem dX4_rodeo_103 : decode cX4_rodeo 103 = .ok (.getfield 110, 3) := by decide +kernel
theorem dX4_rodeo_106 : decode cX4_rodeo 106 = .ok (.bipush 8, 2) := by decide +kernel
theorem dX4_rodeo_108 : decode cX4_rodeo 108 = .ok (.if_icmp .ne 7, 3) := by decide +kernel
theorem dX4_rodeo_111 : decode cX4_rodeo 111 = .ok (.iconst 2, 1) := by decide +kernel
theorem dX4_rodeo_112 : decode cX4_rodeo 112 = .ok (.goto 4, 3) := by decide +kernel
theorem dX4_rodeo_115 : decode cX4_rodeo 115 = .ok (.iconst 0, 1) := by decide +kernel
theorem dX4_rodeo_116 : decode cX4_rodeo 116 = .ok (.invokevirtual 113, 3) := by decide +kernel
theorem dX4_rodeo_119 : decode cX4_rodeo 119 = .ok (.ifCond .ne 5, 3) := by decide +kernel
theorem dX4_rodeo_122 : decode cX4_rodeo 122 = .ok (.iconst 0, 1) := by decide +kernel
theorem dX4_rodeo_123 : decode cX4_rodeo 123 = .ok (.ireturn, 1) := by decide +kernel
theorem dX4_rodeo_124 : decode cX4_rodeo 124 = .ok (.aload_n 0, 1) := by decide +kernel
theorem dX4_rodeo_125 : decode cX4_rodeo 125 = .ok (.getfield 110, 3) := by decide +kernel
theorem dX4_rodeo_128 : decode cX4_rodeo 128 = .ok (.istore 10, 2) := by decide +kernel
theorem dX4_rodeo_130 : decode cX4_rodeo 130 = .ok (.aload_n 0, 1) := by decide +kernel
theorem dX4_rodeo_131 : decode cX4_rodeo 131 = .ok (.getfield 26, 3) := by decide +kernel
theorem dX4_rodeo_134 : decode cX4_rodeo 134 = .ok (.iload 10, 2) := by decide +kernel
theorem dX4_rodeo_136 : decode cX4_rodeo 136 = .ok (.iload_n 1, 1) := by decide +kernel
theorem dX4_rodeo_137 : decode cX4_rodeo 137 = .ok (.iastore, 1) := by decide +kernel
theorem dX4_rodeo_138 : decode cX4_rodeo 138 = .ok (.aload_n 0, 1) := by decide +kernel
theorem dX4_rodeo_139 : decode cX4_rodeo 139 = .ok (.getfield 29, 3) := by decide +kernel
theorem dX4_rodeo_142 : decode cX4_rodeo 142 = .ok (.iload 10, 2) := by decide +kernel
theorem dX4_rodeo_144 : decode cX4_rodeo 144 = .ok (.iload_n 2, 1) := by decide +kernel
theorem dX4_rodeo_145 : decode cX4_rodeo 145 = .ok (.iastore, 1) := by decide +kernel
theorem dX4_rodeo_146 : decode cX4_rodeo 146 = .ok (.aload_n 0, 1) := by decide +kernel
theorem dX4_rodeo_147 : decode cX4_rodeo 147 = .ok (.getfield 32, 3) := by decide +kernel
theorem dX4_rodeo_150 : decode cX4_rodeo 150 = .ok (.iload 10, 2) := by decide +kernel
theorem dX4_rodeo_152 : decode cX4_rodeo 152 = .ok (.iload_n 3, 1) := by decide +kernel
theorem dX4_rodeo_153 : decode cX4_rodeo 153 = .ok (.iastore, 1) := by decide +kernel
theorem dX4_rodeo_154 : decode cX4_rodeo 154 = .ok (.aload_n 0, 1) := by decide +kernel
theorem dX4_rodeo_155 : decode cX4_rodeo 155 = .ok (.getfield 35, 3) := by decide +kernel
theorem dX4_rodeo_158 : decode cX4_rodeo 158 = .ok (.iload 10, 2) := by decide +kernel
theorem dX4_rodeo_160 : decode cX4_rodeo 160 = .ok (.iload 4, 2) := by decide +kernel
theorem dX4_rodeo_162 : decode cX4_rodeo 162 = .ok (.iastore, 1) := by decide +kernel
theorem dX4_rodeo_163 : decode cX4_rodeo 163 = .ok (.aload_n 0, 1) := by decide +kernel
theorem dX4_rodeo_164 : decode cX4_rodeo 164 = .ok (.getfield 38, 3) := by decide +kernel
theorem dX4_rodeo_167 : decode cX4_rodeo 167 = .ok (.iload 10, 2) := by decide +kernel
theorem dX4_rodeo_169 : decode cX4_rodeo 169 = .ok (.iload 5, 2) := by decide +kernel
theorem dX4_rodeo_171 : decode cX4_rodeo 171 = .ok (.iastore, 1) := by decide +kernel
theorem dX4_rodeo_172 : decode cX4_rodeo 172 = .ok (.aload_n 0, 1) := by decide +kernel
theorem dX4_rodeo_173 : decode cX4_rodeo 173 = .ok (.getfield 41, 3) := by decide +kernel
theorem dX4_rodeo_176 : decode cX4_rodeo 176 = .ok (.iload 10, 2) := by decide +kernel
theorem dX4_rodeo_178 : decode cX4_rodeo 178 = .ok (.iload 6, 2) := by decide +kernel
theorem dX4_rodeo_180 : decode cX4_rodeo 180 = .ok (.iastore, 1) := by decide +kernel
theorem dX4_rodeo_181 : decode cX4_rodeo 181 = .ok (.aload_n 0, 1) := by decide +kernel
theorem dX4_rodeo_182 : decode cX4_rodeo 182 = .ok (.getfield 44, 3) := by decide +kernel
theorem dX4_rodeo_185 : decode cX4_rodeo 185 = .ok (.iload 10, 2) := by decide +kernel
theorem dX4_rodeo_187 : decode cX4_rodeo 187 = .ok (.iload 7, 2) := by decide +kernel
theorem dX4_rodeo_189 : decode cX4_rodeo 189 = .ok (.iastore, 1) := by decide +kernel
theorem dX4_rodeo_190 : decode cX4_rodeo 190 = .ok (.iload 10, 2) := by decide +kernel
theorem dX4_rodeo_192 : decode cX4_rodeo 192 = .ok (.iconst 0, 1) := by decide +kernel
theorem dX4_rodeo_193 : decode cX4_rodeo 193 = .ok (.invokestatic 118, 3) := by decide +kernel
theorem dX4_rodeo_196 : decode cX4_rodeo 196 = .ok (.istore 11, 2) := by decide +kernel
theorem dX4_rodeo_198 : decode cX4_rodeo 198 = .ok (.iload 11, 2) := by decide +kernel
theorem dX4_rodeo_200 : decode cX4_rodeo 200 = .ok (.iload 10, 2) := by decide +kernel
theorem dX4_rodeo_202 : decode cX4_rodeo 202 = .ok (.iconst 1, 1) := by decide +kernel
theorem dX4_rodeo_203 : decode cX4_rodeo 203 = .ok (.iadd, 1) := by decide +kernel
theorem dX4_rodeo_204 : decode cX4_rodeo 204 = .ok (.iconst 0, 1) := by decide +kernel
theorem dX4_rodeo_205 : decode cX4_rodeo 205 = .ok (.invokestatic 118, 3) := by decide +kernel
theorem dX4_rodeo_208 : decode cX4_rodeo 208 = .ok (.if_icmp .ge 33, 3) := by decide +kernel
theorem dX4_rodeo_211 : decode cX4_rodeo 211 = .ok (.aload_n 0, 1) := by decide +kernel
theorem dX4_rodeo_212 : decode cX4_rodeo 212 = .ok (.getfield 65, 3) := by decide +kernel
theorem dX4_rodeo_215 : decode cX4_rodeo 215 = .ok (.iload 11, 2) := by decide +kernel
theorem dX4_rodeo_217 : decode cX4_rodeo 217 = .ok (.iconst (-1), 1) := by decide +kernel
theorem dX4_rodeo_218 : decode cX4_rodeo 218 = .ok (.iastore, 1) := by decide +kernel
theorem dX4_rodeo_219 : decode cX4_rodeo 219 = .ok (.aload_n 0, 1) := by decide +kernel
theorem dX4_rodeo_220 : decode cX4_rodeo 220 = .ok (.getfield 68, 3) := by decide +kernel
theorem dX4_rodeo_223 : decode cX4_rodeo 223 = .ok (.iload 11, 2) := by decide +kernel
theorem dX4_rodeo_225 : decode cX4_rodeo 225 = .ok (.iconst (-1), 1) := by decide +kernel
theorem dX4_rodeo_226 : decode cX4_rodeo 226 = .ok (.iastore, 1) := by decide +kernel
theorem dX4_rodeo_227 : decode cX4_rodeo 227 = .ok (.aload_n 0, 1) := by decide +kernel
theorem dX4_rodeo_228 : decode cX4_rodeo 228 = .ok (.getfield 84, 3) := by decide +kernel
theorem dX4_rodeo_231 : decode cX4_rodeo 231 = .ok (.iload 11, 2) := by decide +kernel
theorem dX4_rodeo_233 : decode cX4_rodeo 233 = .ok (.iconst (-1), 1) := by decide +kernel
theorem dX4_rodeo_234 : decode cX4_rodeo 234 = .ok (.iastore, 1) := by decide +kernel
theorem dX4_rodeo_235 : decode cX4_rodeo 235 = .ok (.iinc 11 1, 3) := by decide +kernel
theorem dX4_rodeo_238 : decode cX4_rodeo 238 = .ok (.goto (-40), 3) := by decide +kernel
theorem dX4_rodeo_241 : decode cX4_rodeo 241 = .ok (.aload_n 0, 1) := by decide +kernel
theorem dX4_rodeo_242 : decode cX4_rodeo 242 = .ok (.dup, 1) := by decide +kernel
theorem dX4_rodeo_243 : decode cX4_rodeo 243 = .ok (.getfield 110, 3) := by decide +kernel
theorem dX4_rodeo_246 : decode cX4_rodeo 246 = .ok (.iconst 1, 1) := by decide +kernel
theorem dX4_rodeo_247 : decode cX4_rodeo 247 = .ok (.iadd, 1) := by decide +kernel
theorem dX4_rodeo_248 : decode cX4_rodeo 248 = .ok (.putfield 110, 3) := by decide +kernel
theorem dX4_rodeo_251 : decode cX4_rodeo 251 = .ok (.iload 10, 2) := by decide +kernel
theorem dX4_rodeo_253 : decode cX4_rodeo 253 = .ok (.ireturn, 1) := by decide +kernel
theorem dX4_placedIn_0 : decode cX4_placedIn 0 = .ok (.iconst 0, 1) := by decide +kernel
theorem dX4_placedIn_1 : decode cX4_placedIn 1 = .ok (.istore_n 2, 1) := by decide +kernel
theorem dX4_placedIn_2 : decode cX4_placedIn 2 = .ok (.iload_n 1, 1) := by decide +kernel
theorem dX4_placedIn_3 : decode cX4_placedIn 3 = .ok (.iconst 0, 1) := by decide +kernel
theorem dX4_placedIn_4 : decode cX4_placedIn 4 = .ok (.invokestatic 118, 3) := by decide +kernel
theorem dX4_placedIn_7 : decode cX4_placedIn 7 = .ok (.istore_n 3, 1) := by decide +kernel
theorem dX4_placedIn_8 : decode cX4_placedIn 8 = .ok (.iload_n 3, 1) := by decide +kernel
theorem dX4_placedIn_9 : decode cX4_placedIn 9 = .ok (.iload_n 1, 1) := by decide +kernel
theorem dX4_placedIn_10 : decode cX4_placedIn 10 = .ok (.iconst 1, 1) := by decide +kernel
theorem dX4_placedIn_11 : decode cX4_placedIn 11 = .ok (.iadd, 1) := by decide +kernel
theorem dX4_placedIn_12 : decode cX4_placedIn 12 = .ok (.iconst 0, 1) := by decide +kernel
theorem dX4_placedIn_13 : decode cX4_placedIn 13 = .ok (.invokestatic 118, 3) := by decide +kernel
theorem dX4_placedIn_16 : decode cX4_placedIn 16 = .ok (.if_icmp .ge 27, 3) := by decide +kernel
theorem dX4_placedIn_19 : decode cX4_placedIn 19 = .ok (.iload_n 2, 1) := by decide +kernel
theorem dX4_placedIn_20 : decode cX4_placedIn 20 = .ok (.aload_n 0, 1) := by decide +kernel
theorem dX4_placedIn_21 : decode cX4_placedIn 21 = .ok (.getfield 65, 3) := by decide +kernel
theorem dX4_placedIn_24 : decode cX4_placedIn 24 = .ok (.iload_n 3, 1) := by decide +kernel
theorem dX4_placedIn_25 : decode cX4_placedIn 25 = .ok (.iaload, 1) := by decide +kernel
theorem dX4_placedIn_26 : decode cX4_placedIn 26 = .ok (.iconst (-1), 1) := by decide +kernel
theorem dX4_placedIn_27 : decode cX4_placedIn 27 = .ok (.if_icmp .ne 7, 3) := by decide +kernel
theorem dX4_placedIn_30 : decode cX4_placedIn 30 = .ok (.iconst 0, 1) := by decide +kernel
theorem dX4_placedIn_31 : decode cX4_placedIn 31 = .ok (.goto 4, 3) := by decide +kernel
theorem dX4_placedIn_34 : decode cX4_placedIn 34 = .ok (.iconst 1, 1) := by decide +kernel
theorem dX4_placedIn_35 : decode cX4_placedIn 35 = .ok (.iadd, 1) := by decide +kernel
theorem dX4_placedIn_36 : decode cX4_placedIn 36 = .ok (.istore_n 2, 1) := by decide +kernel
theorem dX4_placedIn_37 : decode cX4_placedIn 37 = .ok (.iinc 3 1, 3) := by decide +kernel
theorem dX4_placedIn_40 : decode cX4_placedIn 40 = .ok (.goto (-32), 3) := by decide +kernel
theorem dX4_placedIn_43 : decode cX4_placedIn 43 = .ok (.iload_n 2, 1) := by decide +kernel
theorem dX4_placedIn_44 : decode cX4_placedIn 44 = .ok (.ireturn, 1) := by decide +kernel
theorem dX4_pot_0 : decode cX4_pot 0 = .ok (.aload_n 0, 1) := by decide +kernel
theorem dX4_pot_1 : decode cX4_pot 1 = .ok (.getfield 47, 3) := by decide +kernel
theorem dX4_pot_4 : decode cX4_pot 4 = .ok (.iload_n 1, 1) := by decide +kernel
theorem dX4_pot_5 : decode cX4_pot 5 = .ok (.iaload, 1) := by decide +kernel
theorem dX4_pot_6 : decode cX4_pot 6 = .ok (.ifCond .ne 7, 3) := by decide +kernel
theorem dX4_pot_9 : decode cX4_pot 9 = .ok (.iconst 0, 1) := by decide +kernel
theorem dX4_pot_10 : decode cX4_pot 10 = .ok (.goto 22, 3) := by decide +kernel
theorem dX4_pot_13 : decode cX4_pot 13 = .ok (.aload_n 0, 1) := by decide +kernel
theorem dX4_pot_14 : decode cX4_pot 14 = .ok (.getfield 41, 3) := by decide +kernel
theorem dX4_pot_17 : decode cX4_pot 17 = .ok (.iload_n 1, 1) := by decide +kernel
theorem dX4_pot_18 : decode cX4_pot 18 = .ok (.iaload, 1) := by decide +kernel
theorem dX4_pot_19 : decode cX4_pot 19 = .ok (.aload_n 0, 1) := by decide +kernel
theorem dX4_pot_20 : decode cX4_pot 20 = .ok (.getfield 44, 3) := by decide +kernel
theorem dX4_pot_23 : decode cX4_pot 23 = .ok (.iload_n 1, 1) := by decide +kernel
theorem dX4_pot_24 : decode cX4_pot 24 = .ok (.iaload, 1) := by decide +kernel
theorem dX4_pot_25 : decode cX4_pot 25 = .ok (.aload_n 0, 1) := by decide +kernel
theorem dX4_pot_26 : decode cX4_pot 26 = .ok (.iload_n 1, 1) := by decide +kernel
theorem dX4_pot_27 : decode cX4_pot 27 = .ok (.invokevirtual 122, 3) := by decide +kernel
theorem dX4_pot_30 : decode cX4_pot 30 = .ok (.imul, 1) := by decide +kernel
theorem dX4_pot_31 : decode cX4_pot 31 = .ok (.iadd, 1) := by decide +kernel
theorem dX4_pot_32 : decode cX4_pot 32 = .ok (.ireturn, 1) := by decide +kernel
theorem dX4_tells_0 : decode cX4_tells 0 = .ok (.iload_n 2, 1) := by decide +kernel
theorem dX4_tells_1 : decode cX4_tells 1 = .ok (.tableswitch 57 0 3 #[31, 38, 45, 51], 31) := by decide +kernel
theorem dX4_tells_32 : decode cX4_tells 32 = .ok (.aload_n 0, 1) := by decide +kernel
theorem dX4_tells_33 : decode cX4_tells 33 = .ok (.getfield 47, 3) := by decide +kernel
theorem dX4_tells_36 : decode cX4_tells 36 = .ok (.iload_n 1, 1) := by decide +kernel
theorem dX4_tells_37 : decode cX4_tells 37 = .ok (.iaload, 1) := by decide +kernel
theorem dX4_tells_38 : decode cX4_tells 38 = .ok (.ireturn, 1) := by decide +kernel
theorem dX4_tells_39 : decode cX4_tells 39 = .ok (.aload_n 0, 1) := by decide +kernel
theorem dX4_tells_40 : decode cX4_tells 40 = .ok (.getfield 53, 3) := by decide +kernel
theorem dX4_tells_43 : decode cX4_tells 43 = .ok (.iload_n 1, 1) := by decide +kernel
theorem dX4_tells_44 : decode cX4_tells 44 = .ok (.iaload, 1) := by decide +kernel
theorem dX4_tells_45 : decode cX4_tells 45 = .ok (.ireturn, 1) := by decide +kernel
theorem dX4_tells_46 : decode cX4_tells 46 = .ok (.aload_n 0, 1) := by decide +kernel
theorem dX4_tells_47 : decode cX4_tells 47 = .ok (.iload_n 1, 1) := by decide +kernel
theorem dX4_tells_48 : decode cX4_tells 48 = .ok (.invokevirtual 122, 3) := by decide +kernel
theorem dX4_tells_51 : decode cX4_tells 51 = .ok (.ireturn, 1) := by decide +kernel
theorem dX4_tells_52 : decode cX4_tells 52 = .ok (.aload_n 0, 1) := by decide +kernel
theorem dX4_tells_53 : decode cX4_tells 53 = .ok (.iload_n 1, 1) := by decide +kernel
theorem dX4_tells_54 : decode cX4_tells 54 = .ok (.invokevirtual 126, 3) := by decide +kernel
theorem dX4_tells_57 : decode cX4_tells 57 = .ok (.ireturn, 1) := by decide +kernel
theorem dX4_tells_58 : decode cX4_tells 58 = .ok (.aload_n 0, 1) := by decide +kernel
theorem dX4_tells_59 : decode cX4_tells 59 = .ok (.getfield 50, 3) := by decide +kernel
theorem dX4_tells_62 : decode cX4_tells 62 = .ok (.iload_n 1, 1) := by decide +kernel
theorem dX4_tells_63 : decode cX4_tells 63 = .ok (.iaload, 1) := by decide +kernel
theorem dX4_tells_64 : decode cX4_tells 64 = .ok (.ireturn, 1) := by decide +kernel
theorem dX4_rodeoIs_0 : decode cX4_rodeoIs 0 = .ok (.aload_n 0, 1) := by decide +kernel
theorem dX4_rodeoIs_1 : decode cX4_rodeoIs 1 = .ok (.iload_n 1, 1) := by decide +kernel
theorem dX4_rodeoIs_2 : decode cX4_rodeoIs 2 = .ok (.invokevirtual 129, 3) := by decide +kernel
theorem dX4_rodeoIs_5 : decode cX4_rodeoIs 5 = .ok (.istore_n 3, 1) := by decide +kernel
theorem dX4_rodeoIs_6 : decode cX4_rodeoIs 6 = .ok (.aload_n 0, 1) := by decide +kernel
theorem dX4_rodeoIs_7 : decode cX4_rodeoIs 7 = .ok (.iload_n 3, 1) := by decide +kernel
theorem dX4_rodeoIs_8 : decode cX4_rodeoIs 8 = .ok (.ifCond .ne 7, 3) := by decide +kernel
theorem dX4_rodeoIs_11 : decode cX4_rodeoIs 11 = .ok (.iconst 1, 1) := by decide +kernel
theorem dX4_rodeoIs_12 : decode cX4_rodeoIs 12 = .ok (.goto 17, 3) := by decide +kernel
theorem dX4_rodeoIs_15 : decode cX4_rodeoIs 15 = .ok (.iload_n 2, 1) := by decide +kernel
theorem dX4_rodeoIs_16 : decode cX4_rodeoIs 16 = .ok (.iconst 0, 1) := by decide +kernel
theorem dX4_rodeoIs_17 : decode cX4_rodeoIs 17 = .ok (.iconst 4, 1) := by decide +kernel
theorem dX4_rodeoIs_18 : decode cX4_rodeoIs 18 = .ok (.invokestatic 103, 3) := by decide +kernel
theorem dX4_rodeoIs_21 : decode cX4_rodeoIs 21 = .ok (.ifCond .ne 7, 3) := by decide +kernel
theorem dX4_rodeoIs_24 : decode cX4_rodeoIs 24 = .ok (.iconst 2, 1) := by decide +kernel
theorem dX4_rodeoIs_25 : decode cX4_rodeoIs 25 = .ok (.goto 4, 3) := by decide +kernel
theorem dX4_rodeoIs_28 : decode cX4_rodeoIs 28 = .ok (.iconst 0, 1) := by decide +kernel
theorem dX4_rodeoIs_29 : decode cX4_rodeoIs 29 = .ok (.invokevirtual 113, 3) := by decide +kernel
theorem dX4_rodeoIs_32 : decode cX4_rodeoIs 32 = .ok (.ifCond .eq 12, 3) := by decide +kernel
theorem dX4_rodeoIs_35 : decode cX4_rodeoIs 35 = .ok (.aload_n 0, 1) := by decide +kernel
theorem dX4_rodeoIs_36 : decode cX4_rodeoIs 36 = .ok (.iload_n 1, 1) := by decide +kernel
theorem dX4_rodeoIs_37 : decode cX4_rodeoIs 37 = .ok (.iload_n 2, 1) := by decide +kernel
theorem dX4_rodeoIs_38 : decode cX4_rodeoIs 38 = .ok (.invokevirtual 132, 3) := by decide +kernel
theorem dX4_rodeoIs_41 : decode cX4_rodeoIs 41 = .ok (.goto 4, 3) := by decide +kernel
theorem dX4_rodeoIs_44 : decode cX4_rodeoIs 44 = .ok (.iconst 0, 1) := by decide +kernel
theorem dX4_rodeoIs_45 : decode cX4_rodeoIs 45 = .ok (.ireturn, 1) := by decide +kernel
theorem dX4_hasEntered_0 : decode cX4_hasEntered 0 = .ok (.iconst 0, 1) := by decide +kernel
theorem dX4_hasEntered_1 : decode cX4_hasEntered 1 = .ok (.istore_n 3, 1) := by decide +kernel
theorem dX4_hasEntered_2 : decode cX4_hasEntered 2 = .ok (.iconst 0, 1) := by decide +kernel
theorem dX4_hasEntered_3 : decode cX4_hasEntered 3 = .ok (.istore 4, 2) := by decide +kernel
theorem dX4_hasEntered_5 : decode cX4_hasEntered 5 = .ok (.iload 4, 2) := by decide +kernel
theorem dX4_hasEntered_7 : decode cX4_hasEntered 7 = .ok (.aload_n 0, 1) := by decide +kernel
theorem dX4_hasEntered_8 : decode cX4_hasEntered 8 = .ok (.getfield 53, 3) := by decide +kernel
theorem dX4_hasEntered_11 : decode cX4_hasEntered 11 = .ok (.iload_n 1, 1) := by decide +kernel
theorem dX4_hasEntered_12 : decode cX4_hasEntered 12 = .ok (.iaload, 1) := by decide +kernel
theorem dX4_hasEntered_13 : decode cX4_hasEntered 13 = .ok (.if_icmp .ge 34, 3) := by decide +kernel
theorem dX4_hasEntered_16 : decode cX4_hasEntered 16 = .ok (.iload_n 3, 1) := by decide +kernel
theorem dX4_hasEntered_17 : decode cX4_hasEntered 17 = .ok (.ifCond .ne 18, 3) := by decide +kernel
theorem dX4_hasEntered_20 : decode cX4_hasEntered 20 = .ok (.aload_n 0, 1) := by decide +kernel
theorem dX4_hasEntered_21 : decode cX4_hasEntered 21 = .ok (.getfield 56, 3) := by decide +kernel
theorem dX4_hasEntered_24 : decode cX4_hasEntered 24 = .ok (.iload_n 1, 1) := by decide +kernel
theorem dX4_hasEntered_25 : decode cX4_hasEntered 25 = .ok (.iload 4, 2) := by decide +kernel
theorem dX4_hasEntered_27 : decode cX4_hasEntered 27 = .ok (.invokestatic 118, 3) := by decide +kernel
theorem dX4_hasEntered_30 : decode cX4_hasEntered 30 = .ok (.iaload, 1) := by decide +kernel
theorem dX4_hasEntered_31 : decode cX4_hasEntered 31 = .ok (.iload_n 2, 1) := by decide +kernel
theorem dX4_hasEntered_32 : decode cX4_hasEntered 32 = .ok (.if_icmp .ne 7, 3) := by decide +kernel
theorem dX4_hasEntered_35 : decode cX4_hasEntered 35 = .ok (.iconst 1, 1) := by decide +kernel
theorem dX4_hasEntered_36 : decode cX4_hasEntered 36 = .ok (.goto 4, 3) := by decide +kernel
theorem dX4_hasEntered_39 : decode cX4_hasEntered 39 = .ok (.iconst 0, 1) := by decide +kernel
theorem dX4_hasEntered_40 : decode cX4_hasEntered 40 = .ok (.istore_n 3, 1) := by decide +kernel
theorem dX4_hasEntered_41 : decode cX4_hasEntered 41 = .ok (.iinc 4 1, 3) := by decide +kernel
theorem dX4_hasEntered_44 : decode cX4_hasEntered 44 = .ok (.goto (-39), 3) := by decide +kernel
theorem dX4_hasEntered_47 : decode cX4_hasEntered 47 = .ok (.iload_n 3, 1) := by decide +kernel
theorem dX4_hasEntered_48 : decode cX4_hasEntered 48 = .ok (.ireturn, 1) := by decide +kernel
theorem dX4_enter_0 : decode cX4_enter 0 = .ok (.aload_n 0, 1) := by decide +kernel
theorem dX4_enter_1 : decode cX4_enter 1 = .ok (.iload_n 1, 1) := by decide +kernel
theorem dX4_enter_2 : decode cX4_enter 2 = .ok (.invokevirtual 129, 3) := by decide +kernel
theorem dX4_enter_5 : decode cX4_enter 5 = .ok (.ifCond .eq 15, 3) := by decide +kernel
theorem dX4_enter_8 : decode cX4_enter 8 = .ok (.aload_n 0, 1) := by decide +kernel
theorem dX4_enter_9 : decode cX4_enter 9 = .ok (.iload_n 2, 1) := by decide +kernel
theorem dX4_enter_10 : decode cX4_enter 10 = .ok (.invokevirtual 135, 3) := by decide +kernel
theorem dX4_enter_13 : decode cX4_enter 13 = .ok (.ifCond .eq 7, 3) := by decide +kernel
theorem dX4_enter_16 : decode cX4_enter 16 = .ok (.iconst 1, 1) := by decide +kernel
theorem dX4_enter_17 : decode cX4_enter 17 = .ok (.goto 4, 3) := by decide +kernel
theorem dX4_enter_20 : decode cX4_enter 20 = .ok (.iconst 0, 1) := by decide +kernel
theorem dX4_enter_21 : decode cX4_enter 21 = .ok (.istore 5, 2) := by decide +kernel
theorem dX4_enter_23 : decode cX4_enter 23 = .ok (.iload 5, 2) := by decide +kernel
theorem dX4_enter_25 : decode cX4_enter 25 = .ok (.ifCond .eq 43, 3) := by decide +kernel
theorem dX4_enter_28 : decode cX4_enter 28 = .ok (.iload_n 3, 1) := by decide +kernel
theorem dX4_enter_29 : decode cX4_enter 29 = .ok (.ifCond .le 39, 3) := by decide +kernel
theorem dX4_enter_32 : decode cX4_enter 32 = .ok (.iload_n 3, 1) := by decide +kernel
theorem dX4_enter_33 : decode cX4_enter 33 = .ok (.iconst 1, 1) := by decide +kernel
theorem dX4_enter_34 : decode cX4_enter 34 = .ok (.aload_n 0, 1) := by decide +kernel
theorem dX4_enter_35 : decode cX4_enter 35 = .ok (.getfield 35, 3) := by decide +kernel
theorem dX4_enter_38 : decode cX4_enter 38 = .ok (.iload_n 1, 1) := by decide +kernel
theorem dX4_enter_39 : decode cX4_enter 39 = .ok (.iaload, 1) := by decide +kernel
theorem dX4_enter_40 : decode cX4_enter 40 = .ok (.ishl, 1) := by decide +kernel
theorem dX4_enter_41 : decode cX4_enter 41 = .ok (.if_icmp .ge 27, 3) := by decide +kernel
theorem dX4_enter_44 : decode cX4_enter 44 = .ok (.iload 4, 2) := by decide +kernel
theorem dX4_enter_46 : decode cX4_enter 46 = .ok (.iconst 0, 1) := by decide +kernel
theorem dX4_enter_47 : decode cX4_enter 47 = .ok (.iconst 3, 1) := by decide +kernel
theorem dX4_enter_48 : decode cX4_enter 48 = .ok (.invokestatic 103, 3) := by decide +kernel
theorem dX4_enter_51 : decode cX4_enter 51 = .ok (.ifCond .eq 17, 3) := by decide +kernel
theorem dX4_enter_54 : decode cX4_enter 54 = .ok (.iload_n 3, 1) := by decide +kernel
theorem dX4_enter_55 : decode cX4_enter 55 = .ok (.iload 4, 2) := by decide +kernel
theorem dX4_enter_57 : decode cX4_enter 57 = .ok (.ishr, 1) := by decide +kernel
theorem dX4_enter_58 : decode cX4_enter 58 = .ok (.iconst 1, 1) := by decide +kernel
theorem dX4_enter_59 : decode cX4_enter 59 = .ok (.iand, 1) := by decide +kernel
theorem dX4_enter_60 : decode cX4_enter 60 = .ok (.iconst 1, 1) := by decide +kernel
theorem dX4_enter_61 : decode cX4_enter 61 = .ok (.if_icmp .ne 7, 3) := by decide +kernel
theorem dX4_enter_64 : decode cX4_enter 64 = .ok (.iconst 1, 1) := by decide +kernel
theorem dX4_enter_65 : decode cX4_enter 65 = .ok (.goto 4, 3) := by decide +kernel
theorem dX4_enter_68 : decode cX4_enter 68 = .ok (.iconst 0, 1) := by decide +kernel
theorem dX4_enter_69 : decode cX4_enter 69 = .ok (.istore 6, 2) := by decide +kernel
theorem dX4_enter_71 : decode cX4_enter 71 = .ok (.aload_n 0, 1) := by decide +kernel
theorem dX4_enter_72 : decode cX4_enter 72 = .ok (.iload 5, 2) := by decide +kernel
theorem dX4_enter_74 : decode cX4_enter 74 = .ok (.ifCond .ne 7, 3) := by decide +kernel
theorem dX4_enter_77 : decode cX4_enter 77 = .ok (.iconst 1, 1) := by decide +kernel
theorem dX4_enter_78 : decode cX4_enter 78 = .ok (.goto 35, 3) := by decide +kernel
theorem dX4_enter_81 : decode cX4_enter 81 = .ok (.iload 6, 2) := by decide +kernel
theorem dX4_enter_83 : decode cX4_enter 83 = .ok (.ifCond .ne 7, 3) := by decide +kernel
theorem dX4_enter_86 : decode cX4_enter 86 = .ok (.iconst 2, 1) := by decide +kernel
theorem dX4_enter_87 : decode cX4_enter 87 = .ok (.goto 26, 3) := by decide +kernel
theorem dX4_enter_90 : decode cX4_enter 90 = .ok (.aload_n 0, 1) := by decide +kernel
theorem dX4_enter_91 : decode cX4_enter 91 = .ok (.getfield 47, 3) := by decide +kernel
theorem dX4_enter_94 : decode cX4_enter 94 = .ok (.iload_n 1, 1) := by decide +kernel
theorem dX4_enter_95 : decode cX4_enter 95 = .ok (.iaload, 1) := by decide +kernel
theorem dX4_enter_96 : decode cX4_enter 96 = .ok (.ifCond .ne 12, 3) := by decide +kernel
theorem dX4_enter_99 : decode cX4_enter 99 = .ok (.aload_n 0, 1) := by decide +kernel
theorem dX4_enter_100 : decode cX4_enter 100 = .ok (.iload_n 1, 1) := by decide +kernel
theorem dX4_enter_101 : decode cX4_enter 101 = .ok (.iload_n 2, 1) := by decide +kernel
theorem dX4_enter_102 : decode cX4_enter 102 = .ok (.invokevirtual 138, 3) := by decide +kernel
theorem dX4_enter_105 : decode cX4_enter 105 = .ok (.ifCond .eq 7, 3) := by decide +kernel
theorem dX4_enter_108 : decode cX4_enter 108 = .ok (.iconst 3, 1) := by decide +kernel
theorem dX4_enter_109 : decode cX4_enter 109 = .ok (.goto 4, 3) := by decide +kernel
theorem dX4_enter_112 : decode cX4_enter 112 = .ok (.iconst 0, 1) := by decide +kernel
theorem dX4_enter_113 : decode cX4_enter 113 = .ok (.invokevirtual 113, 3) := by decide +kernel
theorem dX4_enter_116 : decode cX4_enter 116 = .ok (.ifCond .ne 5, 3) := by decide +kernel
theorem dX4_enter_119 : decode cX4_enter 119 = .ok (.iconst 0, 1) := by decide +kernel
theorem dX4_enter_120 : decode cX4_enter 120 = .ok (.ireturn, 1) := by decide +kernel
theorem dX4_enter_121 : decode cX4_enter 121 = .ok (.aload_n 0, 1) := by decide +kernel
theorem dX4_enter_122 : decode cX4_enter 122 = .ok (.getfield 56, 3) := by decide +kernel
theorem dX4_enter_125 : decode cX4_enter 125 = .ok (.iload_n 1, 1) := by decide +kernel
theorem dX4_enter_126 : decode cX4_enter 126 = .ok (.aload_n 0, 1) := by decide +kernel
theorem dX4_enter_127 : decode cX4_enter 127 = .ok (.getfield 53, 3) := by decide +kernel
theorem dX4_enter_130 : decode cX4_enter 130 = .ok (.iload_n 1, 1) := by decide +kernel
theorem dX4_enter_131 : decode cX4_enter 131 = .ok (.iaload, 1) := by decide +kernel
theorem dX4_enter_132 : decode cX4_enter 132 = .ok (.invokestatic 118, 3) := by decide +kernel
theorem dX4_enter_135 : decode cX4_enter 135 = .ok (.iload_n 2, 1) := by decide +kernel
theorem dX4_enter_136 : decode cX4_enter 136 = .ok (.iastore, 1) := by decide +kernel
theorem dX4_enter_137 : decode cX4_enter 137 = .ok (.aload_n 0, 1) := by decide +kernel
theorem dX4_enter_138 : decode cX4_enter 138 = .ok (.getfield 59, 3) := by decide +kernel
theorem dX4_enter_141 : decode cX4_enter 141 = .ok (.iload_n 1, 1) := by decide +kernel
theorem dX4_enter_142 : decode cX4_enter 142 = .ok (.iload_n 2, 1) := by decide +kernel
theorem dX4_enter_143 : decode cX4_enter 143 = .ok (.invokestatic 118, 3) := by decide +kernel
theorem dX4_enter_146 : decode cX4_enter 146 = .ok (.iload_n 3, 1) := by decide +kernel
theorem dX4_enter_147 : decode cX4_enter 147 = .ok (.iastore, 1) := by decide +kernel
theorem dX4_enter_148 : decode cX4_enter 148 = .ok (.aload_n 0, 1) := by decide +kernel
theorem dX4_enter_149 : decode cX4_enter 149 = .ok (.getfield 62, 3) := by decide +kernel
theorem dX4_enter_152 : decode cX4_enter 152 = .ok (.iload_n 1, 1) := by decide +kernel
theorem dX4_enter_153 : decode cX4_enter 153 = .ok (.iload_n 2, 1) := by decide +kernel
theorem dX4_enter_154 : decode cX4_enter 154 = .ok (.invokestatic 118, 3) := by decide +kernel
theorem dX4_enter_157 : decode cX4_enter 157 = .ok (.iload 4, 2) := by decide +kernel
theorem dX4_enter_159 : decode cX4_enter 159 = .ok (.iastore, 1) := by decide +kernel
theorem dX4_enter_160 : decode cX4_enter 160 = .ok (.aload_n 0, 1) := by decide +kernel
theorem dX4_enter_161 : decode cX4_enter 161 = .ok (.getfield 53, 3) := by decide +kernel
theorem dX4_enter_164 : decode cX4_enter 164 = .ok (.iload_n 1, 1) := by decide +kernel
theorem dX4_enter_165 : decode cX4_enter 165 = .ok (.dup2, 1) := by decide +kernel
theorem dX4_enter_166 : decode cX4_enter 166 = .ok (.iaload, 1) := by decide +kernel
theorem dX4_enter_167 : decode cX4_enter 167 = .ok (.iconst 1, 1) := by decide +kernel
theorem dX4_enter_168 : decode cX4_enter 168 = .ok (.iadd, 1) := by decide +kernel
theorem dX4_enter_169 : decode cX4_enter 169 = .ok (.iastore, 1) := by decide +kernel
theorem dX4_enter_170 : decode cX4_enter 170 = .ok (.aload_n 0, 1) := by decide +kernel
theorem dX4_enter_171 : decode cX4_enter 171 = .ok (.getfield 53, 3) := by decide +kernel
theorem dX4_enter_174 : decode cX4_enter 174 = .ok (.iload_n 1, 1) := by decide +kernel
theorem dX4_enter_175 : decode cX4_enter 175 = .ok (.iaload, 1) := by decide +kernel
theorem dX4_enter_176 : decode cX4_enter 176 = .ok (.ireturn, 1) := by decide +kernel
theorem dX4_gets_0 : decode cX4_gets 0 = .ok (.iconst 1, 1) := by decide +kernel
theorem dX4_gets_1 : decode cX4_gets 1 = .ok (.istore 4, 2) := by decide +kernel
theorem dX4_gets_3 : decode cX4_gets 3 = .ok (.iconst 0, 1) := by decide +kernel
theorem dX4_gets_4 : decode cX4_gets 4 = .ok (.istore 5, 2) := by decide +kernel
theorem dX4_gets_6 : decode cX4_gets 6 = .ok (.iload 5, 2) := by decide +kernel
theorem dX4_gets_8 : decode cX4_gets 8 = .ok (.aload_n 0, 1) := by decide +kernel
theorem dX4_gets_9 : decode cX4_gets 9 = .ok (.getfield 110, 3) := by decide +kernel
theorem dX4_gets_12 : decode cX4_gets 12 = .ok (.if_icmp .ge 99, 3) := by decide +kernel
theorem dX4_gets_15 : decode cX4_gets 15 = .ok (.aload_n 0, 1) := by decide +kernel
theorem dX4_gets_16 : decode cX4_gets 16 = .ok (.getfield 65, 3) := by decide +kernel
theorem dX4_gets_19 : decode cX4_gets 19 = .ok (.iload 5, 2) := by decide +kernel
theorem dX4_gets_21 : decode cX4_gets 21 = .ok (.iload_n 2, 1) := by decide +kernel
theorem dX4_gets_22 : decode cX4_gets 22 = .ok (.invokestatic 118, 3) := by decide +kernel
theorem dX4_gets_25 : decode cX4_gets 25 = .ok (.iaload, 1) := by decide +kernel
theorem dX4_gets_26 : decode cX4_gets 26 = .ok (.istore 6, 2) := by decide +kernel
theorem dX4_gets_28 : decode cX4_gets 28 = .ok (.iload 5, 2) := by decide +kernel
theorem dX4_gets_30 : decode cX4_gets 30 = .ok (.iload_n 1, 1) := by decide +kernel
theorem dX4_gets_31 : decode cX4_gets 31 = .ok (.if_icmp .eq 74, 3) := by decide +kernel
theorem dX4_gets_34 : decode cX4_gets 34 = .ok (.iload 6, 2) := by decide +kernel
theorem dX4_gets_36 : decode cX4_gets 36 = .ok (.iconst (-1), 1) := by decide +kernel
theorem dX4_gets_37 : decode cX4_gets 37 = .ok (.if_icmp .eq 68, 3) := by decide +kernel
theorem dX4_gets_40 : decode cX4_gets 40 = .ok (.aload_n 0, 1) := by decide +kernel
theorem dX4_gets_41 : decode cX4_gets 41 = .ok (.getfield 32, 3) := by decide +kernel
theorem dX4_gets_44 : decode cX4_gets 44 = .ok (.iload_n 1, 1) := by decide +kernel
theorem dX4_gets_45 : decode cX4_gets 45 = .ok (.iaload, 1) := by decide +kernel
theorem dX4_gets_46 : decode cX4_gets 46 = .ok (.iload_n 3, 1) := by decide +kernel
theorem dX4_gets_47 : decode cX4_gets 47 = .ok (.iadd, 1) := by decide +kernel
theorem dX4_gets_48 : decode cX4_gets 48 = .ok (.aload_n 0, 1) := by decide +kernel
theorem dX4_gets_49 : decode cX4_gets 49 = .ok (.getfield 32, 3) := by decide +kernel
theorem dX4_gets_52 : decode cX4_gets 52 = .ok (.iload 5, 2) := by decide +kernel
theorem dX4_gets_54 : decode cX4_gets 54 = .ok (.iaload, 1) := by decide +kernel
theorem dX4_gets_55 : decode cX4_gets 55 = .ok (.iload 6, 2) := by decide +kernel
theorem dX4_gets_57 : decode cX4_gets 57 = .ok (.iadd, 1) := by decide +kernel
theorem dX4_gets_58 : decode cX4_gets 58 = .ok (.invokestatic 142, 3) := by decide +kernel
theorem dX4_gets_61 : decode cX4_gets 61 = .ok (.istore 7, 2) := by decide +kernel
theorem dX4_gets_63 : decode cX4_gets 63 = .ok (.iload 4, 2) := by decide +kernel
theorem dX4_gets_65 : decode cX4_gets 65 = .ok (.ifCond .eq 37, 3) := by decide +kernel
theorem dX4_gets_68 : decode cX4_gets 68 = .ok (.iload 7, 2) := by decide +kernel
theorem dX4_gets_70 : decode cX4_gets 70 = .ok (.ifCond .le 32, 3) := by decide +kernel
theorem dX4_gets_73 : decode cX4_gets 73 = .ok (.sipush 400, 3) := by decide +kernel
theorem dX4_gets_76 : decode cX4_gets 76 = .ok (.iload 7, 2) := by decide +kernel
theorem dX4_gets_78 : decode cX4_gets 78 = .ok (.imul, 1) := by decide +kernel
theorem dX4_gets_79 : decode cX4_gets 79 = .ok (.aload_n 0, 1) := by decide +kernel
theorem dX4_gets_80 : decode cX4_gets 80 = .ok (.getfield 29, 3) := by decide +kernel
theorem dX4_gets_83 : decode cX4_gets 83 = .ok (.iload_n 1, 1) := by decide +kernel
theorem dX4_gets_84 : decode cX4_gets 84 = .ok (.iaload, 1) := by decide +kernel
theorem dX4_gets_85 : decode cX4_gets 85 = .ok (.aload_n 0, 1) := by decide +kernel
theorem dX4_gets_86 : decode cX4_gets 86 = .ok (.getfield 29, 3) := by decide +kernel
theorem dX4_gets_89 : decode cX4_gets 89 = .ok (.iload 5, 2) := by decide +kernel
theorem dX4_gets_91 : decode cX4_gets 91 = .ok (.iaload, 1) := by decide +kernel
theorem dX4_gets_92 : decode cX4_gets 92 = .ok (.invokestatic 142, 3) := by decide +kernel
theorem dX4_gets_95 : decode cX4_gets 95 = .ok (.if_icmp .lt 7, 3) := by decide +kernel
theorem dX4_gets_98 : decode cX4_gets 98 = .ok (.iconst 1, 1) := by decide +kernel
theorem dX4_gets_99 : decode cX4_gets 99 = .ok (.goto 4, 3) := by decide +kernel
theorem dX4_gets_102 : decode cX4_gets 102 = .ok (.iconst 0, 1) := by decide +kernel
theorem dX4_gets_103 : decode cX4_gets 103 = .ok (.istore 4, 2) := by decide +kernel
theorem dX4_gets_105 : decode cX4_gets 105 = .ok (.iinc 5 1, 3) := by decide +kernel
theorem dX4_gets_108 : decode cX4_gets 108 = .ok (.goto (-102), 3) := by decide +kernel
theorem dX4_gets_111 : decode cX4_gets 111 = .ok (.iload 4, 2) := by decide +kernel
theorem dX4_gets_113 : decode cX4_gets 113 = .ok (.ireturn, 1) := by decide +kernel
theorem dX4_taken_0 : decode cX4_taken 0 = .ok (.iconst 0, 1) := by decide +kernel
theorem dX4_taken_1 : decode cX4_taken 1 = .ok (.istore_n 3, 1) := by decide +kernel
theorem dX4_taken_2 : decode cX4_taken 2 = .ok (.iload_n 1, 1) := by decide +kernel
theorem dX4_taken_3 : decode cX4_taken 3 = .ok (.iconst 0, 1) := by decide +kernel
theorem dX4_taken_4 : decode cX4_taken 4 = .ok (.invokestatic 118, 3) := by decide +kernel
theorem dX4_taken_7 : decode cX4_taken 7 = .ok (.istore 4, 2) := by decide +kernel
theorem dX4_taken_9 : decode cX4_taken 9 = .ok (.iload 4, 2) := by decide +kernel
theorem dX4_taken_11 : decode cX4_taken 11 = .ok (.iload_n 1, 1) := by decide +kernel
theorem dX4_taken_12 : decode cX4_taken 12 = .ok (.iconst 1, 1) := by decide +kernel
theorem dX4_taken_13 : decode cX4_taken 13 = .ok (.iadd, 1) := by decide +kernel
theorem dX4_taken_14 : decode cX4_taken 14 = .ok (.iconst 0, 1) := by decide +kernel
theorem dX4_taken_15 : decode cX4_taken 15 = .ok (.invokestatic 118, 3) := by decide +kernel
theorem dX4_taken_18 : decode cX4_taken 18 = .ok (.if_icmp .ge 28, 3) := by decide +kernel
theorem dX4_taken_21 : decode cX4_taken 21 = .ok (.iload_n 3, 1) := by decide +kernel
theorem dX4_taken_22 : decode cX4_taken 22 = .ok (.aload_n 0, 1) := by decide +kernel
theorem dX4_taken_23 : decode cX4_taken 23 = .ok (.getfield 65, 3) := by decide +kernel
theorem dX4_taken_26 : decode cX4_taken 26 = .ok (.iload 4, 2) := by decide +kernel
theorem dX4_taken_28 : decode cX4_taken 28 = .ok (.iaload, 1) := by decide +kernel
theorem dX4_taken_29 : decode cX4_taken 29 = .ok (.iload_n 2, 1) := by decide +kernel
theorem dX4_taken_30 : decode cX4_taken 30 = .ok (.if_icmp .ne 7, 3) := by decide +kernel
theorem dX4_taken_33 : decode cX4_taken 33 = .ok (.iconst 1, 1) := by decide +kernel
theorem dX4_taken_34 : decode cX4_taken 34 = .ok (.goto 4, 3) := by decide +kernel
theorem dX4_taken_37 : decode cX4_taken 37 = .ok (.iconst 0, 1) := by decide +kernel
theorem dX4_taken_38 : decode cX4_taken 38 = .ok (.iadd, 1) := by decide +kernel
theorem dX4_taken_39 : decode cX4_taken 39 = .ok (.istore_n 3, 1) := by decide +kernel
theorem dX4_taken_40 : decode cX4_taken 40 = .ok (.iinc 4 1, 3) := by decide +kernel
theorem dX4_taken_43 : decode cX4_taken 43 = .ok (.goto (-34), 3) := by decide +kernel
theorem dX4_taken_46 : decode cX4_taken 46 = .ok (.iload_n 3, 1) := by decide +kernel
theorem dX4_taken_47 : decode cX4_taken 47 = .ok (.ireturn, 1) := by decide +kernel
theorem dX4_fits_0 : decode cX4_fits 0 = .ok (.aload_n 0, 1) := by decide +kernel
theorem dX4_fits_1 : decode cX4_fits 1 = .ok (.getfield 59, 3) := by decide +kernel
theorem dX4_fits_4 : decode cX4_fits 4 = .ok (.iload_n 1, 1) := by decide +kernel
theorem dX4_fits_5 : decode cX4_fits 5 = .ok (.iload_n 2, 1) := by decide +kernel
theorem dX4_fits_6 : decode cX4_fits 6 = .ok (.invokestatic 118, 3) := by decide +kernel
theorem dX4_fits_9 : decode cX4_fits 9 = .ok (.iaload, 1) := by decide +kernel
theorem dX4_fits_10 : decode cX4_fits 10 = .ok (.iload_n 3, 1) := by decide +kernel
theorem dX4_fits_11 : decode cX4_fits 11 = .ok (.ishr, 1) := by decide +kernel
theorem dX4_fits_12 : decode cX4_fits 12 = .ok (.iconst 1, 1) := by decide +kernel
theorem dX4_fits_13 : decode cX4_fits 13 = .ok (.iand, 1) := by decide +kernel
theorem dX4_fits_14 : decode cX4_fits 14 = .ok (.iconst 1, 1) := by decide +kernel
theorem dX4_fits_15 : decode cX4_fits 15 = .ok (.if_icmp .ne 32, 3) := by decide +kernel
theorem dX4_fits_18 : decode cX4_fits 18 = .ok (.aload_n 0, 1) := by decide +kernel
theorem dX4_fits_19 : decode cX4_fits 19 = .ok (.iload_n 1, 1) := by decide +kernel
theorem dX4_fits_20 : decode cX4_fits 20 = .ok (.iload_n 3, 1) := by decide +kernel
theorem dX4_fits_21 : decode cX4_fits 21 = .ok (.invokevirtual 145, 3) := by decide +kernel
theorem dX4_fits_24 : decode cX4_fits 24 = .ok (.aload_n 0, 1) := by decide +kernel
theorem dX4_fits_25 : decode cX4_fits 25 = .ok (.getfield 38, 3) := by decide +kernel
theorem dX4_fits_28 : decode cX4_fits 28 = .ok (.iload_n 1, 1) := by decide +kernel
theorem dX4_fits_29 : decode cX4_fits 29 = .ok (.iaload, 1) := by decide +kernel
theorem dX4_fits_30 : decode cX4_fits 30 = .ok (.if_icmp .ge 17, 3) := by decide +kernel
theorem dX4_fits_33 : decode cX4_fits 33 = .ok (.aload_n 0, 1) := by decide +kernel
theorem dX4_fits_34 : decode cX4_fits 34 = .ok (.iload_n 1, 1) := by decide +kernel
theorem dX4_fits_35 : decode cX4_fits 35 = .ok (.iload_n 2, 1) := by decide +kernel
theorem dX4_fits_36 : decode cX4_fits 36 = .ok (.iload_n 3, 1) := by decide +kernel
theorem dX4_fits_37 : decode cX4_fits 37 = .ok (.invokevirtual 148, 3) := by decide +kernel
theorem dX4_fits_40 : decode cX4_fits 40 = .ok (.ifCond .eq 7, 3) := by decide +kernel
theorem dX4_fits_43 : decode cX4_fits 43 = .ok (.iconst 1, 1) := by decide +kernel
theorem dX4_fits_44 : decode cX4_fits 44 = .ok (.goto 4, 3) := by decide +kernel
theorem dX4_fits_47 : decode cX4_fits 47 = .ok (.iconst 0, 1) := by decide +kernel
theorem dX4_fits_48 : decode cX4_fits 48 = .ok (.ireturn, 1) := by decide +kernel
theorem dX4_places_0 : decode cX4_places 0 = .ok (.iconst (-1), 1) := by decide +kernel
theorem dX4_places_1 : decode cX4_places 1 = .ok (.istore_n 3, 1) := by decide +kernel
theorem dX4_places_2 : decode cX4_places 2 = .ok (.aload_n 0, 1) := by decide +kernel
theorem dX4_places_3 : decode cX4_places 3 = .ok (.getfield 35, 3) := by decide +kernel
theorem dX4_places_6 : decode cX4_places 6 = .ok (.iload_n 1, 1) := by decide +kernel
theorem dX4_places_7 : decode cX4_places 7 = .ok (.iaload, 1) := by decide +kernel
theorem dX4_places_8 : decode cX4_places 8 = .ok (.iconst 1, 1) := by decide +kernel
theorem dX4_places_9 : decode cX4_places 9 = .ok (.isub, 1) := by decide +kernel
theorem dX4_places_10 : decode cX4_places 10 = .ok (.istore 4, 2) := by decide +kernel
theorem dX4_places_12 : decode cX4_places 12 = .ok (.iload 4, 2) := by decide +kernel
theorem dX4_places_14 : decode cX4_places 14 = .ok (.ifCond .lt 27, 3) := by decide +kernel
theorem dX4_places_17 : decode cX4_places 17 = .ok (.aload_n 0, 1) := by decide +kernel
theorem dX4_places_18 : decode cX4_places 18 = .ok (.iload_n 1, 1) := by decide +kernel
theorem dX4_places_19 : decode cX4_places 19 = .ok (.iload_n 2, 1) := by decide +kernel
theorem dX4_places_20 : decode cX4_places 20 = .ok (.iload 4, 2) := by decide +kernel
theorem dX4_places_22 : decode cX4_places 22 = .ok (.invokevirtual 151, 3) := by decide +kernel
theorem dX4_places_25 : decode cX4_places 25 = .ok (.ifCond .eq 8, 3) := by decide +kernel
theorem dX4_places_28 : decode cX4_places 28 = .ok (.iload 4, 2) := by decide +kernel
theorem dX4_places_30 : decode cX4_places 30 = .ok (.goto 4, 3) := by decide +kernel
theorem dX4_places_33 : decode cX4_places 33 = .ok (.iload_n 3, 1) := by decide +kernel
theorem dX4_places_34 : decode cX4_places 34 = .ok (.istore_n 3, 1) := by decide +kernel
theorem dX4_places_35 : decode cX4_places 35 = .ok (.iinc 4 (-1), 3) := by decide +kernel
theorem dX4_places_38 : decode cX4_places 38 = .ok (.goto (-26), 3) := by decide +kernel
theorem dX4_places_41 : decode cX4_places 41 = .ok (.aload_n 0, 1) := by decide +kernel
theorem dX4_places_42 : decode cX4_places 42 = .ok (.getfield 62, 3) := by decide +kernel
theorem dX4_places_45 : decode cX4_places 45 = .ok (.iload_n 1, 1) := by decide +kernel
theorem dX4_places_46 : decode cX4_places 46 = .ok (.iload_n 2, 1) := by decide +kernel
theorem dX4_places_47 : decode cX4_places 47 = .ok (.invokestatic 118, 3) := by decide +kernel
theorem dX4_places_50 : decode cX4_places 50 = .ok (.iaload, 1) := by decide +kernel
theorem dX4_places_51 : decode cX4_places 51 = .ok (.istore 4, 2) := by decide +kernel
theorem dX4_places_53 : decode cX4_places 53 = .ok (.aload_n 0, 1) := by decide +kernel
theorem dX4_places_54 : decode cX4_places 54 = .ok (.getfield 65, 3) := by decide +kernel
theorem dX4_places_57 : decode cX4_places 57 = .ok (.iload_n 1, 1) := by decide +kernel
theorem dX4_places_58 : decode cX4_places 58 = .ok (.iload_n 2, 1) := by decide +kernel
theorem dX4_places_59 : decode cX4_places 59 = .ok (.invokestatic 118, 3) := by decide +kernel
theorem dX4_places_62 : decode cX4_places 62 = .ok (.aload_n 0, 1) := by decide +kernel
theorem dX4_places_63 : decode cX4_places 63 = .ok (.iload_n 1, 1) := by decide +kernel
theorem dX4_places_64 : decode cX4_places 64 = .ok (.iload_n 2, 1) := by decide +kernel
theorem dX4_places_65 : decode cX4_places 65 = .ok (.iload 4, 2) := by decide +kernel
theorem dX4_places_67 : decode cX4_places 67 = .ok (.invokevirtual 151, 3) := by decide +kernel
theorem dX4_places_70 : decode cX4_places 70 = .ok (.ifCond .eq 8, 3) := by decide +kernel
theorem dX4_places_73 : decode cX4_places 73 = .ok (.iload 4, 2) := by decide +kernel
theorem dX4_places_75 : decode cX4_places 75 = .ok (.goto 4, 3) := by decide +kernel
theorem dX4_places_78 : decode cX4_places 78 = .ok (.iload_n 3, 1) := by decide +kernel
theorem dX4_places_79 : decode cX4_places 79 = .ok (.iastore, 1) := by decide +kernel
theorem dX4_places_80 : decode cX4_places 80 = .ok (.return_, 1) := by decide +kernel
theorem dX4_close_0 : decode cX4_close 0 = .ok (.aload_n 0, 1) := by decide +kernel
theorem dX4_close_1 : decode cX4_close 1 = .ok (.iload_n 1, 1) := by decide +kernel
theorem dX4_close_2 : decode cX4_close 2 = .ok (.invokevirtual 129, 3) := by decide +kernel
theorem dX4_close_5 : decode cX4_close 5 = .ok (.istore_n 2, 1) := by decide +kernel
theorem dX4_close_6 : decode cX4_close 6 = .ok (.aload_n 0, 1) := by decide +kernel
theorem dX4_close_7 : decode cX4_close 7 = .ok (.iload_n 2, 1) := by decide +kernel
theorem dX4_close_8 : decode cX4_close 8 = .ok (.ifCond .ne 7, 3) := by decide +kernel
theorem dX4_close_11 : decode cX4_close 11 = .ok (.iconst 1, 1) := by decide +kernel
theorem dX4_close_12 : decode cX4_close 12 = .ok (.goto 17, 3) := by decide +kernel
theorem dX4_close_15 : decode cX4_close 15 = .ok (.aload_n 0, 1) := by decide +kernel
theorem dX4_close_16 : decode cX4_close 16 = .ok (.getfield 47, 3) := by decide +kernel
theorem dX4_close_19 : decode cX4_close 19 = .ok (.iload_n 1, 1) := by decide +kernel
theorem dX4_close_20 : decode cX4_close 20 = .ok (.iaload, 1) := by decide +kernel
theorem dX4_close_21 : decode cX4_close 21 = .ok (.ifCond .eq 7, 3) := by decide +kernel
theorem dX4_close_24 : decode cX4_close 24 = .ok (.iconst 2, 1) := by decide +kernel
theorem dX4_close_25 : decode cX4_close 25 = .ok (.goto 4, 3) := by decide +kernel
theorem dX4_close_28 : decode cX4_close 28 = .ok (.iconst 0, 1) := by decide +kernel
theorem dX4_close_29 : decode cX4_close 29 = .ok (.invokevirtual 113, 3) := by decide +kernel
theorem dX4_close_32 : decode cX4_close 32 = .ok (.ifCond .ne 5, 3) := by decide +kernel
theorem dX4_close_35 : decode cX4_close 35 = .ok (.iconst 0, 1) := by decide +kernel
theorem dX4_close_36 : decode cX4_close 36 = .ok (.ireturn, 1) := by decide +kernel
theorem dX4_close_37 : decode cX4_close 37 = .ok (.iconst 0, 1) := by decide +kernel
theorem dX4_close_38 : decode cX4_close 38 = .ok (.istore_n 3, 1) := by decide +kernel
theorem dX4_close_39 : decode cX4_close 39 = .ok (.iload_n 3, 1) := by decide +kernel
theorem dX4_close_40 : decode cX4_close 40 = .ok (.aload_n 0, 1) := by decide +kernel
theorem dX4_close_41 : decode cX4_close 41 = .ok (.getfield 53, 3) := by decide +kernel
theorem dX4_close_44 : decode cX4_close 44 = .ok (.iload_n 1, 1) := by decide +kernel
theorem dX4_close_45 : decode cX4_close 45 = .ok (.iaload, 1) := by decide +kernel
theorem dX4_close_46 : decode cX4_close 46 = .ok (.if_icmp .ge 24, 3) := by decide +kernel
theorem dX4_close_49 : decode cX4_close 49 = .ok (.aload_n 0, 1) := by decide +kernel
theorem dX4_close_50 : decode cX4_close 50 = .ok (.iload_n 1, 1) := by decide +kernel
theorem dX4_close_51 : decode cX4_close 51 = .ok (.aload_n 0, 1) := by decide +kernel
theorem dX4_close_52 : decode cX4_close 52 = .ok (.getfield 56, 3) := by decide +kernel
theorem dX4_close_55 : decode cX4_close 55 = .ok (.iload_n 1, 1) := by decide +kernel
theorem dX4_close_56 : decode cX4_close 56 = .ok (.iload_n 3, 1) := by decide +kernel
theorem dX4_close_57 : decode cX4_close 57 = .ok (.invokestatic 118, 3) := by decide +kernel
theorem dX4_close_60 : decode cX4_close 60 = .ok (.iaload, 1) := by decide +kernel
theorem dX4_close_61 : decode cX4_close 61 = .ok (.invokevirtual 154, 3) := by decide +kernel
theorem dX4_close_64 : decode cX4_close 64 = .ok (.iinc 3 1, 3) := by decide +kernel
theorem dX4_close_67 : decode cX4_close 67 = .ok (.goto (-28), 3) := by decide +kernel
theorem dX4_close_70 : decode cX4_close 70 = .ok (.aload_n 0, 1) := by decide +kernel
theorem dX4_close_71 : decode cX4_close 71 = .ok (.getfield 47, 3) := by decide +kernel
theorem dX4_close_74 : decode cX4_close 74 = .ok (.iload_n 1, 1) := by decide +kernel
theorem dX4_close_75 : decode cX4_close 75 = .ok (.iconst 1, 1) := by decide +kernel
theorem dX4_close_76 : decode cX4_close 76 = .ok (.iastore, 1) := by decide +kernel
theorem dX4_close_77 : decode cX4_close 77 = .ok (.aload_n 0, 1) := by decide +kernel
theorem dX4_close_78 : decode cX4_close 78 = .ok (.iload_n 1, 1) := by decide +kernel
theorem dX4_close_79 : decode cX4_close 79 = .ok (.invokevirtual 122, 3) := by decide +kernel
theorem dX4_close_82 : decode cX4_close 82 = .ok (.ireturn, 1) := by decide +kernel
theorem dX4_placed_0 : decode cX4_placed 0 = .ok (.aload_n 0, 1) := by decide +kernel
theorem dX4_placed_1 : decode cX4_placed 1 = .ok (.aload_n 0, 1) := by decide +kernel
theorem dX4_placed_2 : decode cX4_placed 2 = .ok (.iload_n 1, 1) := by decide +kernel
theorem dX4_placed_3 : decode cX4_placed 3 = .ok (.invokevirtual 129, 3) := by decide +kernel
theorem dX4_placed_6 : decode cX4_placed 6 = .ok (.ifCond .eq 15, 3) := by decide +kernel
theorem dX4_placed_9 : decode cX4_placed 9 = .ok (.aload_n 0, 1) := by decide +kernel
theorem dX4_placed_10 : decode cX4_placed 10 = .ok (.iload_n 2, 1) := by decide +kernel
theorem dX4_placed_11 : decode cX4_placed 11 = .ok (.invokevirtual 135, 3) := by decide +kernel
theorem dX4_placed_14 : decode cX4_placed 14 = .ok (.ifCond .eq 7, 3) := by decide +kernel
theorem dX4_placed_17 : decode cX4_placed 17 = .ok (.iconst 0, 1) := by decide +kernel
theorem dX4_placed_18 : decode cX4_placed 18 = .ok (.goto 4, 3) := by decide +kernel
theorem dX4_placed_21 : decode cX4_placed 21 = .ok (.iconst 1, 1) := by decide +kernel
theorem dX4_placed_22 : decode cX4_placed 22 = .ok (.invokevirtual 113, 3) := by decide +kernel
theorem dX4_placed_25 : decode cX4_placed 25 = .ok (.ifCond .eq 16, 3) := by decide +kernel
theorem dX4_placed_28 : decode cX4_placed 28 = .ok (.aload_n 0, 1) := by decide +kernel
theorem dX4_placed_29 : decode cX4_placed 29 = .ok (.getfield 65, 3) := by decide +kernel
theorem dX4_placed_32 : decode cX4_placed 32 = .ok (.iload_n 1, 1) := by decide +kernel
theorem dX4_placed_33 : decode cX4_placed 33 = .ok (.iload_n 2, 1) := by decide +kernel
theorem dX4_placed_34 : decode cX4_placed 34 = .ok (.invokestatic 118, 3) := by decide +kernel
theorem dX4_placed_37 : decode cX4_placed 37 = .ok (.iaload, 1) := by decide +kernel
theorem dX4_placed_38 : decode cX4_placed 38 = .ok (.goto 4, 3) := by decide +kernel
theorem dX4_placed_41 : decode cX4_placed 41 = .ok (.iconst 0, 1) := by decide +kernel
theorem dX4_placed_42 : decode cX4_placed 42 = .ok (.ireturn, 1) := by decide +kernel
theorem dX4_unit_0 : decode cX4_unit 0 = .ok (.iload_n 0, 1) := by decide +kernel
theorem dX4_unit_1 : decode cX4_unit 1 = .ok (.ifCond .ne 7, 3) := by decide +kernel
theorem dX4_unit_4 : decode cX4_unit 4 = .ok (.iconst 1, 1) := by decide +kernel
theorem dX4_unit_5 : decode cX4_unit 5 = .ok (.goto 24, 3) := by decide +kernel
theorem dX4_unit_8 : decode cX4_unit 8 = .ok (.iload_n 0, 1) := by decide +kernel
theorem dX4_unit_9 : decode cX4_unit 9 = .ok (.iconst 1, 1) := by decide +kernel
theorem dX4_unit_10 : decode cX4_unit 10 = .ok (.if_icmp .ne 7, 3) := by decide +kernel
theorem dX4_unit_13 : decode cX4_unit 13 = .ok (.iconst 5, 1) := by decide +kernel
theorem dX4_unit_14 : decode cX4_unit 14 = .ok (.goto 15, 3) := by decide +kernel
theorem dX4_unit_17 : decode cX4_unit 17 = .ok (.iload_n 0, 1) := by decide +kernel
theorem dX4_unit_18 : decode cX4_unit 18 = .ok (.iconst 2, 1) := by decide +kernel
theorem dX4_unit_19 : decode cX4_unit 19 = .ok (.if_icmp .ne 8, 3) := by decide +kernel
theorem dX4_unit_22 : decode cX4_unit 22 = .ok (.bipush 25, 2) := by decide +kernel
theorem dX4_unit_24 : decode cX4_unit 24 = .ok (.goto 5, 3) := by decide +kernel
theorem dX4_unit_27 : decode cX4_unit 27 = .ok (.bipush 125, 2) := by decide +kernel
theorem dX4_unit_29 : decode cX4_unit 29 = .ok (.ireturn, 1) := by decide +kernel
theorem dX4_greatest_0 : decode cX4_greatest 0 = .ok (.iconst 0, 1) := by decide +kernel
theorem dX4_greatest_1 : decode cX4_greatest 1 = .ok (.istore_n 2, 1) := by decide +kernel
theorem dX4_greatest_2 : decode cX4_greatest 2 = .ok (.iload_n 2, 1) := by decide +kernel
theorem dX4_greatest_3 : decode cX4_greatest 3 = .ok (.sipush 625, 3) := by decide +kernel
theorem dX4_greatest_6 : decode cX4_greatest 6 = .ok (.if_icmp .ge 24, 3) := by decide +kernel
theorem dX4_greatest_9 : decode cX4_greatest 9 = .ok (.aload_n 0, 1) := by decide +kernel
theorem dX4_greatest_10 : decode cX4_greatest 10 = .ok (.getfield 94, 3) := by decide +kernel
theorem dX4_greatest_13 : decode cX4_greatest 13 = .ok (.iload_n 2, 1) := by decide +kernel
theorem dX4_greatest_14 : decode cX4_greatest 14 = .ok (.iload_n 2, 1) := by decide +kernel
theorem dX4_greatest_15 : decode cX4_greatest 15 = .ok (.ifCond .ne 7, 3) := by decide +kernel
theorem dX4_greatest_18 : decode cX4_greatest 18 = .ok (.iconst 1, 1) := by decide +kernel
theorem dX4_greatest_19 : decode cX4_greatest 19 = .ok (.goto 4, 3) := by decide +kernel
theorem dX4_greatest_22 : decode cX4_greatest 22 = .ok (.iconst 0, 1) := by decide +kernel
theorem dX4_greatest_23 : decode cX4_greatest 23 = .ok (.bastore, 1) := by decide +kernel
theorem dX4_greatest_24 : decode cX4_greatest 24 = .ok (.iinc 2 1, 3) := by decide +kernel
theorem dX4_greatest_27 : decode cX4_greatest 27 = .ok (.goto (-25), 3) := by decide +kernel
theorem dX4_greatest_30 : decode cX4_greatest 30 = .ok (.iconst 0, 1) := by decide +kernel
theorem dX4_greatest_31 : decode cX4_greatest 31 = .ok (.istore_n 2, 1) := by decide +kernel
theorem dX4_greatest_32 : decode cX4_greatest 32 = .ok (.iload_n 2, 1) := by decide +kernel
theorem dX4_greatest_33 : decode cX4_greatest 33 = .ok (.aload_n 0, 1) := by decide +kernel
theorem dX4_greatest_34 : decode cX4_greatest 34 = .ok (.getfield 53, 3) := by decide +kernel
theorem dX4_greatest_37 : decode cX4_greatest 37 = .ok (.iload_n 1, 1) := by decide +kernel
theorem dX4_greatest_38 : decode cX4_greatest 38 = .ok (.iaload, 1) := by decide +kernel
theorem dX4_greatest_39 : decode cX4_greatest 39 = .ok (.if_icmp .ge 141, 3) := by decide +kernel
theorem dX4_greatest_42 : decode cX4_greatest 42 = .ok (.aload_n 0, 1) := by decide +kernel
theorem dX4_greatest_43 : decode cX4_greatest 43 = .ok (.getfield 56, 3) := by decide +kernel
theorem dX4_greatest_46 : decode cX4_greatest 46 = .ok (.iload_n 1, 1) := by decide +kernel
theorem dX4_greatest_47 : decode cX4_greatest 47 = .ok (.iload_n 2, 1) := by decide +kernel
theorem dX4_greatest_48 : decode cX4_greatest 48 = .ok (.invokestatic 118, 3) := by decide +kernel
theorem dX4_greatest_51 : decode cX4_greatest 51 = .ok (.iaload, 1) := by decide +kernel
theorem dX4_greatest_52 : decode cX4_greatest 52 = .ok (.istore_n 3, 1) := by decide +kernel
theorem dX4_greatest_53 : decode cX4_greatest 53 = .ok (.sipush 624, 3) := by decide +kernel
theorem dX4_greatest_56 : decode cX4_greatest 56 = .ok (.istore 4, 2) := by decide +kernel
theorem dX4_greatest_58 : decode cX4_greatest 58 = .ok (.iload 4, 2) := by decide +kernel
theorem dX4_greatest_60 : decode cX4_greatest 60 = .ok (.ifCond .lt 114, 3) := by decide +kernel
theorem dX4_greatest_63 : decode cX4_greatest 63 = .ok (.iconst 0, 1) := by decide +kernel
theorem dX4_greatest_64 : decode cX4_greatest 64 = .ok (.istore 5, 2) := by decide +kernel
theorem dX4_greatest_66 : decode cX4_greatest 66 = .ok (.iload 5, 2) := by decide +kernel
theorem dX4_greatest_68 : decode cX4_greatest 68 = .ok (.aload_n 0, 1) := by decide +kernel
theorem dX4_greatest_69 : decode cX4_greatest 69 = .ok (.getfield 35, 3) := by decide +kernel
