theorem dX0_init_0 : decode cX0_init 0 = .ok (.aload_n 0, 1) := by decide +kernel
theorem dX0_init_1 : decode cX0_init 1 = .ok (.invokespecial 1, 3) := by decide +kernel
theorem dX0_init_4 : decode cX0_init 4 = .ok (.aload_n 0, 1) := by decide +kernel
theorem dX0_init_5 : decode cX0_init 5 = .ok (.iload_n 1, 1) := by decide +kernel
theorem dX0_init_6 : decode cX0_init 6 = .ok (.putfield 7, 3) := by decide +kernel
theorem dX0_init_9 : decode cX0_init 9 = .ok (.aload_n 0, 1) := by decide +kernel
theorem dX0_init_10 : decode cX0_init 10 = .ok (.iload_n 2, 1) := by decide +kernel
theorem dX0_init_11 : decode cX0_init 11 = .ok (.putfield 13, 3) := by decide +kernel
theorem dX0_init_14 : decode cX0_init 14 = .ok (.return_, 1) := by decide +kernel
theorem dX0_canBeDrawn_0 : decode cX0_canBeDrawn 0 = .ok (.lconst 1, 1) := by decide +kernel
theorem dX0_canBeDrawn_1 : decode cX0_canBeDrawn 1 = .ok (.iload_n 2, 1) := by decide +kernel
theorem dX0_canBeDrawn_2 : decode cX0_canBeDrawn 2 = .ok (.lshl, 1) := by decide +kernel
theorem dX0_canBeDrawn_3 : decode cX0_canBeDrawn 3 = .ok (.lstore_n 3, 1) := by decide +kernel
theorem dX0_canBeDrawn_4 : decode cX0_canBeDrawn 4 = .ok (.lload_n 3, 1) := by decide +kernel
theorem dX0_canBeDrawn_5 : decode cX0_canBeDrawn 5 = .ok (.lload_n 3, 1) := by decide +kernel
theorem dX0_canBeDrawn_6 : decode cX0_canBeDrawn 6 = .ok (.iconst 1, 1) := by decide +kernel
theorem dX0_canBeDrawn_7 : decode cX0_canBeDrawn 7 = .ok (.lshl, 1) := by decide +kernel
theorem dX0_canBeDrawn_8 : decode cX0_canBeDrawn 8 = .ok (.lor, 1) := by decide +kernel
theorem dX0_canBeDrawn_9 : decode cX0_canBeDrawn 9 = .ok (.lload_n 3, 1) := by decide +kernel
theorem dX0_canBeDrawn_10 : decode cX0_canBeDrawn 10 = .ok (.iconst 1, 1) := by decide +kernel
theorem dX0_canBeDrawn_11 : decode cX0_canBeDrawn 11 = .ok (.lushr, 1) := by decide +kernel
theorem dX0_canBeDrawn_12 : decode cX0_canBeDrawn 12 = .ok (.lor, 1) := by decide +kernel
theorem dX0_canBeDrawn_13 : decode cX0_canBeDrawn 13 = .ok (.lstore 5, 2) := by decide +kernel
theorem dX0_canBeDrawn_15 : decode cX0_canBeDrawn 15 = .ok (.aload_n 0, 1) := by decide +kernel
theorem dX0_canBeDrawn_16 : decode cX0_canBeDrawn 16 = .ok (.getfield 13, 3) := by decide +kernel
theorem dX0_canBeDrawn_19 : decode cX0_canBeDrawn 19 = .ok (.iload_n 1, 1) := by decide +kernel
theorem dX0_canBeDrawn_20 : decode cX0_canBeDrawn 20 = .ok (.if_icmp .ne 19, 3) := by decide +kernel
theorem dX0_canBeDrawn_23 : decode cX0_canBeDrawn 23 = .ok (.aload_n 0, 1) := by decide +kernel
theorem dX0_canBeDrawn_24 : decode cX0_canBeDrawn 24 = .ok (.getfield 16, 3) := by decide +kernel
theorem dX0_canBeDrawn_27 : decode cX0_canBeDrawn 27 = .ok (.lload 5, 2) := by decide +kernel
theorem dX0_canBeDrawn_29 : decode cX0_canBeDrawn 29 = .ok (.land, 1) := by decide +kernel
theorem dX0_canBeDrawn_30 : decode cX0_canBeDrawn 30 = .ok (.lconst 0, 1) := by decide +kernel
theorem dX0_canBeDrawn_31 : decode cX0_canBeDrawn 31 = .ok (.lcmp, 1) := by decide +kernel
theorem dX0_canBeDrawn_32 : decode cX0_canBeDrawn 32 = .ok (.ifCond .ne 7, 3) := by decide +kernel
theorem dX0_canBeDrawn_35 : decode cX0_canBeDrawn 35 = .ok (.iconst 1, 1) := by decide +kernel
theorem dX0_canBeDrawn_36 : decode cX0_canBeDrawn 36 = .ok (.goto 4, 3) := by decide +kernel
theorem dX0_canBeDrawn_39 : decode cX0_canBeDrawn 39 = .ok (.iconst 0, 1) := by decide +kernel
theorem dX0_canBeDrawn_40 : decode cX0_canBeDrawn 40 = .ok (.ireturn, 1) := by decide +kernel
theorem dX0_noteDraw_0 : decode cX0_noteDraw 0 = .ok (.aload_n 0, 1) := by decide +kernel
theorem dX0_noteDraw_1 : decode cX0_noteDraw 1 = .ok (.dup, 1) := by decide +kernel
theorem dX0_noteDraw_2 : decode cX0_noteDraw 2 = .ok (.getfield 16, 3) := by decide +kernel
theorem dX0_noteDraw_5 : decode cX0_noteDraw 5 = .ok (.lconst 1, 1) := by decide +kernel
theorem dX0_noteDraw_6 : decode cX0_noteDraw 6 = .ok (.iload_n 1, 1) := by decide +kernel
theorem dX0_noteDraw_7 : decode cX0_noteDraw 7 = .ok (.lshl, 1) := by decide +kernel
theorem dX0_noteDraw_8 : decode cX0_noteDraw 8 = .ok (.lor, 1) := by decide +kernel
theorem dX0_noteDraw_9 : decode cX0_noteDraw 9 = .ok (.putfield 16, 3) := by decide +kernel
theorem dX0_noteDraw_12 : decode cX0_noteDraw 12 = .ok (.aload_n 0, 1) := by decide +kernel
theorem dX0_noteDraw_13 : decode cX0_noteDraw 13 = .ok (.dup, 1) := by decide +kernel
theorem dX0_noteDraw_14 : decode cX0_noteDraw 14 = .ok (.getfield 20, 3) := by decide +kernel
theorem dX0_noteDraw_17 : decode cX0_noteDraw 17 = .ok (.iconst 1, 1) := by decide +kernel
theorem dX0_noteDraw_18 : decode cX0_noteDraw 18 = .ok (.iadd, 1) := by decide +kernel
theorem dX0_noteDraw_19 : decode cX0_noteDraw 19 = .ok (.putfield 20, 3) := by decide +kernel
theorem dX0_noteDraw_22 : decode cX0_noteDraw 22 = .ok (.return_, 1) := by decide +kernel
theorem dX0_hasAlwaysRested_0 : decode cX0_hasAlwaysRested 0 = .ok (.aload_n 0, 1) := by decide +kernel
theorem dX0_hasAlwaysRested_1 : decode cX0_hasAlwaysRested 1 = .ok (.getfield 16, 3) := by decide +kernel
theorem dX0_hasAlwaysRested_4 : decode cX0_hasAlwaysRested 4 = .ok (.invokestatic 23, 3) := by decide +kernel
theorem dX0_hasAlwaysRested_7 : decode cX0_hasAlwaysRested 7 = .ok (.aload_n 0, 1) := by decide +kernel
theorem dX0_hasAlwaysRested_8 : decode cX0_hasAlwaysRested 8 = .ok (.getfield 20, 3) := by decide +kernel
theorem dX0_hasAlwaysRested_11 : decode cX0_hasAlwaysRested 11 = .ok (.if_icmp .ne 23, 3) := by decide +kernel
theorem dX0_hasAlwaysRested_14 : decode cX0_hasAlwaysRested 14 = .ok (.aload_n 0, 1) := by decide +kernel
theorem dX0_hasAlwaysRested_15 : decode cX0_hasAlwaysRested 15 = .ok (.getfield 16, 3) := by decide +kernel
theorem dX0_hasAlwaysRested_18 : decode cX0_hasAlwaysRested 18 = .ok (.aload_n 0, 1) := by decide +kernel
theorem dX0_hasAlwaysRested_19 : decode cX0_hasAlwaysRested 19 = .ok (.getfield 16, 3) := by decide +kernel
theorem dX0_hasAlwaysRested_22 : decode cX0_hasAlwaysRested 22 = .ok (.iconst 1, 1) := by decide +kernel
theorem dX0_hasAlwaysRested_23 : decode cX0_hasAlwaysRested 23 = .ok (.lshl, 1) := by decide +kernel
theorem dX0_hasAlwaysRested_24 : decode cX0_hasAlwaysRested 24 = .ok (.land, 1) := by decide +kernel
theorem dX0_hasAlwaysRested_25 : decode cX0_hasAlwaysRested 25 = .ok (.lconst 0, 1) := by decide +kernel
theorem dX0_hasAlwaysRested_26 : decode cX0_hasAlwaysRested 26 = .ok (.lcmp, 1) := by decide +kernel
theorem dX0_hasAlwaysRested_27 : decode cX0_hasAlwaysRested 27 = .ok (.ifCond .ne 7, 3) := by decide +kernel
theorem dX0_hasAlwaysRested_30 : decode cX0_hasAlwaysRested 30 = .ok (.iconst 1, 1) := by decide +kernel
theorem dX0_hasAlwaysRested_31 : decode cX0_hasAlwaysRested 31 = .ok (.goto 4, 3) := by decide +kernel
theorem dX0_hasAlwaysRested_34 : decode cX0_hasAlwaysRested 34 = .ok (.iconst 0, 1) := by decide +kernel
theorem dX0_hasAlwaysRested_35 : decode cX0_hasAlwaysRested 35 = .ok (.ireturn, 1) := by decide +kernel
theorem dX0_isAheadOf_0 : decode cX0_isAheadOf 0 = .ok (.aload_n 0, 1) := by decide +kernel
theorem dX0_isAheadOf_1 : decode cX0_isAheadOf 1 = .ok (.getfield 29, 3) := by decide +kernel
theorem dX0_isAheadOf_4 : decode cX0_isAheadOf 4 = .ok (.aload_n 1, 1) := by decide +kernel
theorem dX0_isAheadOf_5 : decode cX0_isAheadOf 5 = .ok (.getfield 32, 3) := by decide +kernel
theorem dX0_isAheadOf_8 : decode cX0_isAheadOf 8 = .ok (.imul, 1) := by decide +kernel
theorem dX0_isAheadOf_9 : decode cX0_isAheadOf 9 = .ok (.aload_n 1, 1) := by decide +kernel
theorem dX0_isAheadOf_10 : decode cX0_isAheadOf 10 = .ok (.getfield 29, 3) := by decide +kernel
theorem dX0_isAheadOf_13 : decode cX0_isAheadOf 13 = .ok (.aload_n 0, 1) := by decide +kernel
theorem dX0_isAheadOf_14 : decode cX0_isAheadOf 14 = .ok (.getfield 32, 3) := by decide +kernel
theorem dX0_isAheadOf_17 : decode cX0_isAheadOf 17 = .ok (.imul, 1) := by decide +kernel
theorem dX0_isAheadOf_18 : decode cX0_isAheadOf 18 = .ok (.invokestatic 35, 3) := by decide +kernel
theorem dX0_isAheadOf_21 : decode cX0_isAheadOf 21 = .ok (.istore_n 2, 1) := by decide +kernel
theorem dX0_isAheadOf_22 : decode cX0_isAheadOf 22 = .ok (.iload_n 2, 1) := by decide +kernel
theorem dX0_isAheadOf_23 : decode cX0_isAheadOf 23 = .ok (.ifCond .eq 13, 3) := by decide +kernel
theorem dX0_isAheadOf_26 : decode cX0_isAheadOf 26 = .ok (.iload_n 2, 1) := by decide +kernel
theorem dX0_isAheadOf_27 : decode cX0_isAheadOf 27 = .ok (.ifCond .le 7, 3) := by decide +kernel
theorem dX0_isAheadOf_30 : decode cX0_isAheadOf 30 = .ok (.iconst 1, 1) := by decide +kernel
theorem dX0_isAheadOf_31 : decode cX0_isAheadOf 31 = .ok (.goto 4, 3) := by decide +kernel
theorem dX0_isAheadOf_34 : decode cX0_isAheadOf 34 = .ok (.iconst 0, 1) := by decide +kernel
theorem dX0_isAheadOf_35 : decode cX0_isAheadOf 35 = .ok (.ireturn, 1) := by decide +kernel
theorem dX0_isAheadOf_36 : decode cX0_isAheadOf 36 = .ok (.aload_n 0, 1) := by decide +kernel
theorem dX0_isAheadOf_37 : decode cX0_isAheadOf 37 = .ok (.getfield 41, 3) := by decide +kernel
theorem dX0_isAheadOf_40 : decode cX0_isAheadOf 40 = .ok (.aload_n 1, 1) := by decide +kernel
theorem dX0_isAheadOf_41 : decode cX0_isAheadOf 41 = .ok (.getfield 32, 3) := by decide +kernel
theorem dX0_isAheadOf_44 : decode cX0_isAheadOf 44 = .ok (.imul, 1) := by decide +kernel
theorem dX0_isAheadOf_45 : decode cX0_isAheadOf 45 = .ok (.aload_n 1, 1) := by decide +kernel
theorem dX0_isAheadOf_46 : decode cX0_isAheadOf 46 = .ok (.getfield 41, 3) := by decide +kernel
theorem dX0_isAheadOf_49 : decode cX0_isAheadOf 49 = .ok (.aload_n 0, 1) := by decide +kernel
theorem dX0_isAheadOf_50 : decode cX0_isAheadOf 50 = .ok (.getfield 32, 3) := by decide +kernel
theorem dX0_isAheadOf_53 : decode cX0_isAheadOf 53 = .ok (.imul, 1) := by decide +kernel
theorem dX0_isAheadOf_54 : decode cX0_isAheadOf 54 = .ok (.invokestatic 35, 3) := by decide +kernel
theorem dX0_isAheadOf_57 : decode cX0_isAheadOf 57 = .ok (.istore_n 3, 1) := by decide +kernel
theorem dX0_isAheadOf_58 : decode cX0_isAheadOf 58 = .ok (.iload_n 3, 1) := by decide +kernel
theorem dX0_isAheadOf_59 : decode cX0_isAheadOf 59 = .ok (.ifCond .eq 13, 3) := by decide +kernel
theorem dX0_isAheadOf_62 : decode cX0_isAheadOf 62 = .ok (.iload_n 3, 1) := by decide +kernel
theorem dX0_isAheadOf_63 : decode cX0_isAheadOf 63 = .ok (.ifCond .le 7, 3) := by decide +kernel
theorem dX0_isAheadOf_66 : decode cX0_isAheadOf 66 = .ok (.iconst 1, 1) := by decide +kernel
theorem dX0_isAheadOf_67 : decode cX0_isAheadOf 67 = .ok (.goto 4, 3) := by decide +kernel
theorem dX0_isAheadOf_70 : decode cX0_isAheadOf 70 = .ok (.iconst 0, 1) := by decide +kernel
theorem dX0_isAheadOf_71 : decode cX0_isAheadOf 71 = .ok (.ireturn, 1) := by decide +kernel
theorem dX0_isAheadOf_72 : decode cX0_isAheadOf 72 = .ok (.aload_n 0, 1) := by decide +kernel
theorem dX0_isAheadOf_73 : decode cX0_isAheadOf 73 = .ok (.getfield 7, 3) := by decide +kernel
theorem dX0_isAheadOf_76 : decode cX0_isAheadOf 76 = .ok (.aload_n 1, 1) := by decide +kernel
theorem dX0_isAheadOf_77 : decode cX0_isAheadOf 77 = .ok (.getfield 7, 3) := by decide +kernel
theorem dX0_isAheadOf_80 : decode cX0_isAheadOf 80 = .ok (.if_icmp .ge 7, 3) := by decide +kernel
theorem dX0_isAheadOf_83 : decode cX0_isAheadOf 83 = .ok (.iconst 1, 1) := by decide +kernel
theorem dX0_isAheadOf_84 : decode cX0_isAheadOf 84 = .ok (.goto 4, 3) := by decide +kernel
theorem dX0_isAheadOf_87 : decode cX0_isAheadOf 87 = .ok (.iconst 0, 1) := by decide +kernel
theorem dX0_isAheadOf_88 : decode cX0_isAheadOf 88 = .ok (.ireturn, 1) := by decide +kernel
