theorem dX3_init_0 : decode cX3_init 0 = .ok (.aload_n 0, 1) := by decide +kernel
theorem dX3_init_1 : decode cX3_init 1 = .ok (.invokespecial 3, 3) := by decide +kernel
theorem dX3_init_4 : decode cX3_init 4 = .ok (.aload_n 0, 1) := by decide +kernel
theorem dX3_init_5 : decode cX3_init 5 = .ok (.new 9, 3) := by decide +kernel
theorem dX3_init_8 : decode cX3_init 8 = .ok (.dup, 1) := by decide +kernel
theorem dX3_init_9 : decode cX3_init 9 = .ok (.invokespecial 11, 3) := by decide +kernel
theorem dX3_init_12 : decode cX3_init 12 = .ok (.putfield 12, 3) := by decide +kernel
theorem dX3_init_15 : decode cX3_init 15 = .ok (.aload_n 0, 1) := by decide +kernel
theorem dX3_init_16 : decode cX3_init 16 = .ok (.new 9, 3) := by decide +kernel
theorem dX3_init_19 : decode cX3_init 19 = .ok (.dup, 1) := by decide +kernel
theorem dX3_init_20 : decode cX3_init 20 = .ok (.invokespecial 11, 3) := by decide +kernel
theorem dX3_init_23 : decode cX3_init 23 = .ok (.putfield 16, 3) := by decide +kernel
theorem dX3_init_26 : decode cX3_init 26 = .ok (.aload_n 0, 1) := by decide +kernel
theorem dX3_init_27 : decode cX3_init 27 = .ok (.iconst 0, 1) := by decide +kernel
theorem dX3_init_28 : decode cX3_init 28 = .ok (.putfield 19, 3) := by decide +kernel
theorem dX3_init_31 : decode cX3_init 31 = .ok (.aload_n 0, 1) := by decide +kernel
theorem dX3_init_32 : decode cX3_init 32 = .ok (.iconst 1, 1) := by decide +kernel
theorem dX3_init_33 : decode cX3_init 33 = .ok (.putfield 23, 3) := by decide +kernel
theorem dX3_init_36 : decode cX3_init 36 = .ok (.return_, 1) := by decide +kernel
theorem dX3_beast_0 : decode cX3_beast 0 = .ok (.iload_n 1, 1) := by decide +kernel
theorem dX3_beast_1 : decode cX3_beast 1 = .ok (.invokestatic 26, 3) := by decide +kernel
theorem dX3_beast_4 : decode cX3_beast 4 = .ok (.ifCond .ne 13, 3) := by decide +kernel
theorem dX3_beast_7 : decode cX3_beast 7 = .ok (.new 30, 3) := by decide +kernel
theorem dX3_beast_10 : decode cX3_beast 10 = .ok (.dup, 1) := by decide +kernel
theorem dX3_beast_11 : decode cX3_beast 11 = .ok (.ldc 32, 2) := by decide +kernel
theorem dX3_beast_13 : decode cX3_beast 13 = .ok (.invokespecial 34, 3) := by decide +kernel
theorem dX3_beast_16 : decode cX3_beast 16 = .ok (.athrow, 1) := by decide +kernel
theorem dX3_beast_17 : decode cX3_beast 17 = .ok (.aload_n 0, 1) := by decide +kernel
theorem dX3_beast_18 : decode cX3_beast 18 = .ok (.getfield 12, 3) := by decide +kernel
theorem dX3_beast_21 : decode cX3_beast 21 = .ok (.invokevirtual 37, 3) := by decide +kernel
theorem dX3_beast_24 : decode cX3_beast 24 = .ok (.bipush 16, 2) := by decide +kernel
theorem dX3_beast_26 : decode cX3_beast 26 = .ok (.if_icmp .lt 13, 3) := by decide +kernel
theorem dX3_beast_29 : decode cX3_beast 29 = .ok (.new 41, 3) := by decide +kernel
theorem dX3_beast_32 : decode cX3_beast 32 = .ok (.dup, 1) := by decide +kernel
theorem dX3_beast_33 : decode cX3_beast 33 = .ok (.ldc 43, 2) := by decide +kernel
theorem dX3_beast_35 : decode cX3_beast 35 = .ok (.invokespecial 45, 3) := by decide +kernel
theorem dX3_beast_38 : decode cX3_beast 38 = .ok (.athrow, 1) := by decide +kernel
theorem dX3_beast_39 : decode cX3_beast 39 = .ok (.aload_n 0, 1) := by decide +kernel
theorem dX3_beast_40 : decode cX3_beast 40 = .ok (.getfield 12, 3) := by decide +kernel
theorem dX3_beast_43 : decode cX3_beast 43 = .ok (.invokevirtual 37, 3) := by decide +kernel
theorem dX3_beast_46 : decode cX3_beast 46 = .ok (.istore_n 2, 1) := by decide +kernel
theorem dX3_beast_47 : decode cX3_beast 47 = .ok (.aload_n 0, 1) := by decide +kernel
theorem dX3_beast_48 : decode cX3_beast 48 = .ok (.getfield 12, 3) := by decide +kernel
theorem dX3_beast_51 : decode cX3_beast 51 = .ok (.new 46, 3) := by decide +kernel
theorem dX3_beast_54 : decode cX3_beast 54 = .ok (.dup, 1) := by decide +kernel
theorem dX3_beast_55 : decode cX3_beast 55 = .ok (.iload_n 2, 1) := by decide +kernel
theorem dX3_beast_56 : decode cX3_beast 56 = .ok (.iload_n 1, 1) := by decide +kernel
theorem dX3_beast_57 : decode cX3_beast 57 = .ok (.invokespecial 48, 3) := by decide +kernel
theorem dX3_beast_60 : decode cX3_beast 60 = .ok (.invokevirtual 51, 3) := by decide +kernel
theorem dX3_beast_63 : decode cX3_beast 63 = .ok (.pop, 1) := by decide +kernel
theorem dX3_beast_64 : decode cX3_beast 64 = .ok (.iload_n 2, 1) := by decide +kernel
theorem dX3_beast_65 : decode cX3_beast 65 = .ok (.ireturn, 1) := by decide +kernel
theorem dX3_rider_0 : decode cX3_rider 0 = .ok (.aload_n 0, 1) := by decide +kernel
theorem dX3_rider_1 : decode cX3_rider 1 = .ok (.getfield 19, 3) := by decide +kernel
theorem dX3_rider_4 : decode cX3_rider 4 = .ok (.bipush 12, 2) := by decide +kernel
theorem dX3_rider_6 : decode cX3_rider 6 = .ok (.if_icmp .lt 13, 3) := by decide +kernel
theorem dX3_rider_9 : decode cX3_rider 9 = .ok (.new 41, 3) := by decide +kernel
theorem dX3_rider_12 : decode cX3_rider 12 = .ok (.dup, 1) := by decide +kernel
theorem dX3_rider_13 : decode cX3_rider 13 = .ok (.ldc 55, 2) := by decide +kernel
theorem dX3_rider_15 : decode cX3_rider 15 = .ok (.invokespecial 45, 3) := by decide +kernel
theorem dX3_rider_18 : decode cX3_rider 18 = .ok (.athrow, 1) := by decide +kernel
theorem dX3_rider_19 : decode cX3_rider 19 = .ok (.aload_n 0, 1) := by decide +kernel
theorem dX3_rider_20 : decode cX3_rider 20 = .ok (.dup, 1) := by decide +kernel
theorem dX3_rider_21 : decode cX3_rider 21 = .ok (.getfield 19, 3) := by decide +kernel
theorem dX3_rider_24 : decode cX3_rider 24 = .ok (.iconst 1, 1) := by decide +kernel
theorem dX3_rider_25 : decode cX3_rider 25 = .ok (.iadd, 1) := by decide +kernel
theorem dX3_rider_26 : decode cX3_rider 26 = .ok (.putfield 19, 3) := by decide +kernel
theorem dX3_rider_29 : decode cX3_rider 29 = .ok (.aload_n 0, 1) := by decide +kernel
theorem dX3_rider_30 : decode cX3_rider 30 = .ok (.getfield 19, 3) := by decide +kernel
theorem dX3_rider_33 : decode cX3_rider 33 = .ok (.iconst 1, 1) := by decide +kernel
theorem dX3_rider_34 : decode cX3_rider 34 = .ok (.isub, 1) := by decide +kernel
theorem dX3_rider_35 : decode cX3_rider 35 = .ok (.ireturn, 1) := by decide +kernel
theorem dX3_rodeo_0 : decode cX3_rodeo 0 = .ok (.iload_n 1, 1) := by decide +kernel
theorem dX3_rodeo_1 : decode cX3_rodeo 1 = .ok (.invokestatic 26, 3) := by decide +kernel
theorem dX3_rodeo_4 : decode cX3_rodeo 4 = .ok (.ifCond .eq 24, 3) := by decide +kernel
theorem dX3_rodeo_7 : decode cX3_rodeo 7 = .ok (.iload_n 2, 1) := by decide +kernel
theorem dX3_rodeo_8 : decode cX3_rodeo 8 = .ok (.iconst 0, 1) := by decide +kernel
theorem dX3_rodeo_9 : decode cX3_rodeo 9 = .ok (.sipush 2000, 3) := by decide +kernel
theorem dX3_rodeo_12 : decode cX3_rodeo 12 = .ok (.invokestatic 57, 3) := by decide +kernel
theorem dX3_rodeo_15 : decode cX3_rodeo 15 = .ok (.ifCond .eq 13, 3) := by decide +kernel
theorem dX3_rodeo_18 : decode cX3_rodeo 18 = .ok (.iload_n 3, 1) := by decide +kernel
theorem dX3_rodeo_19 : decode cX3_rodeo 19 = .ok (.iconst 0, 1) := by decide +kernel
theorem dX3_rodeo_20 : decode cX3_rodeo 20 = .ok (.bipush 60, 2) := by decide +kernel
theorem dX3_rodeo_22 : decode cX3_rodeo 22 = .ok (.invokestatic 57, 3) := by decide +kernel
theorem dX3_rodeo_25 : decode cX3_rodeo 25 = .ok (.ifCond .ne 13, 3) := by decide +kernel
theorem dX3_rodeo_28 : decode cX3_rodeo 28 = .ok (.new 30, 3) := by decide +kernel
theorem dX3_rodeo_31 : decode cX3_rodeo 31 = .ok (.dup, 1) := by decide +kernel
theorem dX3_rodeo_32 : decode cX3_rodeo 32 = .ok (.ldc 61, 2) := by decide +kernel
theorem dX3_rodeo_34 : decode cX3_rodeo 34 = .ok (.invokespecial 34, 3) := by decide +kernel
theorem dX3_rodeo_37 : decode cX3_rodeo 37 = .ok (.athrow, 1) := by decide +kernel
theorem dX3_rodeo_38 : decode cX3_rodeo 38 = .ok (.iload 4, 2) := by decide +kernel
theorem dX3_rodeo_40 : decode cX3_rodeo 40 = .ok (.iconst 1, 1) := by decide +kernel
theorem dX3_rodeo_41 : decode cX3_rodeo 41 = .ok (.iconst 4, 1) := by decide +kernel
theorem dX3_rodeo_42 : decode cX3_rodeo 42 = .ok (.invokestatic 57, 3) := by decide +kernel
theorem dX3_rodeo_45 : decode cX3_rodeo 45 = .ok (.ifCond .eq 13, 3) := by decide +kernel
theorem dX3_rodeo_48 : decode cX3_rodeo 48 = .ok (.iload 5, 2) := by decide +kernel
theorem dX3_rodeo_50 : decode cX3_rodeo 50 = .ok (.iconst 1, 1) := by decide +kernel
theorem dX3_rodeo_51 : decode cX3_rodeo 51 = .ok (.iconst 4, 1) := by decide +kernel
theorem dX3_rodeo_52 : decode cX3_rodeo 52 = .ok (.invokestatic 57, 3) := by decide +kernel
theorem dX3_rodeo_55 : decode cX3_rodeo 55 = .ok (.ifCond .ne 13, 3) := by decide +kernel
theorem dX3_rodeo_58 : decode cX3_rodeo 58 = .ok (.new 30, 3) := by decide +kernel
theorem dX3_rodeo_61 : decode cX3_rodeo 61 = .ok (.dup, 1) := by decide +kernel
theorem dX3_rodeo_62 : decode cX3_rodeo 62 = .ok (.ldc 63, 2) := by decide +kernel
theorem dX3_rodeo_64 : decode cX3_rodeo 64 = .ok (.invokespecial 34, 3) := by decide +kernel
theorem dX3_rodeo_67 : decode cX3_rodeo 67 = .ok (.athrow, 1) := by decide +kernel
theorem dX3_rodeo_68 : decode cX3_rodeo 68 = .ok (.iload 6, 2) := by decide +kernel
theorem dX3_rodeo_70 : decode cX3_rodeo 70 = .ok (.iconst 0, 1) := by decide +kernel
theorem dX3_rodeo_71 : decode cX3_rodeo 71 = .ok (.ldc 65, 2) := by decide +kernel
theorem dX3_rodeo_73 : decode cX3_rodeo 73 = .ok (.invokestatic 57, 3) := by decide +kernel
theorem dX3_rodeo_76 : decode cX3_rodeo 76 = .ok (.ifCond .eq 15, 3) := by decide +kernel
theorem dX3_rodeo_79 : decode cX3_rodeo 79 = .ok (.iload 7, 2) := by decide +kernel
theorem dX3_rodeo_81 : decode cX3_rodeo 81 = .ok (.iconst 0, 1) := by decide +kernel
theorem dX3_rodeo_82 : decode cX3_rodeo 82 = .ok (.sipush 999, 3) := by decide +kernel
theorem dX3_rodeo_85 : decode cX3_rodeo 85 = .ok (.invokestatic 57, 3) := by decide +kernel
theorem dX3_rodeo_88 : decode cX3_rodeo 88 = .ok (.ifCond .ne 13, 3) := by decide +kernel
theorem dX3_rodeo_91 : decode cX3_rodeo 91 = .ok (.new 30, 3) := by decide +kernel
theorem dX3_rodeo_94 : decode cX3_rodeo 94 = .ok (.dup, 1) := by decide +kernel
theorem dX3_rodeo_95 : decode cX3_rodeo 95 = .ok (.ldc 66, 2) := by decide +kernel
theorem dX3_rodeo_97 : decode cX3_rodeo 97 = .ok (.invokespecial 34, 3) := by decide +kernel
theorem dX3_rodeo_100 : decode cX3_rodeo 100 = .ok (.athrow, 1) := by decide +kernel
theorem dX3_rodeo_101 : decode cX3_rodeo 101 = .ok (.aload_n 0, 1) := by decide +kernel
theorem dX3_rodeo_102 : decode cX3_rodeo 102 = .ok (.getfield 16, 3) := by decide +kernel
theorem dX3_rodeo_105 : decode cX3_rodeo 105 = .ok (.invokevirtual 37, 3) := by decide +kernel
theorem dX3_rodeo_108 : decode cX3_rodeo 108 = .ok (.bipush 8, 2) := by decide +kernel
theorem dX3_rodeo_110 : decode cX3_rodeo 110 = .ok (.if_icmp .lt 13, 3) := by decide +kernel
theorem dX3_rodeo_113 : decode cX3_rodeo 113 = .ok (.new 41, 3) := by decide +kernel
theorem dX3_rodeo_116 : decode cX3_rodeo 116 = .ok (.dup, 1) := by decide +kernel
theorem dX3_rodeo_117 : decode cX3_rodeo 117 = .ok (.ldc 68, 2) := by decide +kernel
theorem dX3_rodeo_119 : decode cX3_rodeo 119 = .ok (.invokespecial 45, 3) := by decide +kernel
theorem dX3_rodeo_122 : decode cX3_rodeo 122 = .ok (.athrow, 1) := by decide +kernel
theorem dX3_rodeo_123 : decode cX3_rodeo 123 = .ok (.aload_n 0, 1) := by decide +kernel
theorem dX3_rodeo_124 : decode cX3_rodeo 124 = .ok (.getfield 16, 3) := by decide +kernel
theorem dX3_rodeo_127 : decode cX3_rodeo 127 = .ok (.new 70, 3) := by decide +kernel
theorem dX3_rodeo_130 : decode cX3_rodeo 130 = .ok (.dup, 1) := by decide +kernel
theorem dX3_rodeo_131 : decode cX3_rodeo 131 = .ok (.iload_n 1, 1) := by decide +kernel
theorem dX3_rodeo_132 : decode cX3_rodeo 132 = .ok (.iload_n 2, 1) := by decide +kernel
theorem dX3_rodeo_133 : decode cX3_rodeo 133 = .ok (.iload_n 3, 1) := by decide +kernel
theorem dX3_rodeo_134 : decode cX3_rodeo 134 = .ok (.iload 4, 2) := by decide +kernel
theorem dX3_rodeo_136 : decode cX3_rodeo 136 = .ok (.iload 5, 2) := by decide +kernel
theorem dX3_rodeo_138 : decode cX3_rodeo 138 = .ok (.iload 6, 2) := by decide +kernel
theorem dX3_rodeo_140 : decode cX3_rodeo 140 = .ok (.iload 7, 2) := by decide +kernel
theorem dX3_rodeo_142 : decode cX3_rodeo 142 = .ok (.invokespecial 72, 3) := by decide +kernel
theorem dX3_rodeo_145 : decode cX3_rodeo 145 = .ok (.invokevirtual 51, 3) := by decide +kernel
theorem dX3_rodeo_148 : decode cX3_rodeo 148 = .ok (.pop, 1) := by decide +kernel
theorem dX3_rodeo_149 : decode cX3_rodeo 149 = .ok (.aload_n 0, 1) := by decide +kernel
theorem dX3_rodeo_150 : decode cX3_rodeo 150 = .ok (.getfield 16, 3) := by decide +kernel
theorem dX3_rodeo_153 : decode cX3_rodeo 153 = .ok (.invokevirtual 37, 3) := by decide +kernel
theorem dX3_rodeo_156 : decode cX3_rodeo 156 = .ok (.iconst 1, 1) := by decide +kernel
theorem dX3_rodeo_157 : decode cX3_rodeo 157 = .ok (.isub, 1) := by decide +kernel
theorem dX3_rodeo_158 : decode cX3_rodeo 158 = .ok (.ireturn, 1) := by decide +kernel
theorem dX3_rodeoIs_0 : decode cX3_rodeoIs 0 = .ok (.aload_n 0, 1) := by decide +kernel
theorem dX3_rodeoIs_1 : decode cX3_rodeoIs 1 = .ok (.iload_n 1, 1) := by decide +kernel
theorem dX3_rodeoIs_2 : decode cX3_rodeoIs 2 = .ok (.invokevirtual 75, 3) := by decide +kernel
theorem dX3_rodeoIs_5 : decode cX3_rodeoIs 5 = .ok (.astore_n 3, 1) := by decide +kernel
theorem dX3_rodeoIs_6 : decode cX3_rodeoIs 6 = .ok (.iload_n 2, 1) := by decide +kernel
theorem dX3_rodeoIs_7 : decode cX3_rodeoIs 7 = .ok (.tableswitch 61 0 4 #[33, 38, 46, 51, 56], 33) := by decide +kernel
theorem dX3_rodeoIs_40 : decode cX3_rodeoIs 40 = .ok (.aload_n 3, 1) := by decide +kernel
theorem dX3_rodeoIs_41 : decode cX3_rodeoIs 41 = .ok (.getfield 79, 3) := by decide +kernel
theorem dX3_rodeoIs_44 : decode cX3_rodeoIs 44 = .ok (.ireturn, 1) := by decide +kernel
theorem dX3_rodeoIs_45 : decode cX3_rodeoIs 45 = .ok (.aload_n 3, 1) := by decide +kernel
theorem dX3_rodeoIs_46 : decode cX3_rodeoIs 46 = .ok (.getfield 82, 3) := by decide +kernel
theorem dX3_rodeoIs_49 : decode cX3_rodeoIs 49 = .ok (.invokevirtual 37, 3) := by decide +kernel
theorem dX3_rodeoIs_52 : decode cX3_rodeoIs 52 = .ok (.ireturn, 1) := by decide +kernel
theorem dX3_rodeoIs_53 : decode cX3_rodeoIs 53 = .ok (.aload_n 3, 1) := by decide +kernel
theorem dX3_rodeoIs_54 : decode cX3_rodeoIs 54 = .ok (.invokevirtual 85, 3) := by decide +kernel
theorem dX3_rodeoIs_57 : decode cX3_rodeoIs 57 = .ok (.ireturn, 1) := by decide +kernel
theorem dX3_rodeoIs_58 : decode cX3_rodeoIs 58 = .ok (.aload_n 3, 1) := by decide +kernel
theorem dX3_rodeoIs_59 : decode cX3_rodeoIs 59 = .ok (.invokevirtual 88, 3) := by decide +kernel
theorem dX3_rodeoIs_62 : decode cX3_rodeoIs 62 = .ok (.ireturn, 1) := by decide +kernel
theorem dX3_rodeoIs_63 : decode cX3_rodeoIs 63 = .ok (.aload_n 3, 1) := by decide +kernel
theorem dX3_rodeoIs_64 : decode cX3_rodeoIs 64 = .ok (.getfield 91, 3) := by decide +kernel
theorem dX3_rodeoIs_67 : decode cX3_rodeoIs 67 = .ok (.ireturn, 1) := by decide +kernel
theorem dX3_rodeoIs_68 : decode cX3_rodeoIs 68 = .ok (.new 30, 3) := by decide +kernel
theorem dX3_rodeoIs_71 : decode cX3_rodeoIs 71 = .ok (.dup, 1) := by decide +kernel
theorem dX3_rodeoIs_72 : decode cX3_rodeoIs 72 = .ok (.ldc 94, 2) := by decide +kernel
theorem dX3_rodeoIs_74 : decode cX3_rodeoIs 74 = .ok (.invokespecial 34, 3) := by decide +kernel
theorem dX3_rodeoIs_77 : decode cX3_rodeoIs 77 = .ok (.athrow, 1) := by decide +kernel
theorem dX3_enter_0 : decode cX3_enter 0 = .ok (.aload_n 0, 1) := by decide +kernel
theorem dX3_enter_1 : decode cX3_enter 1 = .ok (.iload_n 1, 1) := by decide +kernel
theorem dX3_enter_2 : decode cX3_enter 2 = .ok (.iload_n 2, 1) := by decide +kernel
theorem dX3_enter_3 : decode cX3_enter 3 = .ok (.invokevirtual 96, 3) := by decide +kernel
theorem dX3_enter_6 : decode cX3_enter 6 = .ok (.astore 5, 2) := by decide +kernel
theorem dX3_enter_8 : decode cX3_enter 8 = .ok (.aload_n 0, 1) := by decide +kernel
theorem dX3_enter_9 : decode cX3_enter 9 = .ok (.iload_n 1, 1) := by decide +kernel
theorem dX3_enter_10 : decode cX3_enter 10 = .ok (.invokevirtual 75, 3) := by decide +kernel
theorem dX3_enter_13 : decode cX3_enter 13 = .ok (.astore 6, 2) := by decide +kernel
theorem dX3_enter_15 : decode cX3_enter 15 = .ok (.iload_n 3, 1) := by decide +kernel
theorem dX3_enter_16 : decode cX3_enter 16 = .ok (.iconst 1, 1) := by decide +kernel
theorem dX3_enter_17 : decode cX3_enter 17 = .ok (.iconst 1, 1) := by decide +kernel
theorem dX3_enter_18 : decode cX3_enter 18 = .ok (.aload 6, 2) := by decide +kernel
theorem dX3_enter_20 : decode cX3_enter 20 = .ok (.getfield 100, 3) := by decide +kernel
theorem dX3_enter_23 : decode cX3_enter 23 = .ok (.ishl, 1) := by decide +kernel
theorem dX3_enter_24 : decode cX3_enter 24 = .ok (.iconst 1, 1) := by decide +kernel
theorem dX3_enter_25 : decode cX3_enter 25 = .ok (.isub, 1) := by decide +kernel
theorem dX3_enter_26 : decode cX3_enter 26 = .ok (.invokestatic 57, 3) := by decide +kernel
theorem dX3_enter_29 : decode cX3_enter 29 = .ok (.ifCond .ne 13, 3) := by decide +kernel
theorem dX3_enter_32 : decode cX3_enter 32 = .ok (.new 30, 3) := by decide +kernel
theorem dX3_enter_35 : decode cX3_enter 35 = .ok (.dup, 1) := by decide +kernel
theorem dX3_enter_36 : decode cX3_enter 36 = .ok (.ldc 103, 2) := by decide +kernel
theorem dX3_enter_38 : decode cX3_enter 38 = .ok (.invokespecial 34, 3) := by decide +kernel
theorem dX3_enter_41 : decode cX3_enter 41 = .ok (.athrow, 1) := by decide +kernel
theorem dX3_enter_42 : decode cX3_enter 42 = .ok (.iload 4, 2) := by decide +kernel
theorem dX3_enter_44 : decode cX3_enter 44 = .ok (.iconst 0, 1) := by decide +kernel
theorem dX3_enter_45 : decode cX3_enter 45 = .ok (.aload 6, 2) := by decide +kernel
theorem dX3_enter_47 : decode cX3_enter 47 = .ok (.getfield 100, 3) := by decide +kernel
theorem dX3_enter_50 : decode cX3_enter 50 = .ok (.iconst 1, 1) := by decide +kernel
theorem dX3_enter_51 : decode cX3_enter 51 = .ok (.isub, 1) := by decide +kernel
theorem dX3_enter_52 : decode cX3_enter 52 = .ok (.invokestatic 57, 3) := by decide +kernel
theorem dX3_enter_55 : decode cX3_enter 55 = .ok (.ifCond .eq 12, 3) := by decide +kernel
theorem dX3_enter_58 : decode cX3_enter 58 = .ok (.iload_n 3, 1) := by decide +kernel
theorem dX3_enter_59 : decode cX3_enter 59 = .ok (.iload 4, 2) := by decide +kernel
theorem dX3_enter_61 : decode cX3_enter 61 = .ok (.invokestatic 105, 3) := by decide +kernel
theorem dX3_enter_64 : decode cX3_enter 64 = .ok (.ifCond .ne 13, 3) := by decide +kernel
theorem dX3_enter_67 : decode cX3_enter 67 = .ok (.new 30, 3) := by decide +kernel
theorem dX3_enter_70 : decode cX3_enter 70 = .ok (.dup, 1) := by decide +kernel
theorem dX3_enter_71 : decode cX3_enter 71 = .ok (.ldc 109, 2) := by decide +kernel
theorem dX3_enter_73 : decode cX3_enter 73 = .ok (.invokespecial 34, 3) := by decide +kernel
theorem dX3_enter_76 : decode cX3_enter 76 = .ok (.athrow, 1) := by decide +kernel
theorem dX3_enter_77 : decode cX3_enter 77 = .ok (.aload 6, 2) := by decide +kernel
theorem dX3_enter_79 : decode cX3_enter 79 = .ok (.getfield 79, 3) := by decide +kernel
theorem dX3_enter_82 : decode cX3_enter 82 = .ok (.ifCond .ne 8, 3) := by decide +kernel
theorem dX3_enter_85 : decode cX3_enter 85 = .ok (.aload 5, 2) := by decide +kernel
theorem dX3_enter_87 : decode cX3_enter 87 = .ok (.ifnull 13, 3) := by decide +kernel
theorem dX3_enter_90 : decode cX3_enter 90 = .ok (.new 41, 3) := by decide +kernel
theorem dX3_enter_93 : decode cX3_enter 93 = .ok (.dup, 1) := by decide +kernel
theorem dX3_enter_94 : decode cX3_enter 94 = .ok (.ldc 111, 2) := by decide +kernel
theorem dX3_enter_96 : decode cX3_enter 96 = .ok (.invokespecial 45, 3) := by decide +kernel
theorem dX3_enter_99 : decode cX3_enter 99 = .ok (.athrow, 1) := by decide +kernel
theorem dX3_enter_100 : decode cX3_enter 100 = .ok (.aload 6, 2) := by decide +kernel
theorem dX3_enter_102 : decode cX3_enter 102 = .ok (.new 113, 3) := by decide +kernel
theorem dX3_enter_105 : decode cX3_enter 105 = .ok (.dup, 1) := by decide +kernel
theorem dX3_enter_106 : decode cX3_enter 106 = .ok (.iload_n 2, 1) := by decide +kernel
theorem dX3_enter_107 : decode cX3_enter 107 = .ok (.iload_n 3, 1) := by decide +kernel
theorem dX3_enter_108 : decode cX3_enter 108 = .ok (.iload 4, 2) := by decide +kernel
theorem dX3_enter_110 : decode cX3_enter 110 = .ok (.invokespecial 115, 3) := by decide +kernel
theorem dX3_enter_113 : decode cX3_enter 113 = .ok (.invokevirtual 118, 3) := by decide +kernel
theorem dX3_enter_116 : decode cX3_enter 116 = .ok (.aload 6, 2) := by decide +kernel
theorem dX3_enter_118 : decode cX3_enter 118 = .ok (.getfield 82, 3) := by decide +kernel
theorem dX3_enter_121 : decode cX3_enter 121 = .ok (.invokevirtual 37, 3) := by decide +kernel
theorem dX3_enter_124 : decode cX3_enter 124 = .ok (.ireturn, 1) := by decide +kernel
theorem dX3_close_0 : decode cX3_close 0 = .ok (.aload_n 0, 1) := by decide +kernel
theorem dX3_close_1 : decode cX3_close 1 = .ok (.iload_n 1, 1) := by decide +kernel
theorem dX3_close_2 : decode cX3_close 2 = .ok (.invokevirtual 75, 3) := by decide +kernel
theorem dX3_close_5 : decode cX3_close 5 = .ok (.astore_n 2, 1) := by decide +kernel
theorem dX3_close_6 : decode cX3_close 6 = .ok (.aload_n 2, 1) := by decide +kernel
theorem dX3_close_7 : decode cX3_close 7 = .ok (.getfield 79, 3) := by decide +kernel
theorem dX3_close_10 : decode cX3_close 10 = .ok (.ifCond .eq 13, 3) := by decide +kernel
theorem dX3_close_13 : decode cX3_close 13 = .ok (.new 41, 3) := by decide +kernel
theorem dX3_close_16 : decode cX3_close 16 = .ok (.dup, 1) := by decide +kernel
theorem dX3_close_17 : decode cX3_close 17 = .ok (.ldc 122, 2) := by decide +kernel
theorem dX3_close_19 : decode cX3_close 19 = .ok (.invokespecial 45, 3) := by decide +kernel
theorem dX3_close_22 : decode cX3_close 22 = .ok (.athrow, 1) := by decide +kernel
theorem dX3_close_23 : decode cX3_close 23 = .ok (.iconst 0, 1) := by decide +kernel
theorem dX3_close_24 : decode cX3_close 24 = .ok (.istore_n 3, 1) := by decide +kernel
theorem dX3_close_25 : decode cX3_close 25 = .ok (.iload_n 3, 1) := by decide +kernel
theorem dX3_close_26 : decode cX3_close 26 = .ok (.aload_n 2, 1) := by decide +kernel
theorem dX3_close_27 : decode cX3_close 27 = .ok (.getfield 82, 3) := by decide +kernel
theorem dX3_close_30 : decode cX3_close 30 = .ok (.invokevirtual 37, 3) := by decide +kernel
theorem dX3_close_33 : decode cX3_close 33 = .ok (.if_icmp .ge 34, 3) := by decide +kernel
theorem dX3_close_36 : decode cX3_close 36 = .ok (.aload_n 2, 1) := by decide +kernel
theorem dX3_close_37 : decode cX3_close 37 = .ok (.getfield 82, 3) := by decide +kernel
theorem dX3_close_40 : decode cX3_close 40 = .ok (.iload_n 3, 1) := by decide +kernel
theorem dX3_close_41 : decode cX3_close 41 = .ok (.invokevirtual 124, 3) := by decide +kernel
theorem dX3_close_44 : decode cX3_close 44 = .ok (.checkcast 113, 3) := by decide +kernel
theorem dX3_close_47 : decode cX3_close 47 = .ok (.astore 4, 2) := by decide +kernel
theorem dX3_close_49 : decode cX3_close 49 = .ok (.aload 4, 2) := by decide +kernel
theorem dX3_close_51 : decode cX3_close 51 = .ok (.aload_n 0, 1) := by decide +kernel
theorem dX3_close_52 : decode cX3_close 52 = .ok (.aload_n 2, 1) := by decide +kernel
theorem dX3_close_53 : decode cX3_close 53 = .ok (.aload 4, 2) := by decide +kernel
theorem dX3_close_55 : decode cX3_close 55 = .ok (.invokevirtual 128, 3) := by decide +kernel
theorem dX3_close_58 : decode cX3_close 58 = .ok (.putfield 132, 3) := by decide +kernel
theorem dX3_close_61 : decode cX3_close 61 = .ok (.iinc 3 1, 3) := by decide +kernel
theorem dX3_close_64 : decode cX3_close 64 = .ok (.goto (-39), 3) := by decide +kernel
theorem dX3_close_67 : decode cX3_close 67 = .ok (.aload_n 2, 1) := by decide +kernel
theorem dX3_close_68 : decode cX3_close 68 = .ok (.iconst 1, 1) := by decide +kernel
theorem dX3_close_69 : decode cX3_close 69 = .ok (.putfield 79, 3) := by decide +kernel
theorem dX3_close_72 : decode cX3_close 72 = .ok (.aload_n 2, 1) := by decide +kernel
theorem dX3_close_73 : decode cX3_close 73 = .ok (.invokevirtual 85, 3) := by decide +kernel
theorem dX3_close_76 : decode cX3_close 76 = .ok (.ireturn, 1) := by decide +kernel
theorem dX3_placed_0 : decode cX3_placed 0 = .ok (.aload_n 0, 1) := by decide +kernel
theorem dX3_placed_1 : decode cX3_placed 1 = .ok (.iload_n 1, 1) := by decide +kernel
theorem dX3_placed_2 : decode cX3_placed 2 = .ok (.iload_n 2, 1) := by decide +kernel
theorem dX3_placed_3 : decode cX3_placed 3 = .ok (.invokevirtual 96, 3) := by decide +kernel
theorem dX3_placed_6 : decode cX3_placed 6 = .ok (.astore_n 3, 1) := by decide +kernel
theorem dX3_placed_7 : decode cX3_placed 7 = .ok (.aload_n 3, 1) := by decide +kernel
theorem dX3_placed_8 : decode cX3_placed 8 = .ok (.ifnonnull 7, 3) := by decide +kernel
theorem dX3_placed_11 : decode cX3_placed 11 = .ok (.iconst (-1), 1) := by decide +kernel
theorem dX3_placed_12 : decode cX3_placed 12 = .ok (.goto 7, 3) := by decide +kernel
theorem dX3_placed_15 : decode cX3_placed 15 = .ok (.aload_n 3, 1) := by decide +kernel
theorem dX3_placed_16 : decode cX3_placed 16 = .ok (.getfield 132, 3) := by decide +kernel
theorem dX3_placed_19 : decode cX3_placed 19 = .ok (.ireturn, 1) := by decide +kernel
theorem dX3_most_0 : decode cX3_most 0 = .ok (.aload_n 0, 1) := by decide +kernel
theorem dX3_most_1 : decode cX3_most 1 = .ok (.iload_n 1, 1) := by decide +kernel
theorem dX3_most_2 : decode cX3_most 2 = .ok (.invokevirtual 75, 3) := by decide +kernel
theorem dX3_most_5 : decode cX3_most 5 = .ok (.astore_n 2, 1) := by decide +kernel
theorem dX3_most_6 : decode cX3_most 6 = .ok (.aload_n 2, 1) := by decide +kernel
theorem dX3_most_7 : decode cX3_most 7 = .ok (.getfield 82, 3) := by decide +kernel
theorem dX3_most_10 : decode cX3_most 10 = .ok (.invokevirtual 37, 3) := by decide +kernel
theorem dX3_most_13 : decode cX3_most 13 = .ok (.istore_n 3, 1) := by decide +kernel
theorem dX3_most_14 : decode cX3_most 14 = .ok (.iconst 0, 1) := by decide +kernel
theorem dX3_most_15 : decode cX3_most 15 = .ok (.istore 4, 2) := by decide +kernel
theorem dX3_most_17 : decode cX3_most 17 = .ok (.iload 4, 2) := by decide +kernel
theorem dX3_most_19 : decode cX3_most 19 = .ok (.iconst 1, 1) := by decide +kernel
theorem dX3_most_20 : decode cX3_most 20 = .ok (.aload_n 2, 1) := by decide +kernel
theorem dX3_most_21 : decode cX3_most 21 = .ok (.getfield 100, 3) := by decide +kernel
theorem dX3_most_24 : decode cX3_most 24 = .ok (.ishl, 1) := by decide +kernel
theorem dX3_most_25 : decode cX3_most 25 = .ok (.if_icmp .ge 36, 3) := by decide +kernel
theorem dX3_most_28 : decode cX3_most 28 = .ok (.aload_n 2, 1) := by decide +kernel
theorem dX3_most_29 : decode cX3_most 29 = .ok (.getfield 135, 3) := by decide +kernel
theorem dX3_most_32 : decode cX3_most 32 = .ok (.iload 4, 2) := by decide +kernel
theorem dX3_most_34 : decode cX3_most 34 = .ok (.invokestatic 138, 3) := by decide +kernel
theorem dX3_most_37 : decode cX3_most 37 = .ok (.imul, 1) := by decide +kernel
theorem dX3_most_38 : decode cX3_most 38 = .ok (.aload_n 0, 1) := by decide +kernel
theorem dX3_most_39 : decode cX3_most 39 = .ok (.aload_n 2, 1) := by decide +kernel
theorem dX3_most_40 : decode cX3_most 40 = .ok (.iload 4, 2) := by decide +kernel
theorem dX3_most_42 : decode cX3_most 42 = .ok (.invokevirtual 144, 3) := by decide +kernel
theorem dX3_most_45 : decode cX3_most 45 = .ok (.iadd, 1) := by decide +kernel
theorem dX3_most_46 : decode cX3_most 46 = .ok (.istore 5, 2) := by decide +kernel
theorem dX3_most_48 : decode cX3_most 48 = .ok (.iload_n 3, 1) := by decide +kernel
theorem dX3_most_49 : decode cX3_most 49 = .ok (.iload 5, 2) := by decide +kernel
theorem dX3_most_51 : decode cX3_most 51 = .ok (.invokestatic 148, 3) := by decide +kernel
theorem dX3_most_54 : decode cX3_most 54 = .ok (.istore_n 3, 1) := by decide +kernel
theorem dX3_most_55 : decode cX3_most 55 = .ok (.iinc 4 1, 3) := by decide +kernel
theorem dX3_most_58 : decode cX3_most 58 = .ok (.goto (-41), 3) := by decide +kernel
theorem dX3_most_61 : decode cX3_most 61 = .ok (.iload_n 3, 1) := by decide +kernel
theorem dX3_most_62 : decode cX3_most 62 = .ok (.ireturn, 1) := by decide +kernel
theorem dX3_hide_0 : decode cX3_hide 0 = .ok (.iload_n 1, 1) := by decide +kernel
theorem dX3_hide_1 : decode cX3_hide 1 = .ok (.iconst 0, 1) := by decide +kernel
theorem dX3_hide_2 : decode cX3_hide 2 = .ok (.ldc 154, 2) := by decide +kernel
theorem dX3_hide_4 : decode cX3_hide 4 = .ok (.invokestatic 57, 3) := by decide +kernel
theorem dX3_hide_7 : decode cX3_hide 7 = .ok (.ifCond .ne 13, 3) := by decide +kernel
theorem dX3_hide_10 : decode cX3_hide 10 = .ok (.new 30, 3) := by decide +kernel
theorem dX3_hide_13 : decode cX3_hide 13 = .ok (.dup, 1) := by decide +kernel
theorem dX3_hide_14 : decode cX3_hide 14 = .ok (.ldc 155, 2) := by decide +kernel
theorem dX3_hide_16 : decode cX3_hide 16 = .ok (.invokespecial 34, 3) := by decide +kernel
theorem dX3_hide_19 : decode cX3_hide 19 = .ok (.athrow, 1) := by decide +kernel
theorem dX3_hide_20 : decode cX3_hide 20 = .ok (.aload_n 0, 1) := by decide +kernel
theorem dX3_hide_21 : decode cX3_hide 21 = .ok (.iload_n 1, 1) := by decide +kernel
theorem dX3_hide_22 : decode cX3_hide 22 = .ok (.putfield 23, 3) := by decide +kernel
theorem dX3_hide_25 : decode cX3_hide 25 = .ok (.return_, 1) := by decide +kernel
theorem dX3_draw_0 : decode cX3_draw 0 = .ok (.aload_n 0, 1) := by decide +kernel
theorem dX3_draw_1 : decode cX3_draw 1 = .ok (.iload_n 1, 1) := by decide +kernel
theorem dX3_draw_2 : decode cX3_draw 2 = .ok (.invokevirtual 75, 3) := by decide +kernel
theorem dX3_draw_5 : decode cX3_draw 5 = .ok (.astore_n 2, 1) := by decide +kernel
theorem dX3_draw_6 : decode cX3_draw 6 = .ok (.aload_n 2, 1) := by decide +kernel
theorem dX3_draw_7 : decode cX3_draw 7 = .ok (.getfield 79, 3) := by decide +kernel
theorem dX3_draw_10 : decode cX3_draw 10 = .ok (.iconst 1, 1) := by decide +kernel
theorem dX3_draw_11 : decode cX3_draw 11 = .ok (.if_icmp .eq 13, 3) := by decide +kernel
theorem dX3_draw_14 : decode cX3_draw 14 = .ok (.new 41, 3) := by decide +kernel
theorem dX3_draw_17 : decode cX3_draw 17 = .ok (.dup, 1) := by decide +kernel
theorem dX3_draw_18 : decode cX3_draw 18 = .ok (.ldc 157, 2) := by decide +kernel
theorem dX3_draw_20 : decode cX3_draw 20 = .ok (.invokespecial 45, 3) := by decide +kernel
theorem dX3_draw_23 : decode cX3_draw 23 = .ok (.athrow, 1) := by decide +kernel
theorem dX3_draw_24 : decode cX3_draw 24 = .ok (.iconst 0, 1) := by decide +kernel
theorem dX3_draw_25 : decode cX3_draw 25 = .ok (.istore_n 3, 1) := by decide +kernel
theorem dX3_draw_26 : decode cX3_draw 26 = .ok (.iconst 0, 1) := by decide +kernel
theorem dX3_draw_27 : decode cX3_draw 27 = .ok (.istore 4, 2) := by decide +kernel
theorem dX3_draw_29 : decode cX3_draw 29 = .ok (.iload 4, 2) := by decide +kernel
theorem dX3_draw_31 : decode cX3_draw 31 = .ok (.aload_n 2, 1) := by decide +kernel
theorem dX3_draw_32 : decode cX3_draw 32 = .ok (.getfield 100, 3) := by decide +kernel
theorem dX3_draw_35 : decode cX3_draw 35 = .ok (.if_icmp .ge 19, 3) := by decide +kernel
theorem dX3_draw_38 : decode cX3_draw 38 = .ok (.iload_n 3, 1) := by decide +kernel
theorem dX3_draw_39 : decode cX3_draw 39 = .ok (.aload_n 0, 1) := by decide +kernel
theorem dX3_draw_40 : decode cX3_draw 40 = .ok (.aload_n 2, 1) := by decide +kernel
theorem dX3_draw_41 : decode cX3_draw 41 = .ok (.iload 4, 2) := by decide +kernel
theorem dX3_draw_43 : decode cX3_draw 43 = .ok (.invokevirtual 159, 3) := by decide +kernel
theorem dX3_draw_46 : decode cX3_draw 46 = .ok (.iadd, 1) := by decide +kernel
theorem dX3_draw_47 : decode cX3_draw 47 = .ok (.istore_n 3, 1) := by decide +kernel
theorem dX3_draw_48 : decode cX3_draw 48 = .ok (.iinc 4 1, 3) := by decide +kernel
theorem dX3_draw_51 : decode cX3_draw 51 = .ok (.goto (-22), 3) := by decide +kernel
theorem dX3_draw_54 : decode cX3_draw 54 = .ok (.aload_n 2, 1) := by decide +kernel
theorem dX3_draw_55 : decode cX3_draw 55 = .ok (.iconst 2, 1) := by decide +kernel
theorem dX3_draw_56 : decode cX3_draw 56 = .ok (.putfield 79, 3) := by decide +kernel
theorem dX3_draw_59 : decode cX3_draw 59 = .ok (.iload_n 3, 1) := by decide +kernel
theorem dX3_draw_60 : decode cX3_draw 60 = .ok (.ireturn, 1) := by decide +kernel
theorem dX3_drawn_0 : decode cX3_drawn 0 = .ok (.aload_n 0, 1) := by decide +kernel
theorem dX3_drawn_1 : decode cX3_drawn 1 = .ok (.iload_n 1, 1) := by decide +kernel
theorem dX3_drawn_2 : decode cX3_drawn 2 = .ok (.iload_n 2, 1) := by decide +kernel
theorem dX3_drawn_3 : decode cX3_drawn 3 = .ok (.invokevirtual 96, 3) := by decide +kernel
theorem dX3_drawn_6 : decode cX3_drawn 6 = .ok (.astore_n 3, 1) := by decide +kernel
theorem dX3_drawn_7 : decode cX3_drawn 7 = .ok (.aload_n 3, 1) := by decide +kernel
theorem dX3_drawn_8 : decode cX3_drawn 8 = .ok (.ifnonnull 7, 3) := by decide +kernel
theorem dX3_drawn_11 : decode cX3_drawn 11 = .ok (.iconst (-1), 1) := by decide +kernel
theorem dX3_drawn_12 : decode cX3_drawn 12 = .ok (.goto 7, 3) := by decide +kernel
theorem dX3_drawn_15 : decode cX3_drawn 15 = .ok (.aload_n 3, 1) := by decide +kernel
theorem dX3_drawn_16 : decode cX3_drawn 16 = .ok (.invokevirtual 162, 3) := by decide +kernel
theorem dX3_drawn_19 : decode cX3_drawn 19 = .ok (.ireturn, 1) := by decide +kernel
theorem dX3_ride_0 : decode cX3_ride 0 = .ok (.aload_n 0, 1) := by decide +kernel
theorem dX3_ride_1 : decode cX3_ride 1 = .ok (.iload_n 1, 1) := by decide +kernel
theorem dX3_ride_2 : decode cX3_ride 2 = .ok (.iload_n 2, 1) := by decide +kernel
theorem dX3_ride_3 : decode cX3_ride 3 = .ok (.invokevirtual 96, 3) := by decide +kernel
theorem dX3_ride_6 : decode cX3_ride 6 = .ok (.astore 6, 2) := by decide +kernel
theorem dX3_ride_8 : decode cX3_ride 8 = .ok (.iload_n 3, 1) := by decide +kernel
theorem dX3_ride_9 : decode cX3_ride 9 = .ok (.iconst 0, 1) := by decide +kernel
theorem dX3_ride_10 : decode cX3_ride 10 = .ok (.ldc 165, 2) := by decide +kernel
theorem dX3_ride_12 : decode cX3_ride 12 = .ok (.invokestatic 57, 3) := by decide +kernel
theorem dX3_ride_15 : decode cX3_ride 15 = .ok (.ifCond .eq 14, 3) := by decide +kernel
theorem dX3_ride_18 : decode cX3_ride 18 = .ok (.iload 4, 2) := by decide +kernel
theorem dX3_ride_20 : decode cX3_ride 20 = .ok (.iconst 0, 1) := by decide +kernel
theorem dX3_ride_21 : decode cX3_ride 21 = .ok (.ldc 166, 2) := by decide +kernel
theorem dX3_ride_23 : decode cX3_ride 23 = .ok (.invokestatic 57, 3) := by decide +kernel
theorem dX3_ride_26 : decode cX3_ride 26 = .ok (.ifCond .ne 13, 3) := by decide +kernel
theorem dX3_ride_29 : decode cX3_ride 29 = .ok (.new 30, 3) := by decide +kernel
theorem dX3_ride_32 : decode cX3_ride 32 = .ok (.dup, 1) := by decide +kernel
theorem dX3_ride_33 : decode cX3_ride 33 = .ok (.ldc 167, 2) := by decide +kernel
theorem dX3_ride_35 : decode cX3_ride 35 = .ok (.invokespecial 34, 3) := by decide +kernel
theorem dX3_ride_38 : decode cX3_ride 38 = .ok (.athrow, 1) := by decide +kernel
theorem dX3_ride_39 : decode cX3_ride 39 = .ok (.aload_n 0, 1) := by decide +kernel
theorem dX3_ride_40 : decode cX3_ride 40 = .ok (.iload_n 1, 1) := by decide +kernel
theorem dX3_ride_41 : decode cX3_ride 41 = .ok (.invokevirtual 75, 3) := by decide +kernel
theorem dX3_ride_44 : decode cX3_ride 44 = .ok (.getfield 79, 3) := by decide +kernel
theorem dX3_ride_47 : decode cX3_ride 47 = .ok (.iconst 2, 1) := by decide +kernel
theorem dX3_ride_48 : decode cX3_ride 48 = .ok (.if_icmp .ne 16, 3) := by decide +kernel
theorem dX3_ride_51 : decode cX3_ride 51 = .ok (.aload 6, 2) := by decide +kernel
theorem dX3_ride_53 : decode cX3_ride 53 = .ok (.ifnull 11, 3) := by decide +kernel
theorem dX3_ride_56 : decode cX3_ride 56 = .ok (.aload 6, 2) := by decide +kernel
theorem dX3_ride_58 : decode cX3_ride 58 = .ok (.getfield 169, 3) := by decide +kernel
theorem dX3_ride_61 : decode cX3_ride 61 = .ok (.ifCond .ne 13, 3) := by decide +kernel
theorem dX3_ride_64 : decode cX3_ride 64 = .ok (.new 41, 3) := by decide +kernel
theorem dX3_ride_67 : decode cX3_ride 67 = .ok (.dup, 1) := by decide +kernel
theorem dX3_ride_68 : decode cX3_ride 68 = .ok (.ldc 173, 2) := by decide +kernel
theorem dX3_ride_70 : decode cX3_ride 70 = .ok (.invokespecial 45, 3) := by decide +kernel
theorem dX3_ride_73 : decode cX3_ride 73 = .ok (.athrow, 1) := by decide +kernel
theorem dX3_ride_74 : decode cX3_ride 74 = .ok (.iload_n 3, 1) := by decide +kernel
theorem dX3_ride_75 : decode cX3_ride 75 = .ok (.iconst 0, 1) := by decide +kernel
theorem dX3_ride_76 : decode cX3_ride 76 = .ok (.invokestatic 175, 3) := by decide +kernel
theorem dX3_ride_79 : decode cX3_ride 79 = .ok (.iload_n 3, 1) := by decide +kernel
theorem dX3_ride_80 : decode cX3_ride 80 = .ok (.iconst 2, 1) := by decide +kernel
theorem dX3_ride_81 : decode cX3_ride 81 = .ok (.invokestatic 175, 3) := by decide +kernel
theorem dX3_ride_84 : decode cX3_ride 84 = .ok (.iadd, 1) := by decide +kernel
theorem dX3_ride_85 : decode cX3_ride 85 = .ok (.istore 7, 2) := by decide +kernel
theorem dX3_ride_87 : decode cX3_ride 87 = .ok (.iload_n 3, 1) := by decide +kernel
theorem dX3_ride_88 : decode cX3_ride 88 = .ok (.iconst 1, 1) := by decide +kernel
theorem dX3_ride_89 : decode cX3_ride 89 = .ok (.invokestatic 175, 3) := by decide +kernel
theorem dX3_ride_92 : decode cX3_ride 92 = .ok (.iload_n 3, 1) := by decide +kernel
theorem dX3_ride_93 : decode cX3_ride 93 = .ok (.iconst 3, 1) := by decide +kernel
theorem dX3_ride_94 : decode cX3_ride 94 = .ok (.invokestatic 175, 3) := by decide +kernel
theorem dX3_ride_97 : decode cX3_ride 97 = .ok (.iadd, 1) := by decide +kernel
theorem dX3_ride_98 : decode cX3_ride 98 = .ok (.istore 8, 2) := by decide +kernel
theorem dX3_ride_100 : decode cX3_ride 100 = .ok (.iload 4, 2) := by decide +kernel
theorem dX3_ride_102 : decode cX3_ride 102 = .ok (.sipush 1000, 3) := by decide +kernel
theorem dX3_ride_105 : decode cX3_ride 105 = .ok (.idiv, 1) := by decide +kernel
theorem dX3_ride_106 : decode cX3_ride 106 = .ok (.iload 4, 2) := by decide +kernel
theorem dX3_ride_108 : decode cX3_ride 108 = .ok (.sipush 1000, 3) := by decide +kernel
theorem dX3_ride_111 : decode cX3_ride 111 = .ok (.irem, 1) := by decide +kernel
theorem dX3_ride_112 : decode cX3_ride 112 = .ok (.iadd, 1) := by decide +kernel
theorem dX3_ride_113 : decode cX3_ride 113 = .ok (.sipush 1600, 3) := by decide +kernel
theorem dX3_ride_116 : decode cX3_ride 116 = .ok (.if_icmp .lt 7, 3) := by decide +kernel
theorem dX3_ride_119 : decode cX3_ride 119 = .ok (.iconst 1, 1) := by decide +kernel
theorem dX3_ride_120 : decode cX3_ride 120 = .ok (.goto 4, 3) := by decide +kernel
theorem dX3_ride_123 : decode cX3_ride 123 = .ok (.iconst 0, 1) := by decide +kernel
theorem dX3_ride_124 : decode cX3_ride 124 = .ok (.istore 9, 2) := by decide +kernel
theorem dX3_ride_126 : decode cX3_ride 126 = .ok (.aload 6, 2) := by decide +kernel
theorem dX3_ride_128 : decode cX3_ride 128 = .ok (.iload 5, 2) := by decide +kernel
theorem dX3_ride_130 : decode cX3_ride 130 = .ok (.ifCond .ne 12, 3) := by decide +kernel
theorem dX3_ride_133 : decode cX3_ride 133 = .ok (.iload 9, 2) := by decide +kernel
theorem dX3_ride_135 : decode cX3_ride 135 = .ok (.ifCond .eq 7, 3) := by decide +kernel
theorem dX3_ride_138 : decode cX3_ride 138 = .ok (.iconst 1, 1) := by decide +kernel
theorem dX3_ride_139 : decode cX3_ride 139 = .ok (.goto 4, 3) := by decide +kernel
theorem dX3_ride_142 : decode cX3_ride 142 = .ok (.iconst 0, 1) := by decide +kernel
theorem dX3_ride_143 : decode cX3_ride 143 = .ok (.iload 7, 2) := by decide +kernel
theorem dX3_ride_145 : decode cX3_ride 145 = .ok (.iload 8, 2) := by decide +kernel
theorem dX3_ride_147 : decode cX3_ride 147 = .ok (.invokevirtual 178, 3) := by decide +kernel
theorem dX3_ride_150 : decode cX3_ride 150 = .ok (.aload 6, 2) := by decide +kernel
theorem dX3_ride_152 : decode cX3_ride 152 = .ok (.getfield 182, 3) := by decide +kernel
theorem dX3_ride_155 : decode cX3_ride 155 = .ok (.ireturn, 1) := by decide +kernel
theorem dX3_isOffered_0 : decode cX3_isOffered 0 = .ok (.aload_n 0, 1) := by decide +kernel
theorem dX3_isOffered_1 : decode cX3_isOffered 1 = .ok (.iload_n 1, 1) := by decide +kernel
theorem dX3_isOffered_2 : decode cX3_isOffered 2 = .ok (.iload_n 2, 1) := by decide +kernel
theorem dX3_isOffered_3 : decode cX3_isOffered 3 = .ok (.invokevirtual 96, 3) := by decide +kernel
theorem dX3_isOffered_6 : decode cX3_isOffered 6 = .ok (.astore_n 3, 1) := by decide +kernel
theorem dX3_isOffered_7 : decode cX3_isOffered 7 = .ok (.aload_n 3, 1) := by decide +kernel
theorem dX3_isOffered_8 : decode cX3_isOffered 8 = .ok (.ifnull 14, 3) := by decide +kernel
theorem dX3_isOffered_11 : decode cX3_isOffered 11 = .ok (.aload_n 3, 1) := by decide +kernel
theorem dX3_isOffered_12 : decode cX3_isOffered 12 = .ok (.getfield 185, 3) := by decide +kernel
theorem dX3_isOffered_15 : decode cX3_isOffered 15 = .ok (.ifCond .eq 7, 3) := by decide +kernel
theorem dX3_isOffered_18 : decode cX3_isOffered 18 = .ok (.iconst 1, 1) := by decide +kernel
theorem dX3_isOffered_19 : decode cX3_isOffered 19 = .ok (.goto 4, 3) := by decide +kernel
theorem dX3_isOffered_22 : decode cX3_isOffered 22 = .ok (.iconst 0, 1) := by decide +kernel
theorem dX3_isOffered_23 : decode cX3_isOffered 23 = .ok (.ireturn, 1) := by decide +kernel
theorem dX3_answer_0 : decode cX3_answer 0 = .ok (.aload_n 0, 1) := by decide +kernel
theorem dX3_answer_1 : decode cX3_answer 1 = .ok (.iload_n 1, 1) := by decide +kernel
theorem dX3_answer_2 : decode cX3_answer 2 = .ok (.iload_n 2, 1) := by decide +kernel
theorem dX3_answer_3 : decode cX3_answer 3 = .ok (.invokevirtual 96, 3) := by decide +kernel
theorem dX3_answer_6 : decode cX3_answer 6 = .ok (.astore 4, 2) := by decide +kernel
theorem dX3_answer_8 : decode cX3_answer 8 = .ok (.aload 4, 2) := by decide +kernel
theorem dX3_answer_10 : decode cX3_answer 10 = .ok (.ifnull 11, 3) := by decide +kernel
theorem dX3_answer_13 : decode cX3_answer 13 = .ok (.aload 4, 2) := by decide +kernel
theorem dX3_answer_15 : decode cX3_answer 15 = .ok (.getfield 185, 3) := by decide +kernel
theorem dX3_answer_18 : decode cX3_answer 18 = .ok (.ifCond .ne 13, 3) := by decide +kernel
theorem dX3_answer_21 : decode cX3_answer 21 = .ok (.new 41, 3) := by decide +kernel
theorem dX3_answer_24 : decode cX3_answer 24 = .ok (.dup, 1) := by decide +kernel
theorem dX3_answer_25 : decode cX3_answer 25 = .ok (.ldc 188, 2) := by decide +kernel
theorem dX3_answer_27 : decode cX3_answer 27 = .ok (.invokespecial 45, 3) := by decide +kernel
theorem dX3_answer_30 : decode cX3_answer 30 = .ok (.athrow, 1) := by decide +kernel
theorem dX3_answer_31 : decode cX3_answer 31 = .ok (.aload 4, 2) := by decide +kernel
theorem dX3_answer_33 : decode cX3_answer 33 = .ok (.iconst 0, 1) := by decide +kernel
theorem dX3_answer_34 : decode cX3_answer 34 = .ok (.putfield 185, 3) := by decide +kernel
theorem dX3_answer_37 : decode cX3_answer 37 = .ok (.iload_n 3, 1) := by decide +kernel
theorem dX3_answer_38 : decode cX3_answer 38 = .ok (.ifCond .ne 5, 3) := by decide +kernel
theorem dX3_answer_41 : decode cX3_answer 41 = .ok (.iconst (-1), 1) := by decide +kernel
theorem dX3_answer_42 : decode cX3_answer 42 = .ok (.ireturn, 1) := by decide +kernel
theorem dX3_answer_43 : decode cX3_answer 43 = .ok (.aload 4, 2) := by decide +kernel
theorem dX3_answer_45 : decode cX3_answer 45 = .ok (.invokevirtual 190, 3) := by decide +kernel
theorem dX3_answer_48 : decode cX3_answer 48 = .ok (.aload 4, 2) := by decide +kernel
theorem dX3_answer_50 : decode cX3_answer 50 = .ok (.iconst 1, 1) := by decide +kernel
theorem dX3_answer_51 : decode cX3_answer 51 = .ok (.putfield 193, 3) := by decide +kernel
theorem dX3_answer_54 : decode cX3_answer 54 = .ok (.aload_n 0, 1) := by decide +kernel
theorem dX3_answer_55 : decode cX3_answer 55 = .ok (.aload_n 0, 1) := by decide +kernel
theorem dX3_answer_56 : decode cX3_answer 56 = .ok (.iload_n 1, 1) := by decide +kernel
theorem dX3_answer_57 : decode cX3_answer 57 = .ok (.invokevirtual 75, 3) := by decide +kernel
theorem dX3_answer_60 : decode cX3_answer 60 = .ok (.aload 4, 2) := by decide +kernel
theorem dX3_answer_62 : decode cX3_answer 62 = .ok (.invokevirtual 196, 3) := by decide +kernel
theorem dX3_answer_65 : decode cX3_answer 65 = .ok (.aload 4, 2) := by decide +kernel
theorem dX3_answer_67 : decode cX3_answer 67 = .ok (.invokevirtual 162, 3) := by decide +kernel
theorem dX3_answer_70 : decode cX3_answer 70 = .ok (.ireturn, 1) := by decide +kernel
theorem dX3_score_0 : decode cX3_score 0 = .ok (.aload_n 0, 1) := by decide +kernel
theorem dX3_score_1 : decode cX3_score 1 = .ok (.iload_n 1, 1) := by decide +kernel
theorem dX3_score_2 : decode cX3_score 2 = .ok (.iload_n 2, 1) := by decide +kernel
theorem dX3_score_3 : decode cX3_score 3 = .ok (.invokevirtual 96, 3) := by decide +kernel
theorem dX3_score_6 : decode cX3_score 6 = .ok (.astore_n 3, 1) := by decide +kernel
theorem dX3_score_7 : decode cX3_score 7 = .ok (.aload_n 3, 1) := by decide +kernel
theorem dX3_score_8 : decode cX3_score 8 = .ok (.ifnonnull 7, 3) := by decide +kernel
theorem dX3_score_11 : decode cX3_score 11 = .ok (.iconst (-1), 1) := by decide +kernel
theorem dX3_score_12 : decode cX3_score 12 = .ok (.goto 7, 3) := by decide +kernel
theorem dX3_score_15 : decode cX3_score 15 = .ok (.aload_n 3, 1) := by decide +kernel
theorem dX3_score_16 : decode cX3_score 16 = .ok (.getfield 182, 3) := by decide +kernel
theorem dX3_score_19 : decode cX3_score 19 = .ok (.ireturn, 1) := by decide +kernel
theorem dX3_beastIs_0 : decode cX3_beastIs 0 = .ok (.iload_n 1, 1) := by decide +kernel
theorem dX3_beastIs_1 : decode cX3_beastIs 1 = .ok (.ifCond .lt 14, 3) := by decide +kernel
theorem dX3_beastIs_4 : decode cX3_beastIs 4 = .ok (.iload_n 1, 1) := by decide +kernel
theorem dX3_beastIs_5 : decode cX3_beastIs 5 = .ok (.aload_n 0, 1) := by decide +kernel
theorem dX3_beastIs_6 : decode cX3_beastIs 6 = .ok (.getfield 12, 3) := by decide +kernel
theorem dX3_beastIs_9 : decode cX3_beastIs 9 = .ok (.invokevirtual 37, 3) := by decide +kernel
theorem dX3_beastIs_12 : decode cX3_beastIs 12 = .ok (.if_icmp .lt 13, 3) := by decide +kernel
theorem dX3_beastIs_15 : decode cX3_beastIs 15 = .ok (.new 200, 3) := by decide +kernel
theorem dX3_beastIs_18 : decode cX3_beastIs 18 = .ok (.dup, 1) := by decide +kernel
theorem dX3_beastIs_19 : decode cX3_beastIs 19 = .ok (.ldc 202, 2) := by decide +kernel
theorem dX3_beastIs_21 : decode cX3_beastIs 21 = .ok (.invokespecial 204, 3) := by decide +kernel
theorem dX3_beastIs_24 : decode cX3_beastIs 24 = .ok (.athrow, 1) := by decide +kernel
theorem dX3_beastIs_25 : decode cX3_beastIs 25 = .ok (.aload_n 0, 1) := by decide +kernel
theorem dX3_beastIs_26 : decode cX3_beastIs 26 = .ok (.getfield 12, 3) := by decide +kernel
theorem dX3_beastIs_29 : decode cX3_beastIs 29 = .ok (.iload_n 1, 1) := by decide +kernel
theorem dX3_beastIs_30 : decode cX3_beastIs 30 = .ok (.invokevirtual 124, 3) := by decide +kernel
theorem dX3_beastIs_33 : decode cX3_beastIs 33 = .ok (.checkcast 46, 3) := by decide +kernel
theorem dX3_beastIs_36 : decode cX3_beastIs 36 = .ok (.astore_n 3, 1) := by decide +kernel
theorem dX3_beastIs_37 : decode cX3_beastIs 37 = .ok (.iload_n 2, 1) := by decide +kernel
theorem dX3_beastIs_38 : decode cX3_beastIs 38 = .ok (.tableswitch 60 0 4 #[34, 39, 44, 49, 54], 34) := by decide +kernel
theorem dX3_beastIs_72 : decode cX3_beastIs 72 = .ok (.aload_n 3, 1) := by decide +kernel
theorem dX3_beastIs_73 : decode cX3_beastIs 73 = .ok (.getfield 205, 3) := by decide +kernel
theorem dX3_beastIs_76 : decode cX3_beastIs 76 = .ok (.ireturn, 1) := by decide +kernel
theorem dX3_beastIs_77 : decode cX3_beastIs 77 = .ok (.aload_n 3, 1) := by decide +kernel
theorem dX3_beastIs_78 : decode cX3_beastIs 78 = .ok (.getfield 208, 3) := by decide +kernel
theorem dX3_beastIs_81 : decode cX3_beastIs 81 = .ok (.ireturn, 1) := by decide +kernel
theorem dX3_beastIs_82 : decode cX3_beastIs 82 = .ok (.aload_n 3, 1) := by decide +kernel
theorem dX3_beastIs_83 : decode cX3_beastIs 83 = .ok (.getfield 211, 3) := by decide +kernel
theorem dX3_beastIs_86 : decode cX3_beastIs 86 = .ok (.ireturn, 1) := by decide +kernel
theorem dX3_beastIs_87 : decode cX3_beastIs 87 = .ok (.aload_n 3, 1) := by decide +kernel
theorem dX3_beastIs_88 : decode cX3_beastIs 88 = .ok (.getfield 214, 3) := by decide +kernel
theorem dX3_beastIs_91 : decode cX3_beastIs 91 = .ok (.ireturn, 1) := by decide +kernel
theorem dX3_beastIs_92 : decode cX3_beastIs 92 = .ok (.aload_n 0, 1) := by decide +kernel
theorem dX3_beastIs_93 : decode cX3_beastIs 93 = .ok (.aload_n 3, 1) := by decide +kernel
theorem dX3_beastIs_94 : decode cX3_beastIs 94 = .ok (.invokevirtual 217, 3) := by decide +kernel
theorem dX3_beastIs_97 : decode cX3_beastIs 97 = .ok (.ireturn, 1) := by decide +kernel
theorem dX3_beastIs_98 : decode cX3_beastIs 98 = .ok (.new 30, 3) := by decide +kernel
theorem dX3_beastIs_101 : decode cX3_beastIs 101 = .ok (.dup, 1) := by decide +kernel
theorem dX3_beastIs_102 : decode cX3_beastIs 102 = .ok (.ldc 94, 2) := by decide +kernel
theorem dX3_beastIs_104 : decode cX3_beastIs 104 = .ok (.invokespecial 34, 3) := by decide +kernel
theorem dX3_beastIs_107 : decode cX3_beastIs 107 = .ok (.athrow, 1) := by decide +kernel
theorem dX3_pay_0 : decode cX3_pay 0 = .ok (.aload_n 0, 1) := by decide +kernel
theorem dX3_pay_1 : decode cX3_pay 1 = .ok (.iload_n 1, 1) := by decide +kernel
theorem dX3_pay_2 : decode cX3_pay 2 = .ok (.invokevirtual 75, 3) := by decide +kernel
theorem dX3_pay_5 : decode cX3_pay 5 = .ok (.astore_n 2, 1) := by decide +kernel
theorem dX3_pay_6 : decode cX3_pay 6 = .ok (.aload_n 2, 1) := by decide +kernel
theorem dX3_pay_7 : decode cX3_pay 7 = .ok (.invokevirtual 221, 3) := by decide +kernel
theorem dX3_pay_10 : decode cX3_pay 10 = .ok (.ifCond .ne 13, 3) := by decide +kernel
theorem dX3_pay_13 : decode cX3_pay 13 = .ok (.new 41, 3) := by decide +kernel
theorem dX3_pay_16 : decode cX3_pay 16 = .ok (.dup, 1) := by decide +kernel
theorem dX3_pay_17 : decode cX3_pay 17 = .ok (.ldc 225, 2) := by decide +kernel
theorem dX3_pay_19 : decode cX3_pay 19 = .ok (.invokespecial 45, 3) := by decide +kernel
theorem dX3_pay_22 : decode cX3_pay 22 = .ok (.athrow, 1) := by decide +kernel
theorem dX3_pay_23 : decode cX3_pay 23 = .ok (.aload_n 2, 1) := by decide +kernel
theorem dX3_pay_24 : decode cX3_pay 24 = .ok (.invokevirtual 227, 3) := by decide +kernel
theorem dX3_pay_27 : decode cX3_pay 27 = .ok (.aload_n 2, 1) := by decide +kernel
theorem dX3_pay_28 : decode cX3_pay 28 = .ok (.invokevirtual 230, 3) := by decide +kernel
theorem dX3_pay_31 : decode cX3_pay 31 = .ok (.ireturn, 1) := by decide +kernel
theorem dX3_got_0 : decode cX3_got 0 = .ok (.aload_n 0, 1) := by decide +kernel
theorem dX3_got_1 : decode cX3_got 1 = .ok (.iload_n 1, 1) := by decide +kernel
theorem dX3_got_2 : decode cX3_got 2 = .ok (.iload_n 2, 1) := by decide +kernel
theorem dX3_got_3 : decode cX3_got 3 = .ok (.invokevirtual 96, 3) := by decide +kernel
theorem dX3_got_6 : decode cX3_got 6 = .ok (.astore_n 3, 1) := by decide +kernel
theorem dX3_got_7 : decode cX3_got 7 = .ok (.aload_n 3, 1) := by decide +kernel
theorem dX3_got_8 : decode cX3_got 8 = .ok (.ifnonnull 7, 3) := by decide +kernel
theorem dX3_got_11 : decode cX3_got 11 = .ok (.iconst 0, 1) := by decide +kernel
theorem dX3_got_12 : decode cX3_got 12 = .ok (.goto 7, 3) := by decide +kernel
theorem dX3_got_15 : decode cX3_got 15 = .ok (.aload_n 3, 1) := by decide +kernel
theorem dX3_got_16 : decode cX3_got 16 = .ok (.getfield 233, 3) := by decide +kernel
theorem dX3_got_19 : decode cX3_got 19 = .ok (.ireturn, 1) := by decide +kernel
theorem dX3_counts_0 : decode cX3_counts 0 = .ok (.aload_n 0, 1) := by decide +kernel
theorem dX3_counts_1 : decode cX3_counts 1 = .ok (.iload_n 1, 1) := by decide +kernel
theorem dX3_counts_2 : decode cX3_counts 2 = .ok (.invokevirtual 236, 3) := by decide +kernel
theorem dX3_counts_5 : decode cX3_counts 5 = .ok (.aload_n 0, 1) := by decide +kernel
theorem dX3_counts_6 : decode cX3_counts 6 = .ok (.iload_n 1, 1) := by decide +kernel
theorem dX3_counts_7 : decode cX3_counts 7 = .ok (.invokevirtual 240, 3) := by decide +kernel
theorem dX3_counts_10 : decode cX3_counts 10 = .ok (.ireturn, 1) := by decide +kernel
theorem dX3_ranked_0 : decode cX3_ranked 0 = .ok (.iload_n 1, 1) := by decide +kernel
theorem dX3_ranked_1 : decode cX3_ranked 1 = .ok (.iconst 0, 1) := by decide +kernel
theorem dX3_ranked_2 : decode cX3_ranked 2 = .ok (.bipush 11, 2) := by decide +kernel
theorem dX3_ranked_4 : decode cX3_ranked 4 = .ok (.invokestatic 57, 3) := by decide +kernel
theorem dX3_ranked_7 : decode cX3_ranked 7 = .ok (.ifCond .ne 13, 3) := by decide +kernel
theorem dX3_ranked_10 : decode cX3_ranked 10 = .ok (.new 30, 3) := by decide +kernel
theorem dX3_ranked_13 : decode cX3_ranked 13 = .ok (.dup, 1) := by decide +kernel
theorem dX3_ranked_14 : decode cX3_ranked 14 = .ok (.ldc 243, 2) := by decide +kernel
theorem dX3_ranked_16 : decode cX3_ranked 16 = .ok (.invokespecial 34, 3) := by decide +kernel
theorem dX3_ranked_19 : decode cX3_ranked 19 = .ok (.athrow, 1) := by decide +kernel
theorem dX3_ranked_20 : decode cX3_ranked 20 = .ok (.iconst 0, 1) := by decide +kernel
theorem dX3_ranked_21 : decode cX3_ranked 21 = .ok (.istore_n 2, 1) := by decide +kernel
theorem dX3_ranked_22 : decode cX3_ranked 22 = .ok (.iload_n 2, 1) := by decide +kernel
theorem dX3_ranked_23 : decode cX3_ranked 23 = .ok (.aload_n 0, 1) := by decide +kernel
theorem dX3_ranked_24 : decode cX3_ranked 24 = .ok (.getfield 19, 3) := by decide +kernel
theorem dX3_ranked_27 : decode cX3_ranked 27 = .ok (.if_icmp .ge 20, 3) := by decide +kernel
theorem dX3_ranked_30 : decode cX3_ranked 30 = .ok (.aload_n 0, 1) := by decide +kernel
theorem dX3_ranked_31 : decode cX3_ranked 31 = .ok (.iload_n 2, 1) := by decide +kernel
theorem dX3_ranked_32 : decode cX3_ranked 32 = .ok (.invokevirtual 245, 3) := by decide +kernel
theorem dX3_ranked_35 : decode cX3_ranked 35 = .ok (.iload_n 1, 1) := by decide +kernel
theorem dX3_ranked_36 : decode cX3_ranked 36 = .ok (.if_icmp .ne 5, 3) := by decide +kernel
theorem dX3_ranked_39 : decode cX3_ranked 39 = .ok (.iload_n 2, 1) := by decide +kernel
theorem dX3_ranked_40 : decode cX3_ranked 40 = .ok (.ireturn, 1) := by decide +kernel
theorem dX3_ranked_41 : decode cX3_ranked 41 = .ok (.iinc 2 1, 3) := by decide +kernel
theorem dX3_ranked_44 : decode cX3_ranked 44 = .ok (.goto (-22), 3) := by decide +kernel
theorem dX3_ranked_47 : decode cX3_ranked 47 = .ok (.iconst (-1), 1) := by decide +kernel
theorem dX3_ranked_48 : decode cX3_ranked 48 = .ok (.ireturn, 1) := by decide +kernel
theorem dX3_balances_0 : decode cX3_balances 0 = .ok (.iconst 0, 1) := by decide +kernel
theorem dX3_balances_1 : decode cX3_balances 1 = .ok (.istore_n 1, 1) := by decide +kernel
theorem dX3_balances_2 : decode cX3_balances 2 = .ok (.iload_n 1, 1) := by decide +kernel
theorem dX3_balances_3 : decode cX3_balances 3 = .ok (.aload_n 0, 1) := by decide +kernel
theorem dX3_balances_4 : decode cX3_balances 4 = .ok (.getfield 16, 3) := by decide +kernel
theorem dX3_balances_7 : decode cX3_balances 7 = .ok (.invokevirtual 37, 3) := by decide +kernel
theorem dX3_balances_10 : decode cX3_balances 10 = .ok (.if_icmp .ge 28, 3) := by decide +kernel
theorem dX3_balances_13 : decode cX3_balances 13 = .ok (.aload_n 0, 1) := by decide +kernel
theorem dX3_balances_14 : decode cX3_balances 14 = .ok (.getfield 16, 3) := by decide +kernel
theorem dX3_balances_17 : decode cX3_balances 17 = .ok (.iload_n 1, 1) := by decide +kernel
theorem dX3_balances_18 : decode cX3_balances 18 = .ok (.invokevirtual 124, 3) := by decide +kernel
theorem dX3_balances_21 : decode cX3_balances 21 = .ok (.checkcast 70, 3) := by decide +kernel
theorem dX3_balances_24 : decode cX3_balances 24 = .ok (.invokevirtual 248, 3) := by decide +kernel
theorem dX3_balances_27 : decode cX3_balances 27 = .ok (.ifCond .ne 5, 3) := by decide +kernel
theorem dX3_balances_30 : decode cX3_balances 30 = .ok (.iconst 0, 1) := by decide +kernel
theorem dX3_balances_31 : decode cX3_balances 31 = .ok (.ireturn, 1) := by decide +kernel
theorem dX3_balances_32 : decode cX3_balances 32 = .ok (.iinc 1 1, 3) := by decide +kernel
theorem dX3_balances_35 : decode cX3_balances 35 = .ok (.goto (-33), 3) := by decide +kernel
theorem dX3_balances_38 : decode cX3_balances 38 = .ok (.iconst 0, 1) := by decide +kernel
theorem dX3_balances_39 : decode cX3_balances 39 = .ok (.istore_n 1, 1) := by decide +kernel
theorem dX3_balances_40 : decode cX3_balances 40 = .ok (.iload_n 1, 1) := by decide +kernel
theorem dX3_balances_41 : decode cX3_balances 41 = .ok (.aload_n 0, 1) := by decide +kernel
theorem dX3_balances_42 : decode cX3_balances 42 = .ok (.getfield 12, 3) := by decide +kernel
theorem dX3_balances_45 : decode cX3_balances 45 = .ok (.invokevirtual 37, 3) := by decide +kernel
theorem dX3_balances_48 : decode cX3_balances 48 = .ok (.if_icmp .ge 28, 3) := by decide +kernel
theorem dX3_balances_51 : decode cX3_balances 51 = .ok (.aload_n 0, 1) := by decide +kernel
theorem dX3_balances_52 : decode cX3_balances 52 = .ok (.getfield 12, 3) := by decide +kernel
theorem dX3_balances_55 : decode cX3_balances 55 = .ok (.iload_n 1, 1) := by decide +kernel
theorem dX3_balances_56 : decode cX3_balances 56 = .ok (.invokevirtual 124, 3) := by decide +kernel
theorem dX3_balances_59 : decode cX3_balances 59 = .ok (.checkcast 46, 3) := by decide +kernel
theorem dX3_balances_62 : decode cX3_balances 62 = .ok (.invokevirtual 251, 3) := by decide +kernel
theorem dX3_balances_65 : decode cX3_balances 65 = .ok (.ifCond .ne 5, 3) := by decide +kernel
theorem dX3_balances_68 : decode cX3_balances 68 = .ok (.iconst 0, 1) := by decide +kernel
theorem dX3_balances_69 : decode cX3_balances 69 = .ok (.ireturn, 1) := by decide +kernel
theorem dX3_balances_70 : decode cX3_balances 70 = .ok (.iinc 1 1, 3) := by decide +kernel
theorem dX3_balances_73 : decode cX3_balances 73 = .ok (.goto (-33), 3) := by decide +kernel
theorem dX3_balances_76 : decode cX3_balances 76 = .ok (.iconst 1, 1) := by decide +kernel
theorem dX3_balances_77 : decode cX3_balances 77 = .ok (.ireturn, 1) := by decide +kernel
theorem dX3_isWithin_0 : decode cX3_isWithin 0 = .ok (.iload_n 0, 1) := by decide +kernel
theorem dX3_isWithin_1 : decode cX3_isWithin 1 = .ok (.iload_n 1, 1) := by decide +kernel
theorem dX3_isWithin_2 : decode cX3_isWithin 2 = .ok (.if_icmp .lt 12, 3) := by decide +kernel
theorem dX3_isWithin_5 : decode cX3_isWithin 5 = .ok (.iload_n 0, 1) := by decide +kernel
theorem dX3_isWithin_6 : decode cX3_isWithin 6 = .ok (.iload_n 2, 1) := by decide +kernel
theorem dX3_isWithin_7 : decode cX3_isWithin 7 = .ok (.if_icmp .gt 7, 3) := by decide +kernel
theorem dX3_isWithin_10 : decode cX3_isWithin 10 = .ok (.iconst 1, 1) := by decide +kernel
theorem dX3_isWithin_11 : decode cX3_isWithin 11 = .ok (.goto 4, 3) := by decide +kernel
theorem dX3_isWithin_14 : decode cX3_isWithin 14 = .ok (.iconst 0, 1) := by decide +kernel
theorem dX3_isWithin_15 : decode cX3_isWithin 15 = .ok (.ireturn, 1) := by decide +kernel
theorem dX3_isKind_0 : decode cX3_isKind 0 = .ok (.iload_n 0, 1) := by decide +kernel
theorem dX3_isKind_1 : decode cX3_isKind 1 = .ok (.ifCond .eq 8, 3) := by decide +kernel
theorem dX3_isKind_4 : decode cX3_isKind 4 = .ok (.iload_n 0, 1) := by decide +kernel
theorem dX3_isKind_5 : decode cX3_isKind 5 = .ok (.iconst 1, 1) := by decide +kernel
theorem dX3_isKind_6 : decode cX3_isKind 6 = .ok (.if_icmp .ne 7, 3) := by decide +kernel
theorem dX3_isKind_9 : decode cX3_isKind 9 = .ok (.iconst 1, 1) := by decide +kernel
theorem dX3_isKind_10 : decode cX3_isKind 10 = .ok (.goto 4, 3) := by decide +kernel
theorem dX3_isKind_13 : decode cX3_isKind 13 = .ok (.iconst 0, 1) := by decide +kernel
theorem dX3_isKind_14 : decode cX3_isKind 14 = .ok (.ireturn, 1) := by decide +kernel
theorem dX3_isInSet_0 : decode cX3_isInSet 0 = .ok (.iload_n 0, 1) := by decide +kernel
theorem dX3_isInSet_1 : decode cX3_isInSet 1 = .ok (.iload_n 1, 1) := by decide +kernel
theorem dX3_isInSet_2 : decode cX3_isInSet 2 = .ok (.ishr, 1) := by decide +kernel
theorem dX3_isInSet_3 : decode cX3_isInSet 3 = .ok (.iconst 1, 1) := by decide +kernel
theorem dX3_isInSet_4 : decode cX3_isInSet 4 = .ok (.iand, 1) := by decide +kernel
theorem dX3_isInSet_5 : decode cX3_isInSet 5 = .ok (.iconst 1, 1) := by decide +kernel
theorem dX3_isInSet_6 : decode cX3_isInSet 6 = .ok (.if_icmp .ne 7, 3) := by decide +kernel
theorem dX3_isInSet_9 : decode cX3_isInSet 9 = .ok (.iconst 1, 1) := by decide +kernel
theorem dX3_isInSet_10 : decode cX3_isInSet 10 = .ok (.goto 4, 3) := by decide +kernel
theorem dX3_isInSet_13 : decode cX3_isInSet 13 = .ok (.iconst 0, 1) := by decide +kernel
theorem dX3_isInSet_14 : decode cX3_isInSet 14 = .ok (.ireturn, 1) := by decide +kernel
theorem dX3_markAt_0 : decode cX3_markAt 0 = .ok (.iload_n 0, 1) := by decide +kernel
theorem dX3_markAt_1 : decode cX3_markAt 1 = .ok (.istore_n 2, 1) := by decide +kernel
theorem dX3_markAt_2 : decode cX3_markAt 2 = .ok (.iconst 0, 1) := by decide +kernel
theorem dX3_markAt_3 : decode cX3_markAt 3 = .ok (.istore_n 3, 1) := by decide +kernel
theorem dX3_markAt_4 : decode cX3_markAt 4 = .ok (.iload_n 3, 1) := by decide +kernel
theorem dX3_markAt_5 : decode cX3_markAt 5 = .ok (.iload_n 1, 1) := by decide +kernel
theorem dX3_markAt_6 : decode cX3_markAt 6 = .ok (.if_icmp .ge 14, 3) := by decide +kernel
theorem dX3_markAt_9 : decode cX3_markAt 9 = .ok (.iload_n 2, 1) := by decide +kernel
theorem dX3_markAt_10 : decode cX3_markAt 10 = .ok (.bipush 26, 2) := by decide +kernel
theorem dX3_markAt_12 : decode cX3_markAt 12 = .ok (.idiv, 1) := by decide +kernel
theorem dX3_markAt_13 : decode cX3_markAt 13 = .ok (.istore_n 2, 1) := by decide +kernel
theorem dX3_markAt_14 : decode cX3_markAt 14 = .ok (.iinc 3 1, 3) := by decide +kernel
theorem dX3_markAt_17 : decode cX3_markAt 17 = .ok (.goto (-13), 3) := by decide +kernel
theorem dX3_markAt_20 : decode cX3_markAt 20 = .ok (.iload_n 2, 1) := by decide +kernel
theorem dX3_markAt_21 : decode cX3_markAt 21 = .ok (.bipush 26, 2) := by decide +kernel
theorem dX3_markAt_23 : decode cX3_markAt 23 = .ok (.irem, 1) := by decide +kernel
theorem dX3_markAt_24 : decode cX3_markAt 24 = .ok (.ireturn, 1) := by decide +kernel
theorem dX3_split_0 : decode cX3_split 0 = .ok (.iload_n 1, 1) := by decide +kernel
theorem dX3_split_1 : decode cX3_split 1 = .ok (.iconst 1, 1) := by decide +kernel
theorem dX3_split_2 : decode cX3_split 2 = .ok (.if_icmp .ge 7, 3) := by decide +kernel
theorem dX3_split_5 : decode cX3_split 5 = .ok (.iconst 0, 1) := by decide +kernel
theorem dX3_split_6 : decode cX3_split 6 = .ok (.goto 6, 3) := by decide +kernel
theorem dX3_split_9 : decode cX3_split 9 = .ok (.iload_n 0, 1) := by decide +kernel
theorem dX3_split_10 : decode cX3_split 10 = .ok (.iload_n 1, 1) := by decide +kernel
theorem dX3_split_11 : decode cX3_split 11 = .ok (.idiv, 1) := by decide +kernel
theorem dX3_split_12 : decode cX3_split 12 = .ok (.ireturn, 1) := by decide +kernel
theorem dX3_rodeoAt_0 : decode cX3_rodeoAt 0 = .ok (.iload_n 1, 1) := by decide +kernel
theorem dX3_rodeoAt_1 : decode cX3_rodeoAt 1 = .ok (.ifCond .lt 14, 3) := by decide +kernel
theorem dX3_rodeoAt_4 : decode cX3_rodeoAt 4 = .ok (.iload_n 1, 1) := by decide +kernel
theorem dX3_rodeoAt_5 : decode cX3_rodeoAt 5 = .ok (.aload_n 0, 1) := by decide +kernel
theorem dX3_rodeoAt_6 : decode cX3_rodeoAt 6 = .ok (.getfield 16, 3) := by decide +kernel
theorem dX3_rodeoAt_9 : decode cX3_rodeoAt 9 = .ok (.invokevirtual 37, 3) := by decide +kernel
theorem dX3_rodeoAt_12 : decode cX3_rodeoAt 12 = .ok (.if_icmp .lt 13, 3) := by decide +kernel
theorem dX3_rodeoAt_15 : decode cX3_rodeoAt 15 = .ok (.new 200, 3) := by decide +kernel
theorem dX3_rodeoAt_18 : decode cX3_rodeoAt 18 = .ok (.dup, 1) := by decide +kernel
theorem dX3_rodeoAt_19 : decode cX3_rodeoAt 19 = .ok (.ldc 254, 2) := by decide +kernel
theorem dX3_rodeoAt_21 : decode cX3_rodeoAt 21 = .ok (.invokespecial 204, 3) := by decide +kernel
theorem dX3_rodeoAt_24 : decode cX3_rodeoAt 24 = .ok (.athrow, 1) := by decide +kernel
theorem dX3_rodeoAt_25 : decode cX3_rodeoAt 25 = .ok (.aload_n 0, 1) := by decide +kernel
theorem dX3_rodeoAt_26 : decode cX3_rodeoAt 26 = .ok (.getfield 16, 3) := by decide +kernel
theorem dX3_rodeoAt_29 : decode cX3_rodeoAt 29 = .ok (.iload_n 1, 1) := by decide +kernel
theorem dX3_rodeoAt_30 : decode cX3_rodeoAt 30 = .ok (.invokevirtual 124, 3) := by decide +kernel
theorem dX3_rodeoAt_33 : decode cX3_rodeoAt 33 = .ok (.checkcast 70, 3) := by decide +kernel
theorem dX3_rodeoAt_36 : decode cX3_rodeoAt 36 = .ok (.areturn, 1) := by decide +kernel
theorem dX3_checkRider_0 : decode cX3_checkRider 0 = .ok (.iload_n 1, 1) := by decide +kernel
theorem dX3_checkRider_1 : decode cX3_checkRider 1 = .ok (.ifCond .lt 11, 3) := by decide +kernel
theorem dX3_checkRider_4 : decode cX3_checkRider 4 = .ok (.iload_n 1, 1) := by decide +kernel
theorem dX3_checkRider_5 : decode cX3_checkRider 5 = .ok (.aload_n 0, 1) := by decide +kernel
theorem dX3_checkRider_6 : decode cX3_checkRider 6 = .ok (.getfield 19, 3) := by decide +kernel
theorem dX3_checkRider_9 : decode cX3_checkRider 9 = .ok (.if_icmp .lt 14, 3) := by decide +kernel
theorem dX3_checkRider_12 : decode cX3_checkRider 12 = .ok (.new 200, 3) := by decide +kernel
theorem dX3_checkRider_15 : decode cX3_checkRider 15 = .ok (.dup, 1) := by decide +kernel
theorem dX3_checkRider_16 : decode cX3_checkRider 16 = .ok (.ldc_w 256, 3) := by decide +kernel
theorem dX3_checkRider_19 : decode cX3_checkRider 19 = .ok (.invokespecial 204, 3) := by decide +kernel
theorem dX3_checkRider_22 : decode cX3_checkRider 22 = .ok (.athrow, 1) := by decide +kernel
theorem dX3_checkRider_23 : decode cX3_checkRider 23 = .ok (.return_, 1) := by decide +kernel
theorem dX3_entryAt_0 : decode cX3_entryAt 0 = .ok (.aload_n 0, 1) := by decide +kernel
theorem dX3_entryAt_1 : decode cX3_entryAt 1 = .ok (.iload_n 1, 1) := by decide +kernel
theorem dX3_entryAt_2 : decode cX3_entryAt 2 = .ok (.invokevirtual 75, 3) := by decide +kernel
theorem dX3_entryAt_5 : decode cX3_entryAt 5 = .ok (.astore_n 3, 1) := by decide +kernel
theorem dX3_entryAt_6 : decode cX3_entryAt 6 = .ok (.aload_n 0, 1) := by decide +kernel
theorem dX3_entryAt_7 : decode cX3_entryAt 7 = .ok (.iload_n 2, 1) := by decide +kernel
theorem dX3_entryAt_8 : decode cX3_entryAt 8 = .ok (.invokevirtual 236, 3) := by decide +kernel
theorem dX3_entryAt_11 : decode cX3_entryAt 11 = .ok (.aload_n 3, 1) := by decide +kernel
theorem dX3_entryAt_12 : decode cX3_entryAt 12 = .ok (.iload_n 2, 1) := by decide +kernel
theorem dX3_entryAt_13 : decode cX3_entryAt 13 = .ok (.invokevirtual 258, 3) := by decide +kernel
theorem dX3_entryAt_16 : decode cX3_entryAt 16 = .ok (.areturn, 1) := by decide +kernel
theorem dX3_performanceFor_0 : decode cX3_performanceFor 0 = .ok (.aload_n 0, 1) := by decide +kernel
theorem dX3_performanceFor_1 : decode cX3_performanceFor 1 = .ok (.aload_n 1, 1) := by decide +kernel
theorem dX3_performanceFor_2 : decode cX3_performanceFor 2 = .ok (.aload_n 2, 1) := by decide +kernel
theorem dX3_performanceFor_3 : decode cX3_performanceFor 3 = .ok (.getfield 262, 3) := by decide +kernel
theorem dX3_performanceFor_6 : decode cX3_performanceFor 6 = .ok (.aload_n 2, 1) := by decide +kernel
theorem dX3_performanceFor_7 : decode cX3_performanceFor 7 = .ok (.getfield 265, 3) := by decide +kernel
theorem dX3_performanceFor_10 : decode cX3_performanceFor 10 = .ok (.invokevirtual 268, 3) := by decide +kernel
theorem dX3_performanceFor_13 : decode cX3_performanceFor 13 = .ok (.ifCond .eq 8, 3) := by decide +kernel
theorem dX3_performanceFor_16 : decode cX3_performanceFor 16 = .ok (.aload_n 2, 1) := by decide +kernel
theorem dX3_performanceFor_17 : decode cX3_performanceFor 17 = .ok (.getfield 265, 3) := by decide +kernel
theorem dX3_performanceFor_20 : decode cX3_performanceFor 20 = .ok (.ireturn, 1) := by decide +kernel
theorem dX3_performanceFor_21 : decode cX3_performanceFor 21 = .ok (.iconst 0, 1) := by decide +kernel
theorem dX3_performanceFor_22 : decode cX3_performanceFor 22 = .ok (.istore_n 3, 1) := by decide +kernel
theorem dX3_performanceFor_23 : decode cX3_performanceFor 23 = .ok (.iload_n 3, 1) := by decide +kernel
theorem dX3_performanceFor_24 : decode cX3_performanceFor 24 = .ok (.aload_n 1, 1) := by decide +kernel
theorem dX3_performanceFor_25 : decode cX3_performanceFor 25 = .ok (.getfield 100, 3) := by decide +kernel
theorem dX3_performanceFor_28 : decode cX3_performanceFor 28 = .ok (.if_icmp .ge 35, 3) := by decide +kernel
theorem dX3_performanceFor_31 : decode cX3_performanceFor 31 = .ok (.aload_n 2, 1) := by decide +kernel
theorem dX3_performanceFor_32 : decode cX3_performanceFor 32 = .ok (.getfield 272, 3) := by decide +kernel
theorem dX3_performanceFor_35 : decode cX3_performanceFor 35 = .ok (.iload_n 3, 1) := by decide +kernel
theorem dX3_performanceFor_36 : decode cX3_performanceFor 36 = .ok (.invokestatic 105, 3) := by decide +kernel
theorem dX3_performanceFor_39 : decode cX3_performanceFor 39 = .ok (.ifCond .eq 18, 3) := by decide +kernel
theorem dX3_performanceFor_42 : decode cX3_performanceFor 42 = .ok (.aload_n 0, 1) := by decide +kernel
theorem dX3_performanceFor_43 : decode cX3_performanceFor 43 = .ok (.aload_n 1, 1) := by decide +kernel
theorem dX3_performanceFor_44 : decode cX3_performanceFor 44 = .ok (.aload_n 2, 1) := by decide +kernel
theorem dX3_performanceFor_45 : decode cX3_performanceFor 45 = .ok (.getfield 262, 3) := by decide +kernel
theorem dX3_performanceFor_48 : decode cX3_performanceFor 48 = .ok (.iload_n 3, 1) := by decide +kernel
theorem dX3_performanceFor_49 : decode cX3_performanceFor 49 = .ok (.invokevirtual 268, 3) := by decide +kernel
theorem dX3_performanceFor_52 : decode cX3_performanceFor 52 = .ok (.ifCond .eq 5, 3) := by decide +kernel
theorem dX3_performanceFor_55 : decode cX3_performanceFor 55 = .ok (.iload_n 3, 1) := by decide +kernel
theorem dX3_performanceFor_56 : decode cX3_performanceFor 56 = .ok (.ireturn, 1) := by decide +kernel
theorem dX3_performanceFor_57 : decode cX3_performanceFor 57 = .ok (.iinc 3 1, 3) := by decide +kernel
theorem dX3_performanceFor_60 : decode cX3_performanceFor 60 = .ok (.goto (-37), 3) := by decide +kernel
theorem dX3_performanceFor_63 : decode cX3_performanceFor 63 = .ok (.iconst (-1), 1) := by decide +kernel
theorem dX3_performanceFor_64 : decode cX3_performanceFor 64 = .ok (.ireturn, 1) := by decide +kernel
theorem dX3_canBePlaced_0 : decode cX3_canBePlaced 0 = .ok (.aload_n 1, 1) := by decide +kernel
theorem dX3_canBePlaced_1 : decode cX3_canBePlaced 1 = .ok (.iload_n 3, 1) := by decide +kernel
theorem dX3_canBePlaced_2 : decode cX3_canBePlaced 2 = .ok (.invokevirtual 275, 3) := by decide +kernel
theorem dX3_canBePlaced_5 : decode cX3_canBePlaced 5 = .ok (.aload_n 1, 1) := by decide +kernel
theorem dX3_canBePlaced_6 : decode cX3_canBePlaced 6 = .ok (.getfield 135, 3) := by decide +kernel
theorem dX3_canBePlaced_9 : decode cX3_canBePlaced 9 = .ok (.if_icmp .ge 17, 3) := by decide +kernel
theorem dX3_canBePlaced_12 : decode cX3_canBePlaced 12 = .ok (.aload_n 0, 1) := by decide +kernel
theorem dX3_canBePlaced_13 : decode cX3_canBePlaced 13 = .ok (.aload_n 1, 1) := by decide +kernel
theorem dX3_canBePlaced_14 : decode cX3_canBePlaced 14 = .ok (.iload_n 2, 1) := by decide +kernel
theorem dX3_canBePlaced_15 : decode cX3_canBePlaced 15 = .ok (.iload_n 3, 1) := by decide +kernel
theorem dX3_canBePlaced_16 : decode cX3_canBePlaced 16 = .ok (.invokevirtual 278, 3) := by decide +kernel
theorem dX3_canBePlaced_19 : decode cX3_canBePlaced 19 = .ok (.ifCond .eq 7, 3) := by decide +kernel
theorem dX3_canBePlaced_22 : decode cX3_canBePlaced 22 = .ok (.iconst 1, 1) := by decide +kernel
theorem dX3_canBePlaced_23 : decode cX3_canBePlaced 23 = .ok (.goto 4, 3) := by decide +kernel
theorem dX3_canBePlaced_26 : decode cX3_canBePlaced 26 = .ok (.iconst 0, 1) := by decide +kernel
theorem dX3_canBePlaced_27 : decode cX3_canBePlaced 27 = .ok (.ireturn, 1) := by decide +kernel
theorem dX3_canGet_0 : decode cX3_canGet 0 = .ok (.aload_n 1, 1) := by decide +kernel
theorem dX3_canGet_1 : decode cX3_canGet 1 = .ok (.iload_n 3, 1) := by decide +kernel
theorem dX3_canGet_2 : decode cX3_canGet 2 = .ok (.invokevirtual 281, 3) := by decide +kernel
theorem dX3_canGet_5 : decode cX3_canGet 5 = .ok (.istore 4, 2) := by decide +kernel
theorem dX3_canGet_7 : decode cX3_canGet 7 = .ok (.iconst 0, 1) := by decide +kernel
theorem dX3_canGet_8 : decode cX3_canGet 8 = .ok (.istore 5, 2) := by decide +kernel
theorem dX3_canGet_10 : decode cX3_canGet 10 = .ok (.iload 5, 2) := by decide +kernel
theorem dX3_canGet_12 : decode cX3_canGet 12 = .ok (.aload_n 0, 1) := by decide +kernel
theorem dX3_canGet_13 : decode cX3_canGet 13 = .ok (.getfield 16, 3) := by decide +kernel
theorem dX3_canGet_16 : decode cX3_canGet 16 = .ok (.invokevirtual 37, 3) := by decide +kernel
theorem dX3_canGet_19 : decode cX3_canGet 19 = .ok (.if_icmp .ge 105, 3) := by decide +kernel
theorem dX3_canGet_22 : decode cX3_canGet 22 = .ok (.aload_n 0, 1) := by decide +kernel
theorem dX3_canGet_23 : decode cX3_canGet 23 = .ok (.getfield 16, 3) := by decide +kernel
theorem dX3_canGet_26 : decode cX3_canGet 26 = .ok (.iload 5, 2) := by decide +kernel
theorem dX3_canGet_28 : decode cX3_canGet 28 = .ok (.invokevirtual 124, 3) := by decide +kernel
theorem dX3_canGet_31 : decode cX3_canGet 31 = .ok (.checkcast 70, 3) := by decide +kernel
theorem dX3_canGet_34 : decode cX3_canGet 34 = .ok (.astore 6, 2) := by decide +kernel
theorem dX3_canGet_36 : decode cX3_canGet 36 = .ok (.aload 6, 2) := by decide +kernel
theorem dX3_canGet_38 : decode cX3_canGet 38 = .ok (.aload_n 1, 1) := by decide +kernel
theorem dX3_canGet_39 : decode cX3_canGet 39 = .ok (.if_acmp .ne 7, 3) := by decide +kernel
theorem dX3_canGet_42 : decode cX3_canGet 42 = .ok (.aconst_null, 1) := by decide +kernel
theorem dX3_canGet_43 : decode cX3_canGet 43 = .ok (.goto 9, 3) := by decide +kernel
theorem dX3_canGet_46 : decode cX3_canGet 46 = .ok (.aload 6, 2) := by decide +kernel
theorem dX3_canGet_48 : decode cX3_canGet 48 = .ok (.iload_n 2, 1) := by decide +kernel
theorem dX3_canGet_49 : decode cX3_canGet 49 = .ok (.invokevirtual 258, 3) := by decide +kernel
theorem dX3_canGet_52 : decode cX3_canGet 52 = .ok (.astore 7, 2) := by decide +kernel
theorem dX3_canGet_54 : decode cX3_canGet 54 = .ok (.aload 7, 2) := by decide +kernel
theorem dX3_canGet_56 : decode cX3_canGet 56 = .ok (.ifnull 62, 3) := by decide +kernel
theorem dX3_canGet_59 : decode cX3_canGet 59 = .ok (.aload 7, 2) := by decide +kernel
theorem dX3_canGet_61 : decode cX3_canGet 61 = .ok (.invokevirtual 284, 3) := by decide +kernel
theorem dX3_canGet_64 : decode cX3_canGet 64 = .ok (.ifCond .eq 54, 3) := by decide +kernel
theorem dX3_canGet_67 : decode cX3_canGet 67 = .ok (.iload 4, 2) := by decide +kernel
theorem dX3_canGet_69 : decode cX3_canGet 69 = .ok (.aload 6, 2) := by decide +kernel
theorem dX3_canGet_71 : decode cX3_canGet 71 = .ok (.aload 7, 2) := by decide +kernel
theorem dX3_canGet_73 : decode cX3_canGet 73 = .ok (.getfield 132, 3) := by decide +kernel
theorem dX3_canGet_76 : decode cX3_canGet 76 = .ok (.invokevirtual 281, 3) := by decide +kernel
theorem dX3_canGet_79 : decode cX3_canGet 79 = .ok (.isub, 1) := by decide +kernel
theorem dX3_canGet_80 : decode cX3_canGet 80 = .ok (.invokestatic 287, 3) := by decide +kernel
theorem dX3_canGet_83 : decode cX3_canGet 83 = .ok (.istore 8, 2) := by decide +kernel
theorem dX3_canGet_85 : decode cX3_canGet 85 = .ok (.aload_n 1, 1) := by decide +kernel
theorem dX3_canGet_86 : decode cX3_canGet 86 = .ok (.getfield 290, 3) := by decide +kernel
theorem dX3_canGet_89 : decode cX3_canGet 89 = .ok (.aload 6, 2) := by decide +kernel
theorem dX3_canGet_91 : decode cX3_canGet 91 = .ok (.getfield 290, 3) := by decide +kernel
theorem dX3_canGet_94 : decode cX3_canGet 94 = .ok (.isub, 1) := by decide +kernel
theorem dX3_canGet_95 : decode cX3_canGet 95 = .ok (.invokestatic 287, 3) := by decide +kernel
theorem dX3_canGet_98 : decode cX3_canGet 98 = .ok (.istore 9, 2) := by decide +kernel
theorem dX3_canGet_100 : decode cX3_canGet 100 = .ok (.iload 8, 2) := by decide +kernel
theorem dX3_canGet_102 : decode cX3_canGet 102 = .ok (.ifCond .eq 14, 3) := by decide +kernel
theorem dX3_canGet_105 : decode cX3_canGet 105 = .ok (.sipush 400, 3) := by decide +kernel
theorem dX3_canGet_108 : decode cX3_canGet 108 = .ok (.iload 8, 2) := by decide +kernel
theorem dX3_canGet_110 : decode cX3_canGet 110 = .ok (.imul, 1) := by decide +kernel
theorem dX3_canGet_111 : decode cX3_canGet 111 = .ok (.iload 9, 2) := by decide +kernel
theorem dX3_canGet_113 : decode cX3_canGet 113 = .ok (.if_icmp .ge 5, 3) := by decide +kernel
theorem dX3_canGet_116 : decode cX3_canGet 116 = .ok (.iconst 0, 1) := by decide +kernel
theorem dX3_canGet_117 : decode cX3_canGet 117 = .ok (.ireturn, 1) := by decide +kernel
theorem dX3_canGet_118 : decode cX3_canGet 118 = .ok (.iinc 5 1, 3) := by decide +kernel
theorem dX3_canGet_121 : decode cX3_canGet 121 = .ok (.goto (-111), 3) := by decide +kernel
theorem dX3_canGet_124 : decode cX3_canGet 124 = .ok (.iconst 1, 1) := by decide +kernel
theorem dX3_canGet_125 : decode cX3_canGet 125 = .ok (.ireturn, 1) := by decide +kernel
theorem dX3_countWithWaysOutside_0 : decode cX3_countWithWaysOutside 0 = .ok (.iconst 0, 1) := by decide +kernel
theorem dX3_countWithWaysOutside_1 : decode cX3_countWithWaysOutside 1 = .ok (.istore_n 3, 1) := by decide +kernel
theorem dX3_countWithWaysOutside_2 : decode cX3_countWithWaysOutside 2 = .ok (.iconst 0, 1) := by decide +kernel
theorem dX3_countWithWaysOutside_3 : decode cX3_countWithWaysOutside 3 = .ok (.istore 4, 2) := by decide +kernel
theorem dX3_countWithWaysOutside_5 : decode cX3_countWithWaysOutside 5 = .ok (.iload 4, 2) := by decide +kernel
theorem dX3_countWithWaysOutside_7 : decode cX3_countWithWaysOutside 7 = .ok (.aload_n 1, 1) := by decide +kernel
theorem dX3_countWithWaysOutside_8 : decode cX3_countWithWaysOutside 8 = .ok (.getfield 82, 3) := by decide +kernel
theorem dX3_countWithWaysOutside_11 : decode cX3_countWithWaysOutside 11 = .ok (.invokevirtual 37, 3) := by decide +kernel
theorem dX3_countWithWaysOutside_14 : decode cX3_countWithWaysOutside 14 = .ok (.if_icmp .ge 33, 3) := by decide +kernel
theorem dX3_countWithWaysOutside_17 : decode cX3_countWithWaysOutside 17 = .ok (.aload_n 0, 1) := by decide +kernel
theorem dX3_countWithWaysOutside_18 : decode cX3_countWithWaysOutside 18 = .ok (.aload_n 1, 1) := by decide +kernel
theorem dX3_countWithWaysOutside_19 : decode cX3_countWithWaysOutside 19 = .ok (.aload_n 1, 1) := by decide +kernel
theorem dX3_countWithWaysOutside_20 : decode cX3_countWithWaysOutside 20 = .ok (.getfield 82, 3) := by decide +kernel
theorem dX3_countWithWaysOutside_23 : decode cX3_countWithWaysOutside 23 = .ok (.iload 4, 2) := by decide +kernel
theorem dX3_countWithWaysOutside_25 : decode cX3_countWithWaysOutside 25 = .ok (.invokevirtual 124, 3) := by decide +kernel
theorem dX3_countWithWaysOutside_28 : decode cX3_countWithWaysOutside 28 = .ok (.checkcast 113, 3) := by decide +kernel
theorem dX3_countWithWaysOutside_31 : decode cX3_countWithWaysOutside 31 = .ok (.iload_n 2, 1) := by decide +kernel
theorem dX3_countWithWaysOutside_32 : decode cX3_countWithWaysOutside 32 = .ok (.invokevirtual 293, 3) := by decide +kernel
theorem dX3_countWithWaysOutside_35 : decode cX3_countWithWaysOutside 35 = .ok (.ifCond .eq 6, 3) := by decide +kernel
theorem dX3_countWithWaysOutside_38 : decode cX3_countWithWaysOutside 38 = .ok (.iinc 3 1, 3) := by decide +kernel
theorem dX3_countWithWaysOutside_41 : decode cX3_countWithWaysOutside 41 = .ok (.iinc 4 1, 3) := by decide +kernel
theorem dX3_countWithWaysOutside_44 : decode cX3_countWithWaysOutside 44 = .ok (.goto (-39), 3) := by decide +kernel
theorem dX3_countWithWaysOutside_47 : decode cX3_countWithWaysOutside 47 = .ok (.iload_n 3, 1) := by decide +kernel
