theorem dX1_init_0 : decode cX1_init 0 = .ok (.aload_n 0, 1) := by decide +kernel
theorem dX1_init_1 : decode cX1_init 1 = .ok (.invokespecial 3, 3) := by decide +kernel
theorem dX1_init_4 : decode cX1_init 4 = .ok (.aload_n 0, 1) := by decide +kernel
theorem dX1_init_5 : decode cX1_init 5 = .ok (.iload_n 1, 1) := by decide +kernel
theorem dX1_init_6 : decode cX1_init 6 = .ok (.putfield 9, 3) := by decide +kernel
theorem dX1_init_9 : decode cX1_init 9 = .ok (.aload_n 0, 1) := by decide +kernel
theorem dX1_init_10 : decode cX1_init 10 = .ok (.iload_n 2, 1) := by decide +kernel
theorem dX1_init_11 : decode cX1_init 11 = .ok (.putfield 15, 3) := by decide +kernel
theorem dX1_init_14 : decode cX1_init 14 = .ok (.aload_n 0, 1) := by decide +kernel
theorem dX1_init_15 : decode cX1_init 15 = .ok (.iload_n 3, 1) := by decide +kernel
theorem dX1_init_16 : decode cX1_init 16 = .ok (.putfield 18, 3) := by decide +kernel
theorem dX1_init_19 : decode cX1_init 19 = .ok (.aload_n 0, 1) := by decide +kernel
theorem dX1_init_20 : decode cX1_init 20 = .ok (.iconst (-1), 1) := by decide +kernel
theorem dX1_init_21 : decode cX1_init 21 = .ok (.putfield 21, 3) := by decide +kernel
theorem dX1_init_24 : decode cX1_init 24 = .ok (.aload_n 0, 1) := by decide +kernel
theorem dX1_init_25 : decode cX1_init 25 = .ok (.iconst (-1), 1) := by decide +kernel
theorem dX1_init_26 : decode cX1_init 26 = .ok (.putfield 24, 3) := by decide +kernel
theorem dX1_init_29 : decode cX1_init 29 = .ok (.return_, 1) := by decide +kernel
theorem dX1_isPlaced_0 : decode cX1_isPlaced 0 = .ok (.aload_n 0, 1) := by decide +kernel
theorem dX1_isPlaced_1 : decode cX1_isPlaced 1 = .ok (.getfield 21, 3) := by decide +kernel
theorem dX1_isPlaced_4 : decode cX1_isPlaced 4 = .ok (.iconst (-1), 1) := by decide +kernel
theorem dX1_isPlaced_5 : decode cX1_isPlaced 5 = .ok (.if_icmp .eq 7, 3) := by decide +kernel
theorem dX1_isPlaced_8 : decode cX1_isPlaced 8 = .ok (.iconst 1, 1) := by decide +kernel
theorem dX1_isPlaced_9 : decode cX1_isPlaced 9 = .ok (.goto 4, 3) := by decide +kernel
theorem dX1_isPlaced_12 : decode cX1_isPlaced 12 = .ok (.iconst 0, 1) := by decide +kernel
theorem dX1_isPlaced_13 : decode cX1_isPlaced 13 = .ok (.ireturn, 1) := by decide +kernel
theorem dX1_beastNumber_0 : decode cX1_beastNumber 0 = .ok (.aload_n 0, 1) := by decide +kernel
theorem dX1_beastNumber_1 : decode cX1_beastNumber 1 = .ok (.getfield 27, 3) := by decide +kernel
theorem dX1_beastNumber_4 : decode cX1_beastNumber 4 = .ok (.ifnonnull 7, 3) := by decide +kernel
theorem dX1_beastNumber_7 : decode cX1_beastNumber 7 = .ok (.iconst (-1), 1) := by decide +kernel
theorem dX1_beastNumber_8 : decode cX1_beastNumber 8 = .ok (.goto 10, 3) := by decide +kernel
theorem dX1_beastNumber_11 : decode cX1_beastNumber 11 = .ok (.aload_n 0, 1) := by decide +kernel
theorem dX1_beastNumber_12 : decode cX1_beastNumber 12 = .ok (.getfield 27, 3) := by decide +kernel
theorem dX1_beastNumber_15 : decode cX1_beastNumber 15 = .ok (.getfield 31, 3) := by decide +kernel
theorem dX1_beastNumber_18 : decode cX1_beastNumber 18 = .ok (.ireturn, 1) := by decide +kernel
theorem dX1_takeRide_0 : decode cX1_takeRide 0 = .ok (.aload_n 0, 1) := by decide +kernel
theorem dX1_takeRide_1 : decode cX1_takeRide 1 = .ok (.iconst 0, 1) := by decide +kernel
theorem dX1_takeRide_2 : decode cX1_takeRide 2 = .ok (.putfield 36, 3) := by decide +kernel
theorem dX1_takeRide_5 : decode cX1_takeRide 5 = .ok (.aload_n 0, 1) := by decide +kernel
theorem dX1_takeRide_6 : decode cX1_takeRide 6 = .ok (.iload_n 1, 1) := by decide +kernel
theorem dX1_takeRide_7 : decode cX1_takeRide 7 = .ok (.putfield 40, 3) := by decide +kernel
theorem dX1_takeRide_10 : decode cX1_takeRide 10 = .ok (.aload_n 0, 1) := by decide +kernel
theorem dX1_takeRide_11 : decode cX1_takeRide 11 = .ok (.iload_n 1, 1) := by decide +kernel
theorem dX1_takeRide_12 : decode cX1_takeRide 12 = .ok (.ifCond .eq 9, 3) := by decide +kernel
theorem dX1_takeRide_15 : decode cX1_takeRide 15 = .ok (.iload_n 2, 1) := by decide +kernel
theorem dX1_takeRide_16 : decode cX1_takeRide 16 = .ok (.iload_n 3, 1) := by decide +kernel
theorem dX1_takeRide_17 : decode cX1_takeRide 17 = .ok (.iadd, 1) := by decide +kernel
theorem dX1_takeRide_18 : decode cX1_takeRide 18 = .ok (.goto 4, 3) := by decide +kernel
theorem dX1_takeRide_21 : decode cX1_takeRide 21 = .ok (.iconst 0, 1) := by decide +kernel
theorem dX1_takeRide_22 : decode cX1_takeRide 22 = .ok (.putfield 24, 3) := by decide +kernel
theorem dX1_takeRide_25 : decode cX1_takeRide 25 = .ok (.aload_n 0, 1) := by decide +kernel
theorem dX1_takeRide_26 : decode cX1_takeRide 26 = .ok (.iload_n 1, 1) := by decide +kernel
theorem dX1_takeRide_27 : decode cX1_takeRide 27 = .ok (.ifCond .eq 20, 3) := by decide +kernel
theorem dX1_takeRide_30 : decode cX1_takeRide 30 = .ok (.iload_n 3, 1) := by decide +kernel
theorem dX1_takeRide_31 : decode cX1_takeRide 31 = .ok (.bipush 20, 2) := by decide +kernel
theorem dX1_takeRide_33 : decode cX1_takeRide 33 = .ok (.if_icmp .ge 14, 3) := by decide +kernel
theorem dX1_takeRide_36 : decode cX1_takeRide 36 = .ok (.aload_n 0, 1) := by decide +kernel
theorem dX1_takeRide_37 : decode cX1_takeRide 37 = .ok (.getfield 43, 3) := by decide +kernel
theorem dX1_takeRide_40 : decode cX1_takeRide 40 = .ok (.ifCond .ne 7, 3) := by decide +kernel
theorem dX1_takeRide_43 : decode cX1_takeRide 43 = .ok (.iconst 1, 1) := by decide +kernel
theorem dX1_takeRide_44 : decode cX1_takeRide 44 = .ok (.goto 4, 3) := by decide +kernel
theorem dX1_takeRide_47 : decode cX1_takeRide 47 = .ok (.iconst 0, 1) := by decide +kernel
theorem dX1_takeRide_48 : decode cX1_takeRide 48 = .ok (.putfield 46, 3) := by decide +kernel
theorem dX1_takeRide_51 : decode cX1_takeRide 51 = .ok (.aload_n 0, 1) := by decide +kernel
theorem dX1_takeRide_52 : decode cX1_takeRide 52 = .ok (.getfield 27, 3) := by decide +kernel
theorem dX1_takeRide_55 : decode cX1_takeRide 55 = .ok (.ifnull 50, 3) := by decide +kernel
theorem dX1_takeRide_58 : decode cX1_takeRide 58 = .ok (.aload_n 0, 1) := by decide +kernel
theorem dX1_takeRide_59 : decode cX1_takeRide 59 = .ok (.getfield 27, 3) := by decide +kernel
theorem dX1_takeRide_62 : decode cX1_takeRide 62 = .ok (.dup, 1) := by decide +kernel
theorem dX1_takeRide_63 : decode cX1_takeRide 63 = .ok (.getfield 49, 3) := by decide +kernel
theorem dX1_takeRide_66 : decode cX1_takeRide 66 = .ok (.iconst 1, 1) := by decide +kernel
theorem dX1_takeRide_67 : decode cX1_takeRide 67 = .ok (.iadd, 1) := by decide +kernel
theorem dX1_takeRide_68 : decode cX1_takeRide 68 = .ok (.putfield 49, 3) := by decide +kernel
theorem dX1_takeRide_71 : decode cX1_takeRide 71 = .ok (.aload_n 0, 1) := by decide +kernel
theorem dX1_takeRide_72 : decode cX1_takeRide 72 = .ok (.getfield 27, 3) := by decide +kernel
theorem dX1_takeRide_75 : decode cX1_takeRide 75 = .ok (.dup, 1) := by decide +kernel
theorem dX1_takeRide_76 : decode cX1_takeRide 76 = .ok (.getfield 52, 3) := by decide +kernel
theorem dX1_takeRide_79 : decode cX1_takeRide 79 = .ok (.iload_n 1, 1) := by decide +kernel
theorem dX1_takeRide_80 : decode cX1_takeRide 80 = .ok (.ifCond .eq 7, 3) := by decide +kernel
theorem dX1_takeRide_83 : decode cX1_takeRide 83 = .ok (.iconst 0, 1) := by decide +kernel
theorem dX1_takeRide_84 : decode cX1_takeRide 84 = .ok (.goto 4, 3) := by decide +kernel
theorem dX1_takeRide_87 : decode cX1_takeRide 87 = .ok (.iconst 1, 1) := by decide +kernel
theorem dX1_takeRide_88 : decode cX1_takeRide 88 = .ok (.iadd, 1) := by decide +kernel
theorem dX1_takeRide_89 : decode cX1_takeRide 89 = .ok (.putfield 52, 3) := by decide +kernel
theorem dX1_takeRide_92 : decode cX1_takeRide 92 = .ok (.aload_n 0, 1) := by decide +kernel
theorem dX1_takeRide_93 : decode cX1_takeRide 93 = .ok (.getfield 27, 3) := by decide +kernel
theorem dX1_takeRide_96 : decode cX1_takeRide 96 = .ok (.dup, 1) := by decide +kernel
theorem dX1_takeRide_97 : decode cX1_takeRide 97 = .ok (.getfield 55, 3) := by decide +kernel
theorem dX1_takeRide_100 : decode cX1_takeRide 100 = .ok (.iload_n 3, 1) := by decide +kernel
theorem dX1_takeRide_101 : decode cX1_takeRide 101 = .ok (.iadd, 1) := by decide +kernel
theorem dX1_takeRide_102 : decode cX1_takeRide 102 = .ok (.putfield 55, 3) := by decide +kernel
theorem dX1_takeRide_105 : decode cX1_takeRide 105 = .ok (.return_, 1) := by decide +kernel
theorem dX1_loseScore_0 : decode cX1_loseScore 0 = .ok (.aload_n 0, 1) := by decide +kernel
theorem dX1_loseScore_1 : decode cX1_loseScore 1 = .ok (.iconst (-1), 1) := by decide +kernel
theorem dX1_loseScore_2 : decode cX1_loseScore 2 = .ok (.putfield 24, 3) := by decide +kernel
theorem dX1_loseScore_5 : decode cX1_loseScore 5 = .ok (.aload_n 0, 1) := by decide +kernel
theorem dX1_loseScore_6 : decode cX1_loseScore 6 = .ok (.iconst 0, 1) := by decide +kernel
theorem dX1_loseScore_7 : decode cX1_loseScore 7 = .ok (.putfield 40, 3) := by decide +kernel
theorem dX1_loseScore_10 : decode cX1_loseScore 10 = .ok (.return_, 1) := by decide +kernel
