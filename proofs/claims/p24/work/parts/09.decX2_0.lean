theorem dX2_init_0 : decode cX2_init 0 = .ok (.aload_n 0, 1) := by decide +kernel
theorem dX2_init_1 : decode cX2_init 1 = .ok (.invokespecial 3, 3) := by decide +kernel
theorem dX2_init_4 : decode cX2_init 4 = .ok (.aload_n 0, 1) := by decide +kernel
theorem dX2_init_5 : decode cX2_init 5 = .ok (.iload_n 1, 1) := by decide +kernel
theorem dX2_init_6 : decode cX2_init 6 = .ok (.putfield 9, 3) := by decide +kernel
theorem dX2_init_9 : decode cX2_init 9 = .ok (.aload_n 0, 1) := by decide +kernel
theorem dX2_init_10 : decode cX2_init 10 = .ok (.iload_n 2, 1) := by decide +kernel
theorem dX2_init_11 : decode cX2_init 11 = .ok (.putfield 15, 3) := by decide +kernel
theorem dX2_init_14 : decode cX2_init 14 = .ok (.aload_n 0, 1) := by decide +kernel
theorem dX2_init_15 : decode cX2_init 15 = .ok (.iload_n 3, 1) := by decide +kernel
theorem dX2_init_16 : decode cX2_init 16 = .ok (.putfield 18, 3) := by decide +kernel
theorem dX2_init_19 : decode cX2_init 19 = .ok (.aload_n 0, 1) := by decide +kernel
theorem dX2_init_20 : decode cX2_init 20 = .ok (.iload 4, 2) := by decide +kernel
theorem dX2_init_22 : decode cX2_init 22 = .ok (.putfield 21, 3) := by decide +kernel
theorem dX2_init_25 : decode cX2_init 25 = .ok (.aload_n 0, 1) := by decide +kernel
theorem dX2_init_26 : decode cX2_init 26 = .ok (.iload 5, 2) := by decide +kernel
theorem dX2_init_28 : decode cX2_init 28 = .ok (.putfield 24, 3) := by decide +kernel
theorem dX2_init_31 : decode cX2_init 31 = .ok (.aload_n 0, 1) := by decide +kernel
theorem dX2_init_32 : decode cX2_init 32 = .ok (.iload 6, 2) := by decide +kernel
theorem dX2_init_34 : decode cX2_init 34 = .ok (.putfield 27, 3) := by decide +kernel
theorem dX2_init_37 : decode cX2_init 37 = .ok (.aload_n 0, 1) := by decide +kernel
theorem dX2_init_38 : decode cX2_init 38 = .ok (.iload 7, 2) := by decide +kernel
theorem dX2_init_40 : decode cX2_init 40 = .ok (.putfield 30, 3) := by decide +kernel
theorem dX2_init_43 : decode cX2_init 43 = .ok (.aload_n 0, 1) := by decide +kernel
theorem dX2_init_44 : decode cX2_init 44 = .ok (.new 33, 3) := by decide +kernel
theorem dX2_init_47 : decode cX2_init 47 = .ok (.dup, 1) := by decide +kernel
theorem dX2_init_48 : decode cX2_init 48 = .ok (.invokespecial 35, 3) := by decide +kernel
theorem dX2_init_51 : decode cX2_init 51 = .ok (.putfield 36, 3) := by decide +kernel
theorem dX2_init_54 : decode cX2_init 54 = .ok (.aload_n 0, 1) := by decide +kernel
theorem dX2_init_55 : decode cX2_init 55 = .ok (.bipush 12, 2) := by decide +kernel
theorem dX2_init_57 : decode cX2_init 57 = .ok (.anewarray 40, 3) := by decide +kernel
theorem dX2_init_60 : decode cX2_init 60 = .ok (.putfield 42, 3) := by decide +kernel
theorem dX2_init_63 : decode cX2_init 63 = .ok (.aload_n 0, 1) := by decide +kernel
theorem dX2_init_64 : decode cX2_init 64 = .ok (.iconst 0, 1) := by decide +kernel
theorem dX2_init_65 : decode cX2_init 65 = .ok (.putfield 46, 3) := by decide +kernel
theorem dX2_init_68 : decode cX2_init 68 = .ok (.return_, 1) := by decide +kernel
theorem dX2_dayOf_0 : decode cX2_dayOf 0 = .ok (.aload_n 0, 1) := by decide +kernel
theorem dX2_dayOf_1 : decode cX2_dayOf 1 = .ok (.getfield 18, 3) := by decide +kernel
theorem dX2_dayOf_4 : decode cX2_dayOf 4 = .ok (.iload_n 1, 1) := by decide +kernel
theorem dX2_dayOf_5 : decode cX2_dayOf 5 = .ok (.iadd, 1) := by decide +kernel
theorem dX2_dayOf_6 : decode cX2_dayOf 6 = .ok (.ireturn, 1) := by decide +kernel
theorem dX2_addEntry_0 : decode cX2_addEntry 0 = .ok (.aload_n 1, 1) := by decide +kernel
theorem dX2_addEntry_1 : decode cX2_addEntry 1 = .ok (.getfield 49, 3) := by decide +kernel
theorem dX2_addEntry_4 : decode cX2_addEntry 4 = .ok (.ifCond .lt 34, 3) := by decide +kernel
theorem dX2_addEntry_7 : decode cX2_addEntry 7 = .ok (.aload_n 1, 1) := by decide +kernel
theorem dX2_addEntry_8 : decode cX2_addEntry 8 = .ok (.getfield 49, 3) := by decide +kernel
theorem dX2_addEntry_11 : decode cX2_addEntry 11 = .ok (.aload_n 0, 1) := by decide +kernel
theorem dX2_addEntry_12 : decode cX2_addEntry 12 = .ok (.getfield 42, 3) := by decide +kernel
theorem dX2_addEntry_15 : decode cX2_addEntry 15 = .ok (.arraylength, 1) := by decide +kernel
theorem dX2_addEntry_16 : decode cX2_addEntry 16 = .ok (.if_icmp .ge 22, 3) := by decide +kernel
theorem dX2_addEntry_19 : decode cX2_addEntry 19 = .ok (.aload_n 0, 1) := by decide +kernel
theorem dX2_addEntry_20 : decode cX2_addEntry 20 = .ok (.getfield 42, 3) := by decide +kernel
theorem dX2_addEntry_23 : decode cX2_addEntry 23 = .ok (.aload_n 1, 1) := by decide +kernel
theorem dX2_addEntry_24 : decode cX2_addEntry 24 = .ok (.getfield 49, 3) := by decide +kernel
theorem dX2_addEntry_27 : decode cX2_addEntry 27 = .ok (.aload_n 1, 1) := by decide +kernel
theorem dX2_addEntry_28 : decode cX2_addEntry 28 = .ok (.aastore, 1) := by decide +kernel
theorem dX2_addEntry_29 : decode cX2_addEntry 29 = .ok (.aload_n 0, 1) := by decide +kernel
theorem dX2_addEntry_30 : decode cX2_addEntry 30 = .ok (.getfield 36, 3) := by decide +kernel
theorem dX2_addEntry_33 : decode cX2_addEntry 33 = .ok (.aload_n 1, 1) := by decide +kernel
theorem dX2_addEntry_34 : decode cX2_addEntry 34 = .ok (.invokevirtual 52, 3) := by decide +kernel
theorem dX2_addEntry_37 : decode cX2_addEntry 37 = .ok (.pop, 1) := by decide +kernel
theorem dX2_addEntry_38 : decode cX2_addEntry 38 = .ok (.return_, 1) := by decide +kernel
theorem dX2_entryOf_0 : decode cX2_entryOf 0 = .ok (.iload_n 1, 1) := by decide +kernel
theorem dX2_entryOf_1 : decode cX2_entryOf 1 = .ok (.ifCond .lt 21, 3) := by decide +kernel
theorem dX2_entryOf_4 : decode cX2_entryOf 4 = .ok (.iload_n 1, 1) := by decide +kernel
theorem dX2_entryOf_5 : decode cX2_entryOf 5 = .ok (.aload_n 0, 1) := by decide +kernel
theorem dX2_entryOf_6 : decode cX2_entryOf 6 = .ok (.getfield 42, 3) := by decide +kernel
theorem dX2_entryOf_9 : decode cX2_entryOf 9 = .ok (.arraylength, 1) := by decide +kernel
theorem dX2_entryOf_10 : decode cX2_entryOf 10 = .ok (.if_icmp .ge 12, 3) := by decide +kernel
theorem dX2_entryOf_13 : decode cX2_entryOf 13 = .ok (.aload_n 0, 1) := by decide +kernel
theorem dX2_entryOf_14 : decode cX2_entryOf 14 = .ok (.getfield 42, 3) := by decide +kernel
theorem dX2_entryOf_17 : decode cX2_entryOf 17 = .ok (.iload_n 1, 1) := by decide +kernel
theorem dX2_entryOf_18 : decode cX2_entryOf 18 = .ok (.aaload, 1) := by decide +kernel
theorem dX2_entryOf_19 : decode cX2_entryOf 19 = .ok (.goto 4, 3) := by decide +kernel
theorem dX2_entryOf_22 : decode cX2_entryOf 22 = .ok (.aconst_null, 1) := by decide +kernel
theorem dX2_entryOf_23 : decode cX2_entryOf 23 = .ok (.areturn, 1) := by decide +kernel
theorem dX2_countIn_0 : decode cX2_countIn 0 = .ok (.iconst 0, 1) := by decide +kernel
theorem dX2_countIn_1 : decode cX2_countIn 1 = .ok (.istore_n 2, 1) := by decide +kernel
theorem dX2_countIn_2 : decode cX2_countIn 2 = .ok (.iconst 0, 1) := by decide +kernel
theorem dX2_countIn_3 : decode cX2_countIn 3 = .ok (.istore_n 3, 1) := by decide +kernel
theorem dX2_countIn_4 : decode cX2_countIn 4 = .ok (.iload_n 3, 1) := by decide +kernel
theorem dX2_countIn_5 : decode cX2_countIn 5 = .ok (.aload_n 0, 1) := by decide +kernel
theorem dX2_countIn_6 : decode cX2_countIn 6 = .ok (.getfield 36, 3) := by decide +kernel
theorem dX2_countIn_9 : decode cX2_countIn 9 = .ok (.invokevirtual 56, 3) := by decide +kernel
theorem dX2_countIn_12 : decode cX2_countIn 12 = .ok (.if_icmp .ge 30, 3) := by decide +kernel
theorem dX2_countIn_15 : decode cX2_countIn 15 = .ok (.aload_n 0, 1) := by decide +kernel
theorem dX2_countIn_16 : decode cX2_countIn 16 = .ok (.getfield 36, 3) := by decide +kernel
theorem dX2_countIn_19 : decode cX2_countIn 19 = .ok (.iload_n 3, 1) := by decide +kernel
theorem dX2_countIn_20 : decode cX2_countIn 20 = .ok (.invokevirtual 60, 3) := by decide +kernel
theorem dX2_countIn_23 : decode cX2_countIn 23 = .ok (.checkcast 40, 3) := by decide +kernel
theorem dX2_countIn_26 : decode cX2_countIn 26 = .ok (.getfield 64, 3) := by decide +kernel
theorem dX2_countIn_29 : decode cX2_countIn 29 = .ok (.iload_n 1, 1) := by decide +kernel
theorem dX2_countIn_30 : decode cX2_countIn 30 = .ok (.if_icmp .ne 6, 3) := by decide +kernel
theorem dX2_countIn_33 : decode cX2_countIn 33 = .ok (.iinc 2 1, 3) := by decide +kernel
theorem dX2_countIn_36 : decode cX2_countIn 36 = .ok (.iinc 3 1, 3) := by decide +kernel
theorem dX2_countIn_39 : decode cX2_countIn 39 = .ok (.goto (-35), 3) := by decide +kernel
theorem dX2_countIn_42 : decode cX2_countIn 42 = .ok (.iload_n 2, 1) := by decide +kernel
theorem dX2_countIn_43 : decode cX2_countIn 43 = .ok (.ireturn, 1) := by decide +kernel
theorem dX2_countPlaced_0 : decode cX2_countPlaced 0 = .ok (.aload_n 0, 1) := by decide +kernel
theorem dX2_countPlaced_1 : decode cX2_countPlaced 1 = .ok (.getfield 36, 3) := by decide +kernel
theorem dX2_countPlaced_4 : decode cX2_countPlaced 4 = .ok (.invokevirtual 56, 3) := by decide +kernel
theorem dX2_countPlaced_7 : decode cX2_countPlaced 7 = .ok (.aload_n 0, 1) := by decide +kernel
theorem dX2_countPlaced_8 : decode cX2_countPlaced 8 = .ok (.iconst (-1), 1) := by decide +kernel
theorem dX2_countPlaced_9 : decode cX2_countPlaced 9 = .ok (.invokevirtual 67, 3) := by decide +kernel
theorem dX2_countPlaced_12 : decode cX2_countPlaced 12 = .ok (.isub, 1) := by decide +kernel
theorem dX2_countPlaced_13 : decode cX2_countPlaced 13 = .ok (.ireturn, 1) := by decide +kernel
theorem dX2_pot_0 : decode cX2_pot 0 = .ok (.aload_n 0, 1) := by decide +kernel
theorem dX2_pot_1 : decode cX2_pot 1 = .ok (.getfield 46, 3) := by decide +kernel
theorem dX2_pot_4 : decode cX2_pot 4 = .ok (.ifCond .ne 7, 3) := by decide +kernel
theorem dX2_pot_7 : decode cX2_pot 7 = .ok (.iconst 0, 1) := by decide +kernel
theorem dX2_pot_8 : decode cX2_pot 8 = .ok (.goto 17, 3) := by decide +kernel
theorem dX2_pot_11 : decode cX2_pot 11 = .ok (.aload_n 0, 1) := by decide +kernel
theorem dX2_pot_12 : decode cX2_pot 12 = .ok (.getfield 27, 3) := by decide +kernel
theorem dX2_pot_15 : decode cX2_pot 15 = .ok (.aload_n 0, 1) := by decide +kernel
theorem dX2_pot_16 : decode cX2_pot 16 = .ok (.getfield 30, 3) := by decide +kernel
theorem dX2_pot_19 : decode cX2_pot 19 = .ok (.aload_n 0, 1) := by decide +kernel
theorem dX2_pot_20 : decode cX2_pot 20 = .ok (.invokevirtual 71, 3) := by decide +kernel
theorem dX2_pot_23 : decode cX2_pot 23 = .ok (.imul, 1) := by decide +kernel
theorem dX2_pot_24 : decode cX2_pot 24 = .ok (.iadd, 1) := by decide +kernel
theorem dX2_pot_25 : decode cX2_pot 25 = .ok (.ireturn, 1) := by decide +kernel
theorem dX2_canBePaid_0 : decode cX2_canBePaid 0 = .ok (.iconst 0, 1) := by decide +kernel
theorem dX2_canBePaid_1 : decode cX2_canBePaid 1 = .ok (.istore_n 1, 1) := by decide +kernel
theorem dX2_canBePaid_2 : decode cX2_canBePaid 2 = .ok (.iload_n 1, 1) := by decide +kernel
theorem dX2_canBePaid_3 : decode cX2_canBePaid 3 = .ok (.aload_n 0, 1) := by decide +kernel
theorem dX2_canBePaid_4 : decode cX2_canBePaid 4 = .ok (.getfield 36, 3) := by decide +kernel
theorem dX2_canBePaid_7 : decode cX2_canBePaid 7 = .ok (.invokevirtual 56, 3) := by decide +kernel
theorem dX2_canBePaid_10 : decode cX2_canBePaid 10 = .ok (.if_icmp .ge 37, 3) := by decide +kernel
theorem dX2_canBePaid_13 : decode cX2_canBePaid 13 = .ok (.aload_n 0, 1) := by decide +kernel
theorem dX2_canBePaid_14 : decode cX2_canBePaid 14 = .ok (.getfield 36, 3) := by decide +kernel
theorem dX2_canBePaid_17 : decode cX2_canBePaid 17 = .ok (.iload_n 1, 1) := by decide +kernel
theorem dX2_canBePaid_18 : decode cX2_canBePaid 18 = .ok (.invokevirtual 60, 3) := by decide +kernel
theorem dX2_canBePaid_21 : decode cX2_canBePaid 21 = .ok (.checkcast 40, 3) := by decide +kernel
theorem dX2_canBePaid_24 : decode cX2_canBePaid 24 = .ok (.astore_n 2, 1) := by decide +kernel
theorem dX2_canBePaid_25 : decode cX2_canBePaid 25 = .ok (.aload_n 2, 1) := by decide +kernel
theorem dX2_canBePaid_26 : decode cX2_canBePaid 26 = .ok (.getfield 74, 3) := by decide +kernel
theorem dX2_canBePaid_29 : decode cX2_canBePaid 29 = .ok (.ifCond .ne 10, 3) := by decide +kernel
theorem dX2_canBePaid_32 : decode cX2_canBePaid 32 = .ok (.aload_n 2, 1) := by decide +kernel
theorem dX2_canBePaid_33 : decode cX2_canBePaid 33 = .ok (.getfield 78, 3) := by decide +kernel
theorem dX2_canBePaid_36 : decode cX2_canBePaid 36 = .ok (.ifCond .eq 5, 3) := by decide +kernel
theorem dX2_canBePaid_39 : decode cX2_canBePaid 39 = .ok (.iconst 0, 1) := by decide +kernel
theorem dX2_canBePaid_40 : decode cX2_canBePaid 40 = .ok (.ireturn, 1) := by decide +kernel
theorem dX2_canBePaid_41 : decode cX2_canBePaid 41 = .ok (.iinc 1 1, 3) := by decide +kernel
theorem dX2_canBePaid_44 : decode cX2_canBePaid 44 = .ok (.goto (-42), 3) := by decide +kernel
theorem dX2_canBePaid_47 : decode cX2_canBePaid 47 = .ok (.aload_n 0, 1) := by decide +kernel
theorem dX2_canBePaid_48 : decode cX2_canBePaid 48 = .ok (.getfield 46, 3) := by decide +kernel
theorem dX2_canBePaid_51 : decode cX2_canBePaid 51 = .ok (.iconst 2, 1) := by decide +kernel
theorem dX2_canBePaid_52 : decode cX2_canBePaid 52 = .ok (.if_icmp .ne 7, 3) := by decide +kernel
theorem dX2_canBePaid_55 : decode cX2_canBePaid 55 = .ok (.iconst 1, 1) := by decide +kernel
theorem dX2_canBePaid_56 : decode cX2_canBePaid 56 = .ok (.goto 4, 3) := by decide +kernel
theorem dX2_canBePaid_59 : decode cX2_canBePaid 59 = .ok (.iconst 0, 1) := by decide +kernel
theorem dX2_canBePaid_60 : decode cX2_canBePaid 60 = .ok (.ireturn, 1) := by decide +kernel
theorem dX2_countCounting_0 : decode cX2_countCounting 0 = .ok (.iconst 0, 1) := by decide +kernel
theorem dX2_countCounting_1 : decode cX2_countCounting 1 = .ok (.istore_n 1, 1) := by decide +kernel
theorem dX2_countCounting_2 : decode cX2_countCounting 2 = .ok (.iconst 0, 1) := by decide +kernel
theorem dX2_countCounting_3 : decode cX2_countCounting 3 = .ok (.istore_n 2, 1) := by decide +kernel
theorem dX2_countCounting_4 : decode cX2_countCounting 4 = .ok (.iload_n 2, 1) := by decide +kernel
theorem dX2_countCounting_5 : decode cX2_countCounting 5 = .ok (.aload_n 0, 1) := by decide +kernel
theorem dX2_countCounting_6 : decode cX2_countCounting 6 = .ok (.getfield 36, 3) := by decide +kernel
theorem dX2_countCounting_9 : decode cX2_countCounting 9 = .ok (.invokevirtual 56, 3) := by decide +kernel
theorem dX2_countCounting_12 : decode cX2_countCounting 12 = .ok (.if_icmp .ge 29, 3) := by decide +kernel
theorem dX2_countCounting_15 : decode cX2_countCounting 15 = .ok (.aload_n 0, 1) := by decide +kernel
theorem dX2_countCounting_16 : decode cX2_countCounting 16 = .ok (.getfield 36, 3) := by decide +kernel
theorem dX2_countCounting_19 : decode cX2_countCounting 19 = .ok (.iload_n 2, 1) := by decide +kernel
theorem dX2_countCounting_20 : decode cX2_countCounting 20 = .ok (.invokevirtual 60, 3) := by decide +kernel
theorem dX2_countCounting_23 : decode cX2_countCounting 23 = .ok (.checkcast 40, 3) := by decide +kernel
theorem dX2_countCounting_26 : decode cX2_countCounting 26 = .ok (.getfield 81, 3) := by decide +kernel
theorem dX2_countCounting_29 : decode cX2_countCounting 29 = .ok (.ifCond .eq 6, 3) := by decide +kernel
theorem dX2_countCounting_32 : decode cX2_countCounting 32 = .ok (.iinc 1 1, 3) := by decide +kernel
theorem dX2_countCounting_35 : decode cX2_countCounting 35 = .ok (.iinc 2 1, 3) := by decide +kernel
theorem dX2_countCounting_38 : decode cX2_countCounting 38 = .ok (.goto (-34), 3) := by decide +kernel
theorem dX2_countCounting_41 : decode cX2_countCounting 41 = .ok (.iload_n 1, 1) := by decide +kernel
theorem dX2_countCounting_42 : decode cX2_countCounting 42 = .ok (.ireturn, 1) := by decide +kernel
theorem dX2_payOut_0 : decode cX2_payOut 0 = .ok (.aload_n 0, 1) := by decide +kernel
theorem dX2_payOut_1 : decode cX2_payOut 1 = .ok (.invokevirtual 84, 3) := by decide +kernel
theorem dX2_payOut_4 : decode cX2_payOut 4 = .ok (.istore_n 1, 1) := by decide +kernel
theorem dX2_payOut_5 : decode cX2_payOut 5 = .ok (.aload_n 0, 1) := by decide +kernel
theorem dX2_payOut_6 : decode cX2_payOut 6 = .ok (.invokevirtual 87, 3) := by decide +kernel
theorem dX2_payOut_9 : decode cX2_payOut 9 = .ok (.istore_n 2, 1) := by decide +kernel
theorem dX2_payOut_10 : decode cX2_payOut 10 = .ok (.aload_n 0, 1) := by decide +kernel
theorem dX2_payOut_11 : decode cX2_payOut 11 = .ok (.iload_n 1, 1) := by decide +kernel
theorem dX2_payOut_12 : decode cX2_payOut 12 = .ok (.iload_n 2, 1) := by decide +kernel
theorem dX2_payOut_13 : decode cX2_payOut 13 = .ok (.getstatic 90, 3) := by decide +kernel
theorem dX2_payOut_16 : decode cX2_payOut 16 = .ok (.arraylength, 1) := by decide +kernel
theorem dX2_payOut_17 : decode cX2_payOut 17 = .ok (.invokevirtual 94, 3) := by decide +kernel
theorem dX2_payOut_20 : decode cX2_payOut 20 = .ok (.iload_n 2, 1) := by decide +kernel
theorem dX2_payOut_21 : decode cX2_payOut 21 = .ok (.invokestatic 98, 3) := by decide +kernel
theorem dX2_payOut_24 : decode cX2_payOut 24 = .ok (.istore_n 3, 1) := by decide +kernel
theorem dX2_payOut_25 : decode cX2_payOut 25 = .ok (.iload_n 1, 1) := by decide +kernel
theorem dX2_payOut_26 : decode cX2_payOut 26 = .ok (.istore 4, 2) := by decide +kernel
theorem dX2_payOut_28 : decode cX2_payOut 28 = .ok (.iconst 0, 1) := by decide +kernel
theorem dX2_payOut_29 : decode cX2_payOut 29 = .ok (.istore 5, 2) := by decide +kernel
theorem dX2_payOut_31 : decode cX2_payOut 31 = .ok (.iload 5, 2) := by decide +kernel
theorem dX2_payOut_33 : decode cX2_payOut 33 = .ok (.aload_n 0, 1) := by decide +kernel
theorem dX2_payOut_34 : decode cX2_payOut 34 = .ok (.getfield 36, 3) := by decide +kernel
theorem dX2_payOut_37 : decode cX2_payOut 37 = .ok (.invokevirtual 56, 3) := by decide +kernel
theorem dX2_payOut_40 : decode cX2_payOut 40 = .ok (.if_icmp .ge 58, 3) := by decide +kernel
theorem dX2_payOut_43 : decode cX2_payOut 43 = .ok (.aload_n 0, 1) := by decide +kernel
theorem dX2_payOut_44 : decode cX2_payOut 44 = .ok (.getfield 36, 3) := by decide +kernel
theorem dX2_payOut_47 : decode cX2_payOut 47 = .ok (.iload 5, 2) := by decide +kernel
theorem dX2_payOut_49 : decode cX2_payOut 49 = .ok (.invokevirtual 60, 3) := by decide +kernel
theorem dX2_payOut_52 : decode cX2_payOut 52 = .ok (.checkcast 40, 3) := by decide +kernel
theorem dX2_payOut_55 : decode cX2_payOut 55 = .ok (.astore 6, 2) := by decide +kernel
theorem dX2_payOut_57 : decode cX2_payOut 57 = .ok (.aload 6, 2) := by decide +kernel
theorem dX2_payOut_59 : decode cX2_payOut 59 = .ok (.getfield 81, 3) := by decide +kernel
theorem dX2_payOut_62 : decode cX2_payOut 62 = .ok (.ifCond .eq 30, 3) := by decide +kernel
theorem dX2_payOut_65 : decode cX2_payOut 65 = .ok (.aload 6, 2) := by decide +kernel
theorem dX2_payOut_67 : decode cX2_payOut 67 = .ok (.aload_n 0, 1) := by decide +kernel
theorem dX2_payOut_68 : decode cX2_payOut 68 = .ok (.iload_n 1, 1) := by decide +kernel
theorem dX2_payOut_69 : decode cX2_payOut 69 = .ok (.aload 6, 2) := by decide +kernel
theorem dX2_payOut_71 : decode cX2_payOut 71 = .ok (.getfield 102, 3) := by decide +kernel
theorem dX2_payOut_74 : decode cX2_payOut 74 = .ok (.invokevirtual 105, 3) := by decide +kernel
theorem dX2_payOut_77 : decode cX2_payOut 77 = .ok (.iload_n 3, 1) := by decide +kernel
theorem dX2_payOut_78 : decode cX2_payOut 78 = .ok (.iadd, 1) := by decide +kernel
theorem dX2_payOut_79 : decode cX2_payOut 79 = .ok (.putfield 108, 3) := by decide +kernel
theorem dX2_payOut_82 : decode cX2_payOut 82 = .ok (.iload 4, 2) := by decide +kernel
theorem dX2_payOut_84 : decode cX2_payOut 84 = .ok (.aload 6, 2) := by decide +kernel
theorem dX2_payOut_86 : decode cX2_payOut 86 = .ok (.getfield 108, 3) := by decide +kernel
theorem dX2_payOut_89 : decode cX2_payOut 89 = .ok (.isub, 1) := by decide +kernel
theorem dX2_payOut_90 : decode cX2_payOut 90 = .ok (.istore 4, 2) := by decide +kernel
theorem dX2_payOut_92 : decode cX2_payOut 92 = .ok (.iinc 5 1, 3) := by decide +kernel
theorem dX2_payOut_95 : decode cX2_payOut 95 = .ok (.goto (-64), 3) := by decide +kernel
theorem dX2_payOut_98 : decode cX2_payOut 98 = .ok (.aload_n 0, 1) := by decide +kernel
theorem dX2_payOut_99 : decode cX2_payOut 99 = .ok (.iload 4, 2) := by decide +kernel
theorem dX2_payOut_101 : decode cX2_payOut 101 = .ok (.putfield 111, 3) := by decide +kernel
theorem dX2_payOut_104 : decode cX2_payOut 104 = .ok (.aload_n 0, 1) := by decide +kernel
theorem dX2_payOut_105 : decode cX2_payOut 105 = .ok (.iconst 3, 1) := by decide +kernel
theorem dX2_payOut_106 : decode cX2_payOut 106 = .ok (.putfield 46, 3) := by decide +kernel
theorem dX2_payOut_109 : decode cX2_payOut 109 = .ok (.return_, 1) := by decide +kernel
theorem dX2_placeMoney_0 : decode cX2_placeMoney 0 = .ok (.iconst 0, 1) := by decide +kernel
theorem dX2_placeMoney_1 : decode cX2_placeMoney 1 = .ok (.istore_n 3, 1) := by decide +kernel
theorem dX2_placeMoney_2 : decode cX2_placeMoney 2 = .ok (.iconst 0, 1) := by decide +kernel
theorem dX2_placeMoney_3 : decode cX2_placeMoney 3 = .ok (.istore 4, 2) := by decide +kernel
theorem dX2_placeMoney_5 : decode cX2_placeMoney 5 = .ok (.iconst 0, 1) := by decide +kernel
theorem dX2_placeMoney_6 : decode cX2_placeMoney 6 = .ok (.istore 5, 2) := by decide +kernel
theorem dX2_placeMoney_8 : decode cX2_placeMoney 8 = .ok (.iload 5, 2) := by decide +kernel
theorem dX2_placeMoney_10 : decode cX2_placeMoney 10 = .ok (.aload_n 0, 1) := by decide +kernel
theorem dX2_placeMoney_11 : decode cX2_placeMoney 11 = .ok (.getfield 36, 3) := by decide +kernel
theorem dX2_placeMoney_14 : decode cX2_placeMoney 14 = .ok (.invokevirtual 56, 3) := by decide +kernel
theorem dX2_placeMoney_17 : decode cX2_placeMoney 17 = .ok (.if_icmp .ge 66, 3) := by decide +kernel
theorem dX2_placeMoney_20 : decode cX2_placeMoney 20 = .ok (.aload_n 0, 1) := by decide +kernel
theorem dX2_placeMoney_21 : decode cX2_placeMoney 21 = .ok (.getfield 36, 3) := by decide +kernel
theorem dX2_placeMoney_24 : decode cX2_placeMoney 24 = .ok (.iload 5, 2) := by decide +kernel
theorem dX2_placeMoney_26 : decode cX2_placeMoney 26 = .ok (.invokevirtual 60, 3) := by decide +kernel
theorem dX2_placeMoney_29 : decode cX2_placeMoney 29 = .ok (.checkcast 40, 3) := by decide +kernel
theorem dX2_placeMoney_32 : decode cX2_placeMoney 32 = .ok (.astore 6, 2) := by decide +kernel
theorem dX2_placeMoney_34 : decode cX2_placeMoney 34 = .ok (.aload 6, 2) := by decide +kernel
theorem dX2_placeMoney_36 : decode cX2_placeMoney 36 = .ok (.getfield 81, 3) := by decide +kernel
theorem dX2_placeMoney_39 : decode cX2_placeMoney 39 = .ok (.ifCond .eq 18, 3) := by decide +kernel
theorem dX2_placeMoney_42 : decode cX2_placeMoney 42 = .ok (.aload 6, 2) := by decide +kernel
theorem dX2_placeMoney_44 : decode cX2_placeMoney 44 = .ok (.getfield 102, 3) := by decide +kernel
theorem dX2_placeMoney_47 : decode cX2_placeMoney 47 = .ok (.iload_n 2, 1) := by decide +kernel
theorem dX2_placeMoney_48 : decode cX2_placeMoney 48 = .ok (.if_icmp .le 9, 3) := by decide +kernel
theorem dX2_placeMoney_51 : decode cX2_placeMoney 51 = .ok (.iinc 3 1, 3) := by decide +kernel
theorem dX2_placeMoney_54 : decode cX2_placeMoney 54 = .ok (.goto 23, 3) := by decide +kernel
theorem dX2_placeMoney_57 : decode cX2_placeMoney 57 = .ok (.aload 6, 2) := by decide +kernel
theorem dX2_placeMoney_59 : decode cX2_placeMoney 59 = .ok (.getfield 81, 3) := by decide +kernel
theorem dX2_placeMoney_62 : decode cX2_placeMoney 62 = .ok (.ifCond .eq 15, 3) := by decide +kernel
theorem dX2_placeMoney_65 : decode cX2_placeMoney 65 = .ok (.aload 6, 2) := by decide +kernel
theorem dX2_placeMoney_67 : decode cX2_placeMoney 67 = .ok (.getfield 102, 3) := by decide +kernel
theorem dX2_placeMoney_70 : decode cX2_placeMoney 70 = .ok (.iload_n 2, 1) := by decide +kernel
theorem dX2_placeMoney_71 : decode cX2_placeMoney 71 = .ok (.if_icmp .ne 6, 3) := by decide +kernel
theorem dX2_placeMoney_74 : decode cX2_placeMoney 74 = .ok (.iinc 4 1, 3) := by decide +kernel
theorem dX2_placeMoney_77 : decode cX2_placeMoney 77 = .ok (.iinc 5 1, 3) := by decide +kernel
theorem dX2_placeMoney_80 : decode cX2_placeMoney 80 = .ok (.goto (-72), 3) := by decide +kernel
theorem dX2_placeMoney_83 : decode cX2_placeMoney 83 = .ok (.aload_n 0, 1) := by decide +kernel
theorem dX2_placeMoney_84 : decode cX2_placeMoney 84 = .ok (.iload_n 1, 1) := by decide +kernel
theorem dX2_placeMoney_85 : decode cX2_placeMoney 85 = .ok (.iload_n 3, 1) := by decide +kernel
theorem dX2_placeMoney_86 : decode cX2_placeMoney 86 = .ok (.iload_n 3, 1) := by decide +kernel
theorem dX2_placeMoney_87 : decode cX2_placeMoney 87 = .ok (.iload 4, 2) := by decide +kernel
theorem dX2_placeMoney_89 : decode cX2_placeMoney 89 = .ok (.iadd, 1) := by decide +kernel
theorem dX2_placeMoney_90 : decode cX2_placeMoney 90 = .ok (.invokevirtual 94, 3) := by decide +kernel
theorem dX2_placeMoney_93 : decode cX2_placeMoney 93 = .ok (.iload 4, 2) := by decide +kernel
theorem dX2_placeMoney_95 : decode cX2_placeMoney 95 = .ok (.invokestatic 98, 3) := by decide +kernel
theorem dX2_placeMoney_98 : decode cX2_placeMoney 98 = .ok (.ireturn, 1) := by decide +kernel
theorem dX2_sharesOf_0 : decode cX2_sharesOf 0 = .ok (.iconst 0, 1) := by decide +kernel
theorem dX2_sharesOf_1 : decode cX2_sharesOf 1 = .ok (.istore 4, 2) := by decide +kernel
theorem dX2_sharesOf_3 : decode cX2_sharesOf 3 = .ok (.iconst 0, 1) := by decide +kernel
theorem dX2_sharesOf_4 : decode cX2_sharesOf 4 = .ok (.istore 5, 2) := by decide +kernel
theorem dX2_sharesOf_6 : decode cX2_sharesOf 6 = .ok (.iload 5, 2) := by decide +kernel
theorem dX2_sharesOf_8 : decode cX2_sharesOf 8 = .ok (.getstatic 90, 3) := by decide +kernel
theorem dX2_sharesOf_11 : decode cX2_sharesOf 11 = .ok (.arraylength, 1) := by decide +kernel
theorem dX2_sharesOf_12 : decode cX2_sharesOf 12 = .ok (.if_icmp .ge 37, 3) := by decide +kernel
theorem dX2_sharesOf_15 : decode cX2_sharesOf 15 = .ok (.iload 5, 2) := by decide +kernel
theorem dX2_sharesOf_17 : decode cX2_sharesOf 17 = .ok (.iload_n 2, 1) := by decide +kernel
theorem dX2_sharesOf_18 : decode cX2_sharesOf 18 = .ok (.if_icmp .lt 25, 3) := by decide +kernel
theorem dX2_sharesOf_21 : decode cX2_sharesOf 21 = .ok (.iload 5, 2) := by decide +kernel
theorem dX2_sharesOf_23 : decode cX2_sharesOf 23 = .ok (.iload_n 3, 1) := by decide +kernel
theorem dX2_sharesOf_24 : decode cX2_sharesOf 24 = .ok (.if_icmp .ge 19, 3) := by decide +kernel
theorem dX2_sharesOf_27 : decode cX2_sharesOf 27 = .ok (.iload 4, 2) := by decide +kernel
theorem dX2_sharesOf_29 : decode cX2_sharesOf 29 = .ok (.iload_n 1, 1) := by decide +kernel
theorem dX2_sharesOf_30 : decode cX2_sharesOf 30 = .ok (.getstatic 90, 3) := by decide +kernel
theorem dX2_sharesOf_33 : decode cX2_sharesOf 33 = .ok (.iload 5, 2) := by decide +kernel
theorem dX2_sharesOf_35 : decode cX2_sharesOf 35 = .ok (.iaload, 1) := by decide +kernel
theorem dX2_sharesOf_36 : decode cX2_sharesOf 36 = .ok (.imul, 1) := by decide +kernel
theorem dX2_sharesOf_37 : decode cX2_sharesOf 37 = .ok (.bipush 100, 2) := by decide +kernel
theorem dX2_sharesOf_39 : decode cX2_sharesOf 39 = .ok (.idiv, 1) := by decide +kernel
theorem dX2_sharesOf_40 : decode cX2_sharesOf 40 = .ok (.iadd, 1) := by decide +kernel
theorem dX2_sharesOf_41 : decode cX2_sharesOf 41 = .ok (.istore 4, 2) := by decide +kernel
theorem dX2_sharesOf_43 : decode cX2_sharesOf 43 = .ok (.iinc 5 1, 3) := by decide +kernel
theorem dX2_sharesOf_46 : decode cX2_sharesOf 46 = .ok (.goto (-40), 3) := by decide +kernel
theorem dX2_sharesOf_49 : decode cX2_sharesOf 49 = .ok (.iload 4, 2) := by decide +kernel
theorem dX2_sharesOf_51 : decode cX2_sharesOf 51 = .ok (.ireturn, 1) := by decide +kernel
theorem dX2_isEven_0 : decode cX2_isEven 0 = .ok (.aload_n 0, 1) := by decide +kernel
theorem dX2_isEven_1 : decode cX2_isEven 1 = .ok (.getfield 111, 3) := by decide +kernel
theorem dX2_isEven_4 : decode cX2_isEven 4 = .ok (.istore_n 1, 1) := by decide +kernel
theorem dX2_isEven_5 : decode cX2_isEven 5 = .ok (.iconst 0, 1) := by decide +kernel
theorem dX2_isEven_6 : decode cX2_isEven 6 = .ok (.istore_n 2, 1) := by decide +kernel
theorem dX2_isEven_7 : decode cX2_isEven 7 = .ok (.iload_n 2, 1) := by decide +kernel
theorem dX2_isEven_8 : decode cX2_isEven 8 = .ok (.aload_n 0, 1) := by decide +kernel
theorem dX2_isEven_9 : decode cX2_isEven 9 = .ok (.getfield 36, 3) := by decide +kernel
theorem dX2_isEven_12 : decode cX2_isEven 12 = .ok (.invokevirtual 56, 3) := by decide +kernel
theorem dX2_isEven_15 : decode cX2_isEven 15 = .ok (.if_icmp .ge 26, 3) := by decide +kernel
theorem dX2_isEven_18 : decode cX2_isEven 18 = .ok (.iload_n 1, 1) := by decide +kernel
theorem dX2_isEven_19 : decode cX2_isEven 19 = .ok (.aload_n 0, 1) := by decide +kernel
theorem dX2_isEven_20 : decode cX2_isEven 20 = .ok (.getfield 36, 3) := by decide +kernel
theorem dX2_isEven_23 : decode cX2_isEven 23 = .ok (.iload_n 2, 1) := by decide +kernel
theorem dX2_isEven_24 : decode cX2_isEven 24 = .ok (.invokevirtual 60, 3) := by decide +kernel
theorem dX2_isEven_27 : decode cX2_isEven 27 = .ok (.checkcast 40, 3) := by decide +kernel
theorem dX2_isEven_30 : decode cX2_isEven 30 = .ok (.getfield 108, 3) := by decide +kernel
theorem dX2_isEven_33 : decode cX2_isEven 33 = .ok (.iadd, 1) := by decide +kernel
theorem dX2_isEven_34 : decode cX2_isEven 34 = .ok (.istore_n 1, 1) := by decide +kernel
theorem dX2_isEven_35 : decode cX2_isEven 35 = .ok (.iinc 2 1, 3) := by decide +kernel
theorem dX2_isEven_38 : decode cX2_isEven 38 = .ok (.goto (-31), 3) := by decide +kernel
theorem dX2_isEven_41 : decode cX2_isEven 41 = .ok (.aload_n 0, 1) := by decide +kernel
theorem dX2_isEven_42 : decode cX2_isEven 42 = .ok (.getfield 46, 3) := by decide +kernel
theorem dX2_isEven_45 : decode cX2_isEven 45 = .ok (.iconst 3, 1) := by decide +kernel
theorem dX2_isEven_46 : decode cX2_isEven 46 = .ok (.if_icmp .ne 11, 3) := by decide +kernel
theorem dX2_isEven_49 : decode cX2_isEven 49 = .ok (.iload_n 1, 1) := by decide +kernel
theorem dX2_isEven_50 : decode cX2_isEven 50 = .ok (.aload_n 0, 1) := by decide +kernel
theorem dX2_isEven_51 : decode cX2_isEven 51 = .ok (.invokevirtual 84, 3) := by decide +kernel
theorem dX2_isEven_54 : decode cX2_isEven 54 = .ok (.if_icmp .ne 7, 3) := by decide +kernel
theorem dX2_isEven_57 : decode cX2_isEven 57 = .ok (.iconst 1, 1) := by decide +kernel
theorem dX2_isEven_58 : decode cX2_isEven 58 = .ok (.goto 4, 3) := by decide +kernel
theorem dX2_isEven_61 : decode cX2_isEven 61 = .ok (.iconst 0, 1) := by decide +kernel
theorem dX2_isEven_62 : decode cX2_isEven 62 = .ok (.ireturn, 1) := by decide +kernel
