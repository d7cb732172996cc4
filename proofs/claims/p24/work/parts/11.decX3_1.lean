theorem dX3_countWithWaysOutside_48 : decode cX3_countWithWaysOutside 48 = .ok (.ireturn, 1) := by decide +kernel
theorem dX3_hasWayOutside_0 : decode cX3_hasWayOutside 0 = .ok (.iconst 0, 1) := by decide +kernel
theorem dX3_hasWayOutside_1 : decode cX3_hasWayOutside 1 = .ok (.istore 4, 2) := by decide +kernel
theorem dX3_hasWayOutside_3 : decode cX3_hasWayOutside 3 = .ok (.iload 4, 2) := by decide +kernel
theorem dX3_hasWayOutside_5 : decode cX3_hasWayOutside 5 = .ok (.aload_n 1, 1) := by decide +kernel
theorem dX3_hasWayOutside_6 : decode cX3_hasWayOutside 6 = .ok (.getfield 100, 3) := by decide +kernel
theorem dX3_hasWayOutside_9 : decode cX3_hasWayOutside 9 = .ok (.if_icmp .ge 58, 3) := by decide +kernel
theorem dX3_hasWayOutside_12 : decode cX3_hasWayOutside 12 = .ok (.aload_n 2, 1) := by decide +kernel
theorem dX3_hasWayOutside_13 : decode cX3_hasWayOutside 13 = .ok (.getfield 272, 3) := by decide +kernel
theorem dX3_hasWayOutside_16 : decode cX3_hasWayOutside 16 = .ok (.iload 4, 2) := by decide +kernel
theorem dX3_hasWayOutside_18 : decode cX3_hasWayOutside 18 = .ok (.invokestatic 105, 3) := by decide +kernel
theorem dX3_hasWayOutside_21 : decode cX3_hasWayOutside 21 = .ok (.ifCond .eq 16, 3) := by decide +kernel
theorem dX3_hasWayOutside_24 : decode cX3_hasWayOutside 24 = .ok (.iload_n 3, 1) := by decide +kernel
theorem dX3_hasWayOutside_25 : decode cX3_hasWayOutside 25 = .ok (.iload 4, 2) := by decide +kernel
theorem dX3_hasWayOutside_27 : decode cX3_hasWayOutside 27 = .ok (.invokestatic 105, 3) := by decide +kernel
theorem dX3_hasWayOutside_30 : decode cX3_hasWayOutside 30 = .ok (.ifCond .ne 7, 3) := by decide +kernel
theorem dX3_hasWayOutside_33 : decode cX3_hasWayOutside 33 = .ok (.iconst 1, 1) := by decide +kernel
theorem dX3_hasWayOutside_34 : decode cX3_hasWayOutside 34 = .ok (.goto 4, 3) := by decide +kernel
theorem dX3_hasWayOutside_37 : decode cX3_hasWayOutside 37 = .ok (.iconst 0, 1) := by decide +kernel
theorem dX3_hasWayOutside_38 : decode cX3_hasWayOutside 38 = .ok (.istore 5, 2) := by decide +kernel
theorem dX3_hasWayOutside_40 : decode cX3_hasWayOutside 40 = .ok (.iload 5, 2) := by decide +kernel
theorem dX3_hasWayOutside_42 : decode cX3_hasWayOutside 42 = .ok (.ifCond .eq 19, 3) := by decide +kernel
theorem dX3_hasWayOutside_45 : decode cX3_hasWayOutside 45 = .ok (.aload_n 0, 1) := by decide +kernel
theorem dX3_hasWayOutside_46 : decode cX3_hasWayOutside 46 = .ok (.aload_n 1, 1) := by decide +kernel
theorem dX3_hasWayOutside_47 : decode cX3_hasWayOutside 47 = .ok (.aload_n 2, 1) := by decide +kernel
theorem dX3_hasWayOutside_48 : decode cX3_hasWayOutside 48 = .ok (.getfield 262, 3) := by decide +kernel
theorem dX3_hasWayOutside_51 : decode cX3_hasWayOutside 51 = .ok (.iload 4, 2) := by decide +kernel
theorem dX3_hasWayOutside_53 : decode cX3_hasWayOutside 53 = .ok (.invokevirtual 278, 3) := by decide +kernel
theorem dX3_hasWayOutside_56 : decode cX3_hasWayOutside 56 = .ok (.ifCond .eq 5, 3) := by decide +kernel
theorem dX3_hasWayOutside_59 : decode cX3_hasWayOutside 59 = .ok (.iconst 1, 1) := by decide +kernel
theorem dX3_hasWayOutside_60 : decode cX3_hasWayOutside 60 = .ok (.ireturn, 1) := by decide +kernel
theorem dX3_hasWayOutside_61 : decode cX3_hasWayOutside 61 = .ok (.iinc 4 1, 3) := by decide +kernel
theorem dX3_hasWayOutside_64 : decode cX3_hasWayOutside 64 = .ok (.goto (-61), 3) := by decide +kernel
theorem dX3_hasWayOutside_67 : decode cX3_hasWayOutside 67 = .ok (.iconst 0, 1) := by decide +kernel
theorem dX3_hasWayOutside_68 : decode cX3_hasWayOutside 68 = .ok (.ireturn, 1) := by decide +kernel
theorem dX3_mountAll_0 : decode cX3_mountAll 0 = .ok (.iconst 0, 1) := by decide +kernel
theorem dX3_mountAll_1 : decode cX3_mountAll 1 = .ok (.istore_n 3, 1) := by decide +kernel
theorem dX3_mountAll_2 : decode cX3_mountAll 2 = .ok (.iconst 0, 1) := by decide +kernel
theorem dX3_mountAll_3 : decode cX3_mountAll 3 = .ok (.istore 4, 2) := by decide +kernel
theorem dX3_mountAll_5 : decode cX3_mountAll 5 = .ok (.iload 4, 2) := by decide +kernel
theorem dX3_mountAll_7 : decode cX3_mountAll 7 = .ok (.aload_n 1, 1) := by decide +kernel
theorem dX3_mountAll_8 : decode cX3_mountAll 8 = .ok (.getfield 82, 3) := by decide +kernel
theorem dX3_mountAll_11 : decode cX3_mountAll 11 = .ok (.invokevirtual 37, 3) := by decide +kernel
theorem dX3_mountAll_14 : decode cX3_mountAll 14 = .ok (.if_icmp .ge 55, 3) := by decide +kernel
theorem dX3_mountAll_17 : decode cX3_mountAll 17 = .ok (.aload_n 1, 1) := by decide +kernel
theorem dX3_mountAll_18 : decode cX3_mountAll 18 = .ok (.getfield 82, 3) := by decide +kernel
theorem dX3_mountAll_21 : decode cX3_mountAll 21 = .ok (.iload 4, 2) := by decide +kernel
theorem dX3_mountAll_23 : decode cX3_mountAll 23 = .ok (.invokevirtual 124, 3) := by decide +kernel
theorem dX3_mountAll_26 : decode cX3_mountAll 26 = .ok (.checkcast 113, 3) := by decide +kernel
theorem dX3_mountAll_29 : decode cX3_mountAll 29 = .ok (.astore 5, 2) := by decide +kernel
theorem dX3_mountAll_31 : decode cX3_mountAll 31 = .ok (.aload 5, 2) := by decide +kernel
theorem dX3_mountAll_33 : decode cX3_mountAll 33 = .ok (.getfield 132, 3) := by decide +kernel
theorem dX3_mountAll_36 : decode cX3_mountAll 36 = .ok (.iload_n 2, 1) := by decide +kernel
theorem dX3_mountAll_37 : decode cX3_mountAll 37 = .ok (.if_icmp .ne 26, 3) := by decide +kernel
theorem dX3_mountAll_40 : decode cX3_mountAll 40 = .ok (.aload_n 0, 1) := by decide +kernel
theorem dX3_mountAll_41 : decode cX3_mountAll 41 = .ok (.aload_n 1, 1) := by decide +kernel
theorem dX3_mountAll_42 : decode cX3_mountAll 42 = .ok (.aload 5, 2) := by decide +kernel
theorem dX3_mountAll_44 : decode cX3_mountAll 44 = .ok (.invokevirtual 196, 3) := by decide +kernel
theorem dX3_mountAll_47 : decode cX3_mountAll 47 = .ok (.iload_n 3, 1) := by decide +kernel
theorem dX3_mountAll_48 : decode cX3_mountAll 48 = .ok (.aload 5, 2) := by decide +kernel
theorem dX3_mountAll_50 : decode cX3_mountAll 50 = .ok (.getfield 169, 3) := by decide +kernel
theorem dX3_mountAll_53 : decode cX3_mountAll 53 = .ok (.ifCond .eq 7, 3) := by decide +kernel
theorem dX3_mountAll_56 : decode cX3_mountAll 56 = .ok (.iconst 1, 1) := by decide +kernel
theorem dX3_mountAll_57 : decode cX3_mountAll 57 = .ok (.goto 4, 3) := by decide +kernel
theorem dX3_mountAll_60 : decode cX3_mountAll 60 = .ok (.iconst 0, 1) := by decide +kernel
theorem dX3_mountAll_61 : decode cX3_mountAll 61 = .ok (.iadd, 1) := by decide +kernel
theorem dX3_mountAll_62 : decode cX3_mountAll 62 = .ok (.istore_n 3, 1) := by decide +kernel
theorem dX3_mountAll_63 : decode cX3_mountAll 63 = .ok (.iinc 4 1, 3) := by decide +kernel
theorem dX3_mountAll_66 : decode cX3_mountAll 66 = .ok (.goto (-61), 3) := by decide +kernel
theorem dX3_mountAll_69 : decode cX3_mountAll 69 = .ok (.iload_n 3, 1) := by decide +kernel
theorem dX3_mountAll_70 : decode cX3_mountAll 70 = .ok (.ireturn, 1) := by decide +kernel
theorem dX3_mount_0 : decode cX3_mount 0 = .ok (.aload_n 2, 1) := by decide +kernel
theorem dX3_mount_1 : decode cX3_mount 1 = .ok (.aload_n 0, 1) := by decide +kernel
theorem dX3_mount_2 : decode cX3_mount 2 = .ok (.aload_n 1, 1) := by decide +kernel
theorem dX3_mount_3 : decode cX3_mount 3 = .ok (.getfield 297, 3) := by decide +kernel
theorem dX3_mount_6 : decode cX3_mount 6 = .ok (.aload_n 1, 1) := by decide +kernel
theorem dX3_mount_7 : decode cX3_mount 7 = .ok (.aload_n 2, 1) := by decide +kernel
theorem dX3_mount_8 : decode cX3_mount 8 = .ok (.getfield 132, 3) := by decide +kernel
theorem dX3_mount_11 : decode cX3_mount 11 = .ok (.invokevirtual 281, 3) := by decide +kernel
theorem dX3_mount_14 : decode cX3_mount 14 = .ok (.invokevirtual 298, 3) := by decide +kernel
theorem dX3_mount_17 : decode cX3_mount 17 = .ok (.putfield 302, 3) := by decide +kernel
theorem dX3_mount_20 : decode cX3_mount 20 = .ok (.aload_n 2, 1) := by decide +kernel
theorem dX3_mount_21 : decode cX3_mount 21 = .ok (.aload_n 2, 1) := by decide +kernel
theorem dX3_mount_22 : decode cX3_mount 22 = .ok (.getfield 302, 3) := by decide +kernel
theorem dX3_mount_25 : decode cX3_mount 25 = .ok (.ifnull 7, 3) := by decide +kernel
theorem dX3_mount_28 : decode cX3_mount 28 = .ok (.iconst 1, 1) := by decide +kernel
theorem dX3_mount_29 : decode cX3_mount 29 = .ok (.goto 4, 3) := by decide +kernel
theorem dX3_mount_32 : decode cX3_mount 32 = .ok (.iconst 0, 1) := by decide +kernel
theorem dX3_mount_33 : decode cX3_mount 33 = .ok (.putfield 169, 3) := by decide +kernel
theorem dX3_mount_36 : decode cX3_mount 36 = .ok (.return_, 1) := by decide +kernel
theorem dX3_drawBeast_0 : decode cX3_drawBeast 0 = .ok (.aload_n 0, 1) := by decide +kernel
theorem dX3_drawBeast_1 : decode cX3_drawBeast 1 = .ok (.iload_n 1, 1) := by decide +kernel
theorem dX3_drawBeast_2 : decode cX3_drawBeast 2 = .ok (.iload_n 2, 1) := by decide +kernel
theorem dX3_drawBeast_3 : decode cX3_drawBeast 3 = .ok (.invokevirtual 306, 3) := by decide +kernel
theorem dX3_drawBeast_6 : decode cX3_drawBeast 6 = .ok (.istore_n 3, 1) := by decide +kernel
theorem dX3_drawBeast_7 : decode cX3_drawBeast 7 = .ok (.iload_n 3, 1) := by decide +kernel
theorem dX3_drawBeast_8 : decode cX3_drawBeast 8 = .ok (.iconst 1, 1) := by decide +kernel
theorem dX3_drawBeast_9 : decode cX3_drawBeast 9 = .ok (.if_icmp .ge 5, 3) := by decide +kernel
theorem dX3_drawBeast_12 : decode cX3_drawBeast 12 = .ok (.aconst_null, 1) := by decide +kernel
theorem dX3_drawBeast_13 : decode cX3_drawBeast 13 = .ok (.areturn, 1) := by decide +kernel
theorem dX3_drawBeast_14 : decode cX3_drawBeast 14 = .ok (.aload_n 0, 1) := by decide +kernel
theorem dX3_drawBeast_15 : decode cX3_drawBeast 15 = .ok (.bipush 75, 2) := by decide +kernel
theorem dX3_drawBeast_17 : decode cX3_drawBeast 17 = .ok (.aload_n 0, 1) := by decide +kernel
theorem dX3_drawBeast_18 : decode cX3_drawBeast 18 = .ok (.getfield 23, 3) := by decide +kernel
theorem dX3_drawBeast_21 : decode cX3_drawBeast 21 = .ok (.imul, 1) := by decide +kernel
theorem dX3_drawBeast_22 : decode cX3_drawBeast 22 = .ok (.bipush 74, 2) := by decide +kernel
theorem dX3_drawBeast_24 : decode cX3_drawBeast 24 = .ok (.iadd, 1) := by decide +kernel
theorem dX3_drawBeast_25 : decode cX3_drawBeast 25 = .ok (.ldc_w 309, 3) := by decide +kernel
theorem dX3_drawBeast_28 : decode cX3_drawBeast 28 = .ok (.irem, 1) := by decide +kernel
theorem dX3_drawBeast_29 : decode cX3_drawBeast 29 = .ok (.putfield 23, 3) := by decide +kernel
theorem dX3_drawBeast_32 : decode cX3_drawBeast 32 = .ok (.aload_n 0, 1) := by decide +kernel
theorem dX3_drawBeast_33 : decode cX3_drawBeast 33 = .ok (.iload_n 1, 1) := by decide +kernel
theorem dX3_drawBeast_34 : decode cX3_drawBeast 34 = .ok (.iload_n 2, 1) := by decide +kernel
theorem dX3_drawBeast_35 : decode cX3_drawBeast 35 = .ok (.aload_n 0, 1) := by decide +kernel
theorem dX3_drawBeast_36 : decode cX3_drawBeast 36 = .ok (.getfield 23, 3) := by decide +kernel
theorem dX3_drawBeast_39 : decode cX3_drawBeast 39 = .ok (.iload_n 3, 1) := by decide +kernel
theorem dX3_drawBeast_40 : decode cX3_drawBeast 40 = .ok (.irem, 1) := by decide +kernel
theorem dX3_drawBeast_41 : decode cX3_drawBeast 41 = .ok (.invokevirtual 310, 3) := by decide +kernel
theorem dX3_drawBeast_44 : decode cX3_drawBeast 44 = .ok (.astore 4, 2) := by decide +kernel
theorem dX3_drawBeast_46 : decode cX3_drawBeast 46 = .ok (.aload 4, 2) := by decide +kernel
theorem dX3_drawBeast_48 : decode cX3_drawBeast 48 = .ok (.ifnull 9, 3) := by decide +kernel
theorem dX3_drawBeast_51 : decode cX3_drawBeast 51 = .ok (.aload 4, 2) := by decide +kernel
theorem dX3_drawBeast_53 : decode cX3_drawBeast 53 = .ok (.iload_n 2, 1) := by decide +kernel
theorem dX3_drawBeast_54 : decode cX3_drawBeast 54 = .ok (.invokevirtual 314, 3) := by decide +kernel
theorem dX3_drawBeast_57 : decode cX3_drawBeast 57 = .ok (.aload 4, 2) := by decide +kernel
theorem dX3_drawBeast_59 : decode cX3_drawBeast 59 = .ok (.areturn, 1) := by decide +kernel
theorem dX3_countDrawable_0 : decode cX3_countDrawable 0 = .ok (.iconst 0, 1) := by decide +kernel
theorem dX3_countDrawable_1 : decode cX3_countDrawable 1 = .ok (.istore_n 3, 1) := by decide +kernel
theorem dX3_countDrawable_2 : decode cX3_countDrawable 2 = .ok (.iconst 0, 1) := by decide +kernel
theorem dX3_countDrawable_3 : decode cX3_countDrawable 3 = .ok (.istore 4, 2) := by decide +kernel
theorem dX3_countDrawable_5 : decode cX3_countDrawable 5 = .ok (.iload 4, 2) := by decide +kernel
theorem dX3_countDrawable_7 : decode cX3_countDrawable 7 = .ok (.aload_n 0, 1) := by decide +kernel
theorem dX3_countDrawable_8 : decode cX3_countDrawable 8 = .ok (.getfield 12, 3) := by decide +kernel
theorem dX3_countDrawable_11 : decode cX3_countDrawable 11 = .ok (.invokevirtual 37, 3) := by decide +kernel
theorem dX3_countDrawable_14 : decode cX3_countDrawable 14 = .ok (.if_icmp .ge 32, 3) := by decide +kernel
theorem dX3_countDrawable_17 : decode cX3_countDrawable 17 = .ok (.aload_n 0, 1) := by decide +kernel
theorem dX3_countDrawable_18 : decode cX3_countDrawable 18 = .ok (.getfield 12, 3) := by decide +kernel
theorem dX3_countDrawable_21 : decode cX3_countDrawable 21 = .ok (.iload 4, 2) := by decide +kernel
theorem dX3_countDrawable_23 : decode cX3_countDrawable 23 = .ok (.invokevirtual 124, 3) := by decide +kernel
theorem dX3_countDrawable_26 : decode cX3_countDrawable 26 = .ok (.checkcast 46, 3) := by decide +kernel
theorem dX3_countDrawable_29 : decode cX3_countDrawable 29 = .ok (.iload_n 1, 1) := by decide +kernel
theorem dX3_countDrawable_30 : decode cX3_countDrawable 30 = .ok (.iload_n 2, 1) := by decide +kernel
theorem dX3_countDrawable_31 : decode cX3_countDrawable 31 = .ok (.invokevirtual 317, 3) := by decide +kernel
theorem dX3_countDrawable_34 : decode cX3_countDrawable 34 = .ok (.ifCond .eq 6, 3) := by decide +kernel
theorem dX3_countDrawable_37 : decode cX3_countDrawable 37 = .ok (.iinc 3 1, 3) := by decide +kernel
theorem dX3_countDrawable_40 : decode cX3_countDrawable 40 = .ok (.iinc 4 1, 3) := by decide +kernel
theorem dX3_countDrawable_43 : decode cX3_countDrawable 43 = .ok (.goto (-38), 3) := by decide +kernel
theorem dX3_countDrawable_46 : decode cX3_countDrawable 46 = .ok (.iload_n 3, 1) := by decide +kernel
theorem dX3_countDrawable_47 : decode cX3_countDrawable 47 = .ok (.ireturn, 1) := by decide +kernel
theorem dX3_drawableAt_0 : decode cX3_drawableAt 0 = .ok (.iconst 0, 1) := by decide +kernel
theorem dX3_drawableAt_1 : decode cX3_drawableAt 1 = .ok (.istore 4, 2) := by decide +kernel
theorem dX3_drawableAt_3 : decode cX3_drawableAt 3 = .ok (.iconst 0, 1) := by decide +kernel
theorem dX3_drawableAt_4 : decode cX3_drawableAt 4 = .ok (.istore 5, 2) := by decide +kernel
theorem dX3_drawableAt_6 : decode cX3_drawableAt 6 = .ok (.iload 5, 2) := by decide +kernel
theorem dX3_drawableAt_8 : decode cX3_drawableAt 8 = .ok (.aload_n 0, 1) := by decide +kernel
theorem dX3_drawableAt_9 : decode cX3_drawableAt 9 = .ok (.getfield 12, 3) := by decide +kernel
theorem dX3_drawableAt_12 : decode cX3_drawableAt 12 = .ok (.invokevirtual 37, 3) := by decide +kernel
theorem dX3_drawableAt_15 : decode cX3_drawableAt 15 = .ok (.if_icmp .ge 45, 3) := by decide +kernel
theorem dX3_drawableAt_18 : decode cX3_drawableAt 18 = .ok (.aload_n 0, 1) := by decide +kernel
theorem dX3_drawableAt_19 : decode cX3_drawableAt 19 = .ok (.getfield 12, 3) := by decide +kernel
theorem dX3_drawableAt_22 : decode cX3_drawableAt 22 = .ok (.iload 5, 2) := by decide +kernel
theorem dX3_drawableAt_24 : decode cX3_drawableAt 24 = .ok (.invokevirtual 124, 3) := by decide +kernel
theorem dX3_drawableAt_27 : decode cX3_drawableAt 27 = .ok (.checkcast 46, 3) := by decide +kernel
theorem dX3_drawableAt_30 : decode cX3_drawableAt 30 = .ok (.astore 6, 2) := by decide +kernel
theorem dX3_drawableAt_32 : decode cX3_drawableAt 32 = .ok (.aload 6, 2) := by decide +kernel
theorem dX3_drawableAt_34 : decode cX3_drawableAt 34 = .ok (.iload_n 1, 1) := by decide +kernel
theorem dX3_drawableAt_35 : decode cX3_drawableAt 35 = .ok (.iload_n 2, 1) := by decide +kernel
theorem dX3_drawableAt_36 : decode cX3_drawableAt 36 = .ok (.invokevirtual 317, 3) := by decide +kernel
theorem dX3_drawableAt_39 : decode cX3_drawableAt 39 = .ok (.ifCond .eq 15, 3) := by decide +kernel
theorem dX3_drawableAt_42 : decode cX3_drawableAt 42 = .ok (.iload 4, 2) := by decide +kernel
theorem dX3_drawableAt_44 : decode cX3_drawableAt 44 = .ok (.iload_n 3, 1) := by decide +kernel
theorem dX3_drawableAt_45 : decode cX3_drawableAt 45 = .ok (.if_icmp .ne 6, 3) := by decide +kernel
theorem dX3_drawableAt_48 : decode cX3_drawableAt 48 = .ok (.aload 6, 2) := by decide +kernel
theorem dX3_drawableAt_50 : decode cX3_drawableAt 50 = .ok (.areturn, 1) := by decide +kernel
theorem dX3_drawableAt_51 : decode cX3_drawableAt 51 = .ok (.iinc 4 1, 3) := by decide +kernel
theorem dX3_drawableAt_54 : decode cX3_drawableAt 54 = .ok (.iinc 5 1, 3) := by decide +kernel
theorem dX3_drawableAt_57 : decode cX3_drawableAt 57 = .ok (.goto (-51), 3) := by decide +kernel
theorem dX3_drawableAt_60 : decode cX3_drawableAt 60 = .ok (.aconst_null, 1) := by decide +kernel
theorem dX3_drawableAt_61 : decode cX3_drawableAt 61 = .ok (.areturn, 1) := by decide +kernel
theorem dX3_rankOfBeast_0 : decode cX3_rankOfBeast 0 = .ok (.aload_n 1, 1) := by decide +kernel
theorem dX3_rankOfBeast_1 : decode cX3_rankOfBeast 1 = .ok (.getfield 208, 3) := by decide +kernel
theorem dX3_rankOfBeast_4 : decode cX3_rankOfBeast 4 = .ok (.ifCond .ne 5, 3) := by decide +kernel
theorem dX3_rankOfBeast_7 : decode cX3_rankOfBeast 7 = .ok (.iconst (-1), 1) := by decide +kernel
theorem dX3_rankOfBeast_8 : decode cX3_rankOfBeast 8 = .ok (.ireturn, 1) := by decide +kernel
theorem dX3_rankOfBeast_9 : decode cX3_rankOfBeast 9 = .ok (.iconst 0, 1) := by decide +kernel
theorem dX3_rankOfBeast_10 : decode cX3_rankOfBeast 10 = .ok (.istore_n 2, 1) := by decide +kernel
theorem dX3_rankOfBeast_11 : decode cX3_rankOfBeast 11 = .ok (.iconst 0, 1) := by decide +kernel
theorem dX3_rankOfBeast_12 : decode cX3_rankOfBeast 12 = .ok (.istore_n 3, 1) := by decide +kernel
theorem dX3_rankOfBeast_13 : decode cX3_rankOfBeast 13 = .ok (.iload_n 3, 1) := by decide +kernel
theorem dX3_rankOfBeast_14 : decode cX3_rankOfBeast 14 = .ok (.aload_n 0, 1) := by decide +kernel
theorem dX3_rankOfBeast_15 : decode cX3_rankOfBeast 15 = .ok (.getfield 12, 3) := by decide +kernel
theorem dX3_rankOfBeast_18 : decode cX3_rankOfBeast 18 = .ok (.invokevirtual 37, 3) := by decide +kernel
theorem dX3_rankOfBeast_21 : decode cX3_rankOfBeast 21 = .ok (.if_icmp .ge 42, 3) := by decide +kernel
theorem dX3_rankOfBeast_24 : decode cX3_rankOfBeast 24 = .ok (.aload_n 0, 1) := by decide +kernel
theorem dX3_rankOfBeast_25 : decode cX3_rankOfBeast 25 = .ok (.getfield 12, 3) := by decide +kernel
theorem dX3_rankOfBeast_28 : decode cX3_rankOfBeast 28 = .ok (.iload_n 3, 1) := by decide +kernel
theorem dX3_rankOfBeast_29 : decode cX3_rankOfBeast 29 = .ok (.invokevirtual 124, 3) := by decide +kernel
theorem dX3_rankOfBeast_32 : decode cX3_rankOfBeast 32 = .ok (.checkcast 46, 3) := by decide +kernel
theorem dX3_rankOfBeast_35 : decode cX3_rankOfBeast 35 = .ok (.astore 4, 2) := by decide +kernel
theorem dX3_rankOfBeast_37 : decode cX3_rankOfBeast 37 = .ok (.aload 4, 2) := by decide +kernel
theorem dX3_rankOfBeast_39 : decode cX3_rankOfBeast 39 = .ok (.getfield 208, 3) := by decide +kernel
theorem dX3_rankOfBeast_42 : decode cX3_rankOfBeast 42 = .ok (.ifCond .le 15, 3) := by decide +kernel
theorem dX3_rankOfBeast_45 : decode cX3_rankOfBeast 45 = .ok (.aload 4, 2) := by decide +kernel
theorem dX3_rankOfBeast_47 : decode cX3_rankOfBeast 47 = .ok (.aload_n 1, 1) := by decide +kernel
theorem dX3_rankOfBeast_48 : decode cX3_rankOfBeast 48 = .ok (.invokevirtual 320, 3) := by decide +kernel
theorem dX3_rankOfBeast_51 : decode cX3_rankOfBeast 51 = .ok (.ifCond .eq 6, 3) := by decide +kernel
theorem dX3_rankOfBeast_54 : decode cX3_rankOfBeast 54 = .ok (.iinc 2 1, 3) := by decide +kernel
theorem dX3_rankOfBeast_57 : decode cX3_rankOfBeast 57 = .ok (.iinc 3 1, 3) := by decide +kernel
theorem dX3_rankOfBeast_60 : decode cX3_rankOfBeast 60 = .ok (.goto (-47), 3) := by decide +kernel
theorem dX3_rankOfBeast_63 : decode cX3_rankOfBeast 63 = .ok (.iload_n 2, 1) := by decide +kernel
theorem dX3_rankOfBeast_64 : decode cX3_rankOfBeast 64 = .ok (.ireturn, 1) := by decide +kernel
theorem dX3_moneyOf_0 : decode cX3_moneyOf 0 = .ok (.aload_n 1, 1) := by decide +kernel
theorem dX3_moneyOf_1 : decode cX3_moneyOf 1 = .ok (.iload_n 2, 1) := by decide +kernel
theorem dX3_moneyOf_2 : decode cX3_moneyOf 2 = .ok (.invokevirtual 258, 3) := by decide +kernel
theorem dX3_moneyOf_5 : decode cX3_moneyOf 5 = .ok (.astore_n 3, 1) := by decide +kernel
theorem dX3_moneyOf_6 : decode cX3_moneyOf 6 = .ok (.aload_n 3, 1) := by decide +kernel
theorem dX3_moneyOf_7 : decode cX3_moneyOf 7 = .ok (.ifnonnull 7, 3) := by decide +kernel
theorem dX3_moneyOf_10 : decode cX3_moneyOf 10 = .ok (.iconst 0, 1) := by decide +kernel
theorem dX3_moneyOf_11 : decode cX3_moneyOf 11 = .ok (.goto 7, 3) := by decide +kernel
theorem dX3_moneyOf_14 : decode cX3_moneyOf 14 = .ok (.aload_n 3, 1) := by decide +kernel
theorem dX3_moneyOf_15 : decode cX3_moneyOf 15 = .ok (.getfield 233, 3) := by decide +kernel
theorem dX3_moneyOf_18 : decode cX3_moneyOf 18 = .ok (.ireturn, 1) := by decide +kernel
theorem dX3_bestThreePays_0 : decode cX3_bestThreePays 0 = .ok (.iconst 0, 1) := by decide +kernel
theorem dX3_bestThreePays_1 : decode cX3_bestThreePays 1 = .ok (.istore_n 2, 1) := by decide +kernel
theorem dX3_bestThreePays_2 : decode cX3_bestThreePays 2 = .ok (.iconst 0, 1) := by decide +kernel
theorem dX3_bestThreePays_3 : decode cX3_bestThreePays 3 = .ok (.istore_n 3, 1) := by decide +kernel
theorem dX3_bestThreePays_4 : decode cX3_bestThreePays 4 = .ok (.iconst 0, 1) := by decide +kernel
theorem dX3_bestThreePays_5 : decode cX3_bestThreePays 5 = .ok (.istore 4, 2) := by decide +kernel
theorem dX3_bestThreePays_7 : decode cX3_bestThreePays 7 = .ok (.iconst 0, 1) := by decide +kernel
theorem dX3_bestThreePays_8 : decode cX3_bestThreePays 8 = .ok (.istore 5, 2) := by decide +kernel
theorem dX3_bestThreePays_10 : decode cX3_bestThreePays 10 = .ok (.iload 5, 2) := by decide +kernel
theorem dX3_bestThreePays_12 : decode cX3_bestThreePays 12 = .ok (.aload_n 0, 1) := by decide +kernel
theorem dX3_bestThreePays_13 : decode cX3_bestThreePays 13 = .ok (.getfield 16, 3) := by decide +kernel
theorem dX3_bestThreePays_16 : decode cX3_bestThreePays 16 = .ok (.invokevirtual 37, 3) := by decide +kernel
theorem dX3_bestThreePays_19 : decode cX3_bestThreePays 19 = .ok (.if_icmp .ge 71, 3) := by decide +kernel
theorem dX3_bestThreePays_22 : decode cX3_bestThreePays 22 = .ok (.aload_n 0, 1) := by decide +kernel
theorem dX3_bestThreePays_23 : decode cX3_bestThreePays 23 = .ok (.aload_n 0, 1) := by decide +kernel
theorem dX3_bestThreePays_24 : decode cX3_bestThreePays 24 = .ok (.getfield 16, 3) := by decide +kernel
theorem dX3_bestThreePays_27 : decode cX3_bestThreePays 27 = .ok (.iload 5, 2) := by decide +kernel
theorem dX3_bestThreePays_29 : decode cX3_bestThreePays 29 = .ok (.invokevirtual 124, 3) := by decide +kernel
theorem dX3_bestThreePays_32 : decode cX3_bestThreePays 32 = .ok (.checkcast 70, 3) := by decide +kernel
theorem dX3_bestThreePays_35 : decode cX3_bestThreePays 35 = .ok (.iload_n 1, 1) := by decide +kernel
theorem dX3_bestThreePays_36 : decode cX3_bestThreePays 36 = .ok (.invokevirtual 324, 3) := by decide +kernel
theorem dX3_bestThreePays_39 : decode cX3_bestThreePays 39 = .ok (.istore 6, 2) := by decide +kernel
theorem dX3_bestThreePays_41 : decode cX3_bestThreePays 41 = .ok (.iload 6, 2) := by decide +kernel
theorem dX3_bestThreePays_43 : decode cX3_bestThreePays 43 = .ok (.iload_n 2, 1) := by decide +kernel
theorem dX3_bestThreePays_44 : decode cX3_bestThreePays 44 = .ok (.if_icmp .le 14, 3) := by decide +kernel
theorem dX3_bestThreePays_47 : decode cX3_bestThreePays 47 = .ok (.iload_n 3, 1) := by decide +kernel
theorem dX3_bestThreePays_48 : decode cX3_bestThreePays 48 = .ok (.istore 4, 2) := by decide +kernel
theorem dX3_bestThreePays_50 : decode cX3_bestThreePays 50 = .ok (.iload_n 2, 1) := by decide +kernel
theorem dX3_bestThreePays_51 : decode cX3_bestThreePays 51 = .ok (.istore_n 3, 1) := by decide +kernel
theorem dX3_bestThreePays_52 : decode cX3_bestThreePays 52 = .ok (.iload 6, 2) := by decide +kernel
theorem dX3_bestThreePays_54 : decode cX3_bestThreePays 54 = .ok (.istore_n 2, 1) := by decide +kernel
theorem dX3_bestThreePays_55 : decode cX3_bestThreePays 55 = .ok (.goto 29, 3) := by decide +kernel
theorem dX3_bestThreePays_58 : decode cX3_bestThreePays 58 = .ok (.iload 6, 2) := by decide +kernel
theorem dX3_bestThreePays_60 : decode cX3_bestThreePays 60 = .ok (.iload_n 3, 1) := by decide +kernel
theorem dX3_bestThreePays_61 : decode cX3_bestThreePays 61 = .ok (.if_icmp .le 12, 3) := by decide +kernel
theorem dX3_bestThreePays_64 : decode cX3_bestThreePays 64 = .ok (.iload_n 3, 1) := by decide +kernel
theorem dX3_bestThreePays_65 : decode cX3_bestThreePays 65 = .ok (.istore 4, 2) := by decide +kernel
theorem dX3_bestThreePays_67 : decode cX3_bestThreePays 67 = .ok (.iload 6, 2) := by decide +kernel
theorem dX3_bestThreePays_69 : decode cX3_bestThreePays 69 = .ok (.istore_n 3, 1) := by decide +kernel
theorem dX3_bestThreePays_70 : decode cX3_bestThreePays 70 = .ok (.goto 14, 3) := by decide +kernel
theorem dX3_bestThreePays_73 : decode cX3_bestThreePays 73 = .ok (.iload 6, 2) := by decide +kernel
theorem dX3_bestThreePays_75 : decode cX3_bestThreePays 75 = .ok (.iload 4, 2) := by decide +kernel
theorem dX3_bestThreePays_77 : decode cX3_bestThreePays 77 = .ok (.if_icmp .le 7, 3) := by decide +kernel
theorem dX3_bestThreePays_80 : decode cX3_bestThreePays 80 = .ok (.iload 6, 2) := by decide +kernel
theorem dX3_bestThreePays_82 : decode cX3_bestThreePays 82 = .ok (.istore 4, 2) := by decide +kernel
theorem dX3_bestThreePays_84 : decode cX3_bestThreePays 84 = .ok (.iinc 5 1, 3) := by decide +kernel
theorem dX3_bestThreePays_87 : decode cX3_bestThreePays 87 = .ok (.goto (-77), 3) := by decide +kernel
theorem dX3_bestThreePays_90 : decode cX3_bestThreePays 90 = .ok (.iload_n 2, 1) := by decide +kernel
theorem dX3_bestThreePays_91 : decode cX3_bestThreePays 91 = .ok (.iload_n 3, 1) := by decide +kernel
theorem dX3_bestThreePays_92 : decode cX3_bestThreePays 92 = .ok (.iadd, 1) := by decide +kernel
theorem dX3_bestThreePays_93 : decode cX3_bestThreePays 93 = .ok (.iload 4, 2) := by decide +kernel
theorem dX3_bestThreePays_95 : decode cX3_bestThreePays 95 = .ok (.iadd, 1) := by decide +kernel
theorem dX3_bestThreePays_96 : decode cX3_bestThreePays 96 = .ok (.ireturn, 1) := by decide +kernel
theorem dX3_allPays_0 : decode cX3_allPays 0 = .ok (.iconst 0, 1) := by decide +kernel
theorem dX3_allPays_1 : decode cX3_allPays 1 = .ok (.istore_n 2, 1) := by decide +kernel
theorem dX3_allPays_2 : decode cX3_allPays 2 = .ok (.iconst 0, 1) := by decide +kernel
theorem dX3_allPays_3 : decode cX3_allPays 3 = .ok (.istore_n 3, 1) := by decide +kernel
theorem dX3_allPays_4 : decode cX3_allPays 4 = .ok (.iload_n 3, 1) := by decide +kernel
theorem dX3_allPays_5 : decode cX3_allPays 5 = .ok (.aload_n 0, 1) := by decide +kernel
theorem dX3_allPays_6 : decode cX3_allPays 6 = .ok (.getfield 16, 3) := by decide +kernel
theorem dX3_allPays_9 : decode cX3_allPays 9 = .ok (.invokevirtual 37, 3) := by decide +kernel
theorem dX3_allPays_12 : decode cX3_allPays 12 = .ok (.if_icmp .ge 28, 3) := by decide +kernel
theorem dX3_allPays_15 : decode cX3_allPays 15 = .ok (.iload_n 2, 1) := by decide +kernel
theorem dX3_allPays_16 : decode cX3_allPays 16 = .ok (.aload_n 0, 1) := by decide +kernel
theorem dX3_allPays_17 : decode cX3_allPays 17 = .ok (.aload_n 0, 1) := by decide +kernel
theorem dX3_allPays_18 : decode cX3_allPays 18 = .ok (.getfield 16, 3) := by decide +kernel
theorem dX3_allPays_21 : decode cX3_allPays 21 = .ok (.iload_n 3, 1) := by decide +kernel
theorem dX3_allPays_22 : decode cX3_allPays 22 = .ok (.invokevirtual 124, 3) := by decide +kernel
theorem dX3_allPays_25 : decode cX3_allPays 25 = .ok (.checkcast 70, 3) := by decide +kernel
theorem dX3_allPays_28 : decode cX3_allPays 28 = .ok (.iload_n 1, 1) := by decide +kernel
theorem dX3_allPays_29 : decode cX3_allPays 29 = .ok (.invokevirtual 324, 3) := by decide +kernel
theorem dX3_allPays_32 : decode cX3_allPays 32 = .ok (.iadd, 1) := by decide +kernel
theorem dX3_allPays_33 : decode cX3_allPays 33 = .ok (.istore_n 2, 1) := by decide +kernel
theorem dX3_allPays_34 : decode cX3_allPays 34 = .ok (.iinc 3 1, 3) := by decide +kernel
theorem dX3_allPays_37 : decode cX3_allPays 37 = .ok (.goto (-33), 3) := by decide +kernel
theorem dX3_allPays_40 : decode cX3_allPays 40 = .ok (.iload_n 2, 1) := by decide +kernel
theorem dX3_allPays_41 : decode cX3_allPays 41 = .ok (.ireturn, 1) := by decide +kernel
theorem dX3_rankOfRider_0 : decode cX3_rankOfRider 0 = .ok (.iconst 0, 1) := by decide +kernel
theorem dX3_rankOfRider_1 : decode cX3_rankOfRider 1 = .ok (.istore_n 2, 1) := by decide +kernel
theorem dX3_rankOfRider_2 : decode cX3_rankOfRider 2 = .ok (.iconst 0, 1) := by decide +kernel
theorem dX3_rankOfRider_3 : decode cX3_rankOfRider 3 = .ok (.istore_n 3, 1) := by decide +kernel
theorem dX3_rankOfRider_4 : decode cX3_rankOfRider 4 = .ok (.iload_n 3, 1) := by decide +kernel
theorem dX3_rankOfRider_5 : decode cX3_rankOfRider 5 = .ok (.aload_n 0, 1) := by decide +kernel
theorem dX3_rankOfRider_6 : decode cX3_rankOfRider 6 = .ok (.getfield 19, 3) := by decide +kernel
theorem dX3_rankOfRider_9 : decode cX3_rankOfRider 9 = .ok (.if_icmp .ge 21, 3) := by decide +kernel
theorem dX3_rankOfRider_12 : decode cX3_rankOfRider 12 = .ok (.aload_n 0, 1) := by decide +kernel
theorem dX3_rankOfRider_13 : decode cX3_rankOfRider 13 = .ok (.iload_n 3, 1) := by decide +kernel
theorem dX3_rankOfRider_14 : decode cX3_rankOfRider 14 = .ok (.iload_n 1, 1) := by decide +kernel
theorem dX3_rankOfRider_15 : decode cX3_rankOfRider 15 = .ok (.invokevirtual 327, 3) := by decide +kernel
theorem dX3_rankOfRider_18 : decode cX3_rankOfRider 18 = .ok (.ifCond .eq 6, 3) := by decide +kernel
theorem dX3_rankOfRider_21 : decode cX3_rankOfRider 21 = .ok (.iinc 2 1, 3) := by decide +kernel
theorem dX3_rankOfRider_24 : decode cX3_rankOfRider 24 = .ok (.iinc 3 1, 3) := by decide +kernel
theorem dX3_rankOfRider_27 : decode cX3_rankOfRider 27 = .ok (.goto (-23), 3) := by decide +kernel
theorem dX3_rankOfRider_30 : decode cX3_rankOfRider 30 = .ok (.iload_n 2, 1) := by decide +kernel
theorem dX3_rankOfRider_31 : decode cX3_rankOfRider 31 = .ok (.ireturn, 1) := by decide +kernel
theorem dX3_isRiderAhead_0 : decode cX3_isRiderAhead 0 = .ok (.aload_n 0, 1) := by decide +kernel
theorem dX3_isRiderAhead_1 : decode cX3_isRiderAhead 1 = .ok (.iload_n 1, 1) := by decide +kernel
theorem dX3_isRiderAhead_2 : decode cX3_isRiderAhead 2 = .ok (.invokevirtual 240, 3) := by decide +kernel
theorem dX3_isRiderAhead_5 : decode cX3_isRiderAhead 5 = .ok (.aload_n 0, 1) := by decide +kernel
theorem dX3_isRiderAhead_6 : decode cX3_isRiderAhead 6 = .ok (.iload_n 2, 1) := by decide +kernel
theorem dX3_isRiderAhead_7 : decode cX3_isRiderAhead 7 = .ok (.invokevirtual 240, 3) := by decide +kernel
theorem dX3_isRiderAhead_10 : decode cX3_isRiderAhead 10 = .ok (.invokestatic 330, 3) := by decide +kernel
theorem dX3_isRiderAhead_13 : decode cX3_isRiderAhead 13 = .ok (.istore_n 3, 1) := by decide +kernel
theorem dX3_isRiderAhead_14 : decode cX3_isRiderAhead 14 = .ok (.iload_n 3, 1) := by decide +kernel
theorem dX3_isRiderAhead_15 : decode cX3_isRiderAhead 15 = .ok (.ifCond .eq 13, 3) := by decide +kernel
theorem dX3_isRiderAhead_18 : decode cX3_isRiderAhead 18 = .ok (.iload_n 3, 1) := by decide +kernel
theorem dX3_isRiderAhead_19 : decode cX3_isRiderAhead 19 = .ok (.ifCond .le 7, 3) := by decide +kernel
theorem dX3_isRiderAhead_22 : decode cX3_isRiderAhead 22 = .ok (.iconst 1, 1) := by decide +kernel
theorem dX3_isRiderAhead_23 : decode cX3_isRiderAhead 23 = .ok (.goto 4, 3) := by decide +kernel
theorem dX3_isRiderAhead_26 : decode cX3_isRiderAhead 26 = .ok (.iconst 0, 1) := by decide +kernel
theorem dX3_isRiderAhead_27 : decode cX3_isRiderAhead 27 = .ok (.ireturn, 1) := by decide +kernel
theorem dX3_isRiderAhead_28 : decode cX3_isRiderAhead 28 = .ok (.aload_n 0, 1) := by decide +kernel
theorem dX3_isRiderAhead_29 : decode cX3_isRiderAhead 29 = .ok (.iload_n 1, 1) := by decide +kernel
theorem dX3_isRiderAhead_30 : decode cX3_isRiderAhead 30 = .ok (.invokevirtual 333, 3) := by decide +kernel
theorem dX3_isRiderAhead_33 : decode cX3_isRiderAhead 33 = .ok (.aload_n 0, 1) := by decide +kernel
theorem dX3_isRiderAhead_34 : decode cX3_isRiderAhead 34 = .ok (.iload_n 2, 1) := by decide +kernel
theorem dX3_isRiderAhead_35 : decode cX3_isRiderAhead 35 = .ok (.invokevirtual 333, 3) := by decide +kernel
theorem dX3_isRiderAhead_38 : decode cX3_isRiderAhead 38 = .ok (.invokestatic 330, 3) := by decide +kernel
theorem dX3_isRiderAhead_41 : decode cX3_isRiderAhead 41 = .ok (.istore 4, 2) := by decide +kernel
theorem dX3_isRiderAhead_43 : decode cX3_isRiderAhead 43 = .ok (.iload 4, 2) := by decide +kernel
theorem dX3_isRiderAhead_45 : decode cX3_isRiderAhead 45 = .ok (.ifCond .eq 14, 3) := by decide +kernel
theorem dX3_isRiderAhead_48 : decode cX3_isRiderAhead 48 = .ok (.iload 4, 2) := by decide +kernel
theorem dX3_isRiderAhead_50 : decode cX3_isRiderAhead 50 = .ok (.ifCond .le 7, 3) := by decide +kernel
theorem dX3_isRiderAhead_53 : decode cX3_isRiderAhead 53 = .ok (.iconst 1, 1) := by decide +kernel
theorem dX3_isRiderAhead_54 : decode cX3_isRiderAhead 54 = .ok (.goto 4, 3) := by decide +kernel
theorem dX3_isRiderAhead_57 : decode cX3_isRiderAhead 57 = .ok (.iconst 0, 1) := by decide +kernel
theorem dX3_isRiderAhead_58 : decode cX3_isRiderAhead 58 = .ok (.ireturn, 1) := by decide +kernel
theorem dX3_isRiderAhead_59 : decode cX3_isRiderAhead 59 = .ok (.iload_n 1, 1) := by decide +kernel
theorem dX3_isRiderAhead_60 : decode cX3_isRiderAhead 60 = .ok (.iload_n 2, 1) := by decide +kernel
theorem dX3_isRiderAhead_61 : decode cX3_isRiderAhead 61 = .ok (.if_icmp .ge 7, 3) := by decide +kernel
theorem dX3_isRiderAhead_64 : decode cX3_isRiderAhead 64 = .ok (.iconst 1, 1) := by decide +kernel
theorem dX3_isRiderAhead_65 : decode cX3_isRiderAhead 65 = .ok (.goto 4, 3) := by decide +kernel
theorem dX3_isRiderAhead_68 : decode cX3_isRiderAhead 68 = .ok (.iconst 0, 1) := by decide +kernel
theorem dX3_isRiderAhead_69 : decode cX3_isRiderAhead 69 = .ok (.ireturn, 1) := by decide +kernel
