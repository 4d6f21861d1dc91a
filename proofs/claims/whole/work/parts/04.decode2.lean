theorem dX2_addHatch_1 : decode cX2_addHatch 1 = .ok (.getfield 34, 3) := by decide +kernel
theorem dX2_addHatch_4 : decode cX2_addHatch 4 = .ok (.istore 4, 2) := by decide +kernel
theorem dX2_addHatch_6 : decode cX2_addHatch 6 = .ok (.aload_n 0, 1) := by decide +kernel
theorem dX2_addHatch_7 : decode cX2_addHatch 7 = .ok (.getfield 9, 3) := by decide +kernel
theorem dX2_addHatch_10 : decode cX2_addHatch 10 = .ok (.iload 4, 2) := by decide +kernel
theorem dX2_addHatch_12 : decode cX2_addHatch 12 = .ok (.iload_n 1, 1) := by decide +kernel
theorem dX2_addHatch_13 : decode cX2_addHatch 13 = .ok (.iastore, 1) := by decide +kernel
theorem dX2_addHatch_14 : decode cX2_addHatch 14 = .ok (.aload_n 0, 1) := by decide +kernel
theorem dX2_addHatch_15 : decode cX2_addHatch 15 = .ok (.getfield 15, 3) := by decide +kernel
theorem dX2_addHatch_18 : decode cX2_addHatch 18 = .ok (.iload 4, 2) := by decide +kernel
theorem dX2_addHatch_20 : decode cX2_addHatch 20 = .ok (.iload_n 2, 1) := by decide +kernel
theorem dX2_addHatch_21 : decode cX2_addHatch 21 = .ok (.iastore, 1) := by decide +kernel
theorem dX2_addHatch_22 : decode cX2_addHatch 22 = .ok (.aload_n 0, 1) := by decide +kernel
theorem dX2_addHatch_23 : decode cX2_addHatch 23 = .ok (.getfield 18, 3) := by decide +kernel
theorem dX2_addHatch_26 : decode cX2_addHatch 26 = .ok (.iload 4, 2) := by decide +kernel
theorem dX2_addHatch_28 : decode cX2_addHatch 28 = .ok (.iload_n 3, 1) := by decide +kernel
theorem dX2_addHatch_29 : decode cX2_addHatch 29 = .ok (.iastore, 1) := by decide +kernel
theorem dX2_addHatch_30 : decode cX2_addHatch 30 = .ok (.aload_n 0, 1) := by decide +kernel
theorem dX2_addHatch_31 : decode cX2_addHatch 31 = .ok (.dup, 1) := by decide +kernel
theorem dX2_addHatch_32 : decode cX2_addHatch 32 = .ok (.getfield 34, 3) := by decide +kernel
theorem dX2_addHatch_35 : decode cX2_addHatch 35 = .ok (.iconst 1, 1) := by decide +kernel
theorem dX2_addHatch_36 : decode cX2_addHatch 36 = .ok (.iadd, 1) := by decide +kernel
theorem dX2_addHatch_37 : decode cX2_addHatch 37 = .ok (.putfield 34, 3) := by decide +kernel
theorem dX2_addHatch_40 : decode cX2_addHatch 40 = .ok (.iload 4, 2) := by decide +kernel
theorem dX2_addHatch_42 : decode cX2_addHatch 42 = .ok (.ireturn, 1) := by decide +kernel
theorem dX2_isLawless_0 : decode cX2_isLawless 0 = .ok (.aload_n 0, 1) := by decide +kernel
theorem dX2_isLawless_1 : decode cX2_isLawless 1 = .ok (.getfield 27, 3) := by decide +kernel
theorem dX2_isLawless_4 : decode cX2_isLawless 4 = .ok (.sipush 400, 3) := by decide +kernel
theorem dX2_isLawless_7 : decode cX2_isLawless 7 = .ok (.if_icmp .le 7, 3) := by decide +kernel
theorem dX2_isLawless_10 : decode cX2_isLawless 10 = .ok (.iconst 1, 1) := by decide +kernel
theorem dX2_isLawless_11 : decode cX2_isLawless 11 = .ok (.goto 4, 3) := by decide +kernel
theorem dX2_isLawless_14 : decode cX2_isLawless 14 = .ok (.iconst 0, 1) := by decide +kernel
theorem dX2_isLawless_15 : decode cX2_isLawless 15 = .ok (.ireturn, 1) := by decide +kernel
theorem dX2_isOutOfTurn_0 : decode cX2_isOutOfTurn 0 = .ok (.iload_n 2, 1) := by decide +kernel
theorem dX2_isOutOfTurn_1 : decode cX2_isOutOfTurn 1 = .ok (.bipush 24, 2) := by decide +kernel
theorem dX2_isOutOfTurn_3 : decode cX2_isOutOfTurn 3 = .ok (.idiv, 1) := by decide +kernel
theorem dX2_isOutOfTurn_4 : decode cX2_isOutOfTurn 4 = .ok (.iconst 4, 1) := by decide +kernel
theorem dX2_isOutOfTurn_5 : decode cX2_isOutOfTurn 5 = .ok (.irem, 1) := by decide +kernel
theorem dX2_isOutOfTurn_6 : decode cX2_isOutOfTurn 6 = .ok (.aload_n 0, 1) := by decide +kernel
theorem dX2_isOutOfTurn_7 : decode cX2_isOutOfTurn 7 = .ok (.getfield 9, 3) := by decide +kernel
theorem dX2_isOutOfTurn_10 : decode cX2_isOutOfTurn 10 = .ok (.iload_n 1, 1) := by decide +kernel
theorem dX2_isOutOfTurn_11 : decode cX2_isOutOfTurn 11 = .ok (.iaload, 1) := by decide +kernel
theorem dX2_isOutOfTurn_12 : decode cX2_isOutOfTurn 12 = .ok (.if_icmp .ne 7, 3) := by decide +kernel
theorem dX2_isOutOfTurn_15 : decode cX2_isOutOfTurn 15 = .ok (.iconst 1, 1) := by decide +kernel
theorem dX2_isOutOfTurn_16 : decode cX2_isOutOfTurn 16 = .ok (.goto 4, 3) := by decide +kernel
theorem dX2_isOutOfTurn_19 : decode cX2_isOutOfTurn 19 = .ok (.iconst 0, 1) := by decide +kernel
theorem dX2_isOutOfTurn_20 : decode cX2_isOutOfTurn 20 = .ok (.istore_n 3, 1) := by decide +kernel
theorem dX2_isOutOfTurn_21 : decode cX2_isOutOfTurn 21 = .ok (.iload_n 3, 1) := by decide +kernel
theorem dX2_isOutOfTurn_22 : decode cX2_isOutOfTurn 22 = .ok (.ifCond .ne 21, 3) := by decide +kernel
theorem dX2_isOutOfTurn_25 : decode cX2_isOutOfTurn 25 = .ok (.aload_n 0, 1) := by decide +kernel
theorem dX2_isOutOfTurn_26 : decode cX2_isOutOfTurn 26 = .ok (.getfield 31, 3) := by decide +kernel
theorem dX2_isOutOfTurn_29 : decode cX2_isOutOfTurn 29 = .ok (.ifCond .lt 14, 3) := by decide +kernel
theorem dX2_isOutOfTurn_32 : decode cX2_isOutOfTurn 32 = .ok (.aload_n 0, 1) := by decide +kernel
theorem dX2_isOutOfTurn_33 : decode cX2_isOutOfTurn 33 = .ok (.invokevirtual 41, 3) := by decide +kernel
theorem dX2_isOutOfTurn_36 : decode cX2_isOutOfTurn 36 = .ok (.ifCond .ne 7, 3) := by decide +kernel
theorem dX2_isOutOfTurn_39 : decode cX2_isOutOfTurn 39 = .ok (.iconst 1, 1) := by decide +kernel
theorem dX2_isOutOfTurn_40 : decode cX2_isOutOfTurn 40 = .ok (.goto 4, 3) := by decide +kernel
theorem dX2_isOutOfTurn_43 : decode cX2_isOutOfTurn 43 = .ok (.iconst 0, 1) := by decide +kernel
theorem dX2_isOutOfTurn_44 : decode cX2_isOutOfTurn 44 = .ok (.ireturn, 1) := by decide +kernel
theorem dX2_rightAt_0 : decode cX2_rightAt 0 = .ok (.iload_n 1, 1) := by decide +kernel
theorem dX2_rightAt_1 : decode cX2_rightAt 1 = .ok (.bipush 24, 2) := by decide +kernel
theorem dX2_rightAt_3 : decode cX2_rightAt 3 = .ok (.irem, 1) := by decide +kernel
theorem dX2_rightAt_4 : decode cX2_rightAt 4 = .ok (.istore_n 2, 1) := by decide +kernel
theorem dX2_rightAt_5 : decode cX2_rightAt 5 = .ok (.iload_n 2, 1) := by decide +kernel
theorem dX2_rightAt_6 : decode cX2_rightAt 6 = .ok (.aload_n 0, 1) := by decide +kernel
theorem dX2_rightAt_7 : decode cX2_rightAt 7 = .ok (.getfield 45, 3) := by decide +kernel
theorem dX2_rightAt_10 : decode cX2_rightAt 10 = .ok (.if_icmp .lt 22, 3) := by decide +kernel
theorem dX2_rightAt_13 : decode cX2_rightAt 13 = .ok (.iload_n 2, 1) := by decide +kernel
theorem dX2_rightAt_14 : decode cX2_rightAt 14 = .ok (.aload_n 0, 1) := by decide +kernel
theorem dX2_rightAt_15 : decode cX2_rightAt 15 = .ok (.getfield 48, 3) := by decide +kernel
theorem dX2_rightAt_18 : decode cX2_rightAt 18 = .ok (.if_icmp .ge 14, 3) := by decide +kernel
theorem dX2_rightAt_21 : decode cX2_rightAt 21 = .ok (.aload_n 0, 1) := by decide +kernel
theorem dX2_rightAt_22 : decode cX2_rightAt 22 = .ok (.invokevirtual 41, 3) := by decide +kernel
theorem dX2_rightAt_25 : decode cX2_rightAt 25 = .ok (.ifCond .ne 7, 3) := by decide +kernel
theorem dX2_rightAt_28 : decode cX2_rightAt 28 = .ok (.iconst 1, 1) := by decide +kernel
theorem dX2_rightAt_29 : decode cX2_rightAt 29 = .ok (.goto 4, 3) := by decide +kernel
theorem dX2_rightAt_32 : decode cX2_rightAt 32 = .ok (.iconst 0, 1) := by decide +kernel
theorem dX2_rightAt_33 : decode cX2_rightAt 33 = .ok (.istore_n 3, 1) := by decide +kernel
theorem dX2_rightAt_34 : decode cX2_rightAt 34 = .ok (.iload_n 3, 1) := by decide +kernel
theorem dX2_rightAt_35 : decode cX2_rightAt 35 = .ok (.ifCond .eq 10, 3) := by decide +kernel
theorem dX2_rightAt_38 : decode cX2_rightAt 38 = .ok (.aload_n 0, 1) := by decide +kernel
theorem dX2_rightAt_39 : decode cX2_rightAt 39 = .ok (.getfield 51, 3) := by decide +kernel
theorem dX2_rightAt_42 : decode cX2_rightAt 42 = .ok (.goto 4, 3) := by decide +kernel
theorem dX2_rightAt_45 : decode cX2_rightAt 45 = .ok (.iconst 0, 1) := by decide +kernel
theorem dX2_rightAt_46 : decode cX2_rightAt 46 = .ok (.ireturn, 1) := by decide +kernel
theorem dX2_isGrazing_0 : decode cX2_isGrazing 0 = .ok (.iload_n 1, 1) := by decide +kernel
theorem dX2_isGrazing_1 : decode cX2_isGrazing 1 = .ok (.bipush 24, 2) := by decide +kernel
theorem dX2_isGrazing_3 : decode cX2_isGrazing 3 = .ok (.irem, 1) := by decide +kernel
theorem dX2_isGrazing_4 : decode cX2_isGrazing 4 = .ok (.bipush 6, 2) := by decide +kernel
theorem dX2_isGrazing_6 : decode cX2_isGrazing 6 = .ok (.bipush 17, 2) := by decide +kernel
theorem dX2_isGrazing_8 : decode cX2_isGrazing 8 = .ok (.invokestatic 54, 3) := by decide +kernel
theorem dX2_isGrazing_11 : decode cX2_isGrazing 11 = .ok (.ireturn, 1) := by decide +kernel
theorem dX3_init_0 : decode cX3_init 0 = .ok (.aload_n 0, 1) := by decide +kernel
theorem dX3_init_1 : decode cX3_init 1 = .ok (.invokespecial 1, 3) := by decide +kernel
theorem dX3_init_4 : decode cX3_init 4 = .ok (.aload_n 0, 1) := by decide +kernel
theorem dX3_init_5 : decode cX3_init 5 = .ok (.new 7, 3) := by decide +kernel
theorem dX3_init_8 : decode cX3_init 8 = .ok (.dup, 1) := by decide +kernel
theorem dX3_init_9 : decode cX3_init 9 = .ok (.invokespecial 9, 3) := by decide +kernel
theorem dX3_init_12 : decode cX3_init 12 = .ok (.putfield 10, 3) := by decide +kernel
theorem dX3_init_15 : decode cX3_init 15 = .ok (.aload_n 0, 1) := by decide +kernel
theorem dX3_init_16 : decode cX3_init 16 = .ok (.new 16, 3) := by decide +kernel
theorem dX3_init_19 : decode cX3_init 19 = .ok (.dup, 1) := by decide +kernel
theorem dX3_init_20 : decode cX3_init 20 = .ok (.invokespecial 18, 3) := by decide +kernel
theorem dX3_init_23 : decode cX3_init 23 = .ok (.putfield 19, 3) := by decide +kernel
theorem dX3_init_26 : decode cX3_init 26 = .ok (.aload_n 0, 1) := by decide +kernel
theorem dX3_init_27 : decode cX3_init 27 = .ok (.new 23, 3) := by decide +kernel
theorem dX3_init_30 : decode cX3_init 30 = .ok (.dup, 1) := by decide +kernel
theorem dX3_init_31 : decode cX3_init 31 = .ok (.aload_n 0, 1) := by decide +kernel
theorem dX3_init_32 : decode cX3_init 32 = .ok (.getfield 10, 3) := by decide +kernel
theorem dX3_init_35 : decode cX3_init 35 = .ok (.iconst (-1), 1) := by decide +kernel
theorem dX3_init_36 : decode cX3_init 36 = .ok (.invokespecial 25, 3) := by decide +kernel
theorem dX3_init_39 : decode cX3_init 39 = .ok (.putfield 28, 3) := by decide +kernel
theorem dX3_init_42 : decode cX3_init 42 = .ok (.aload_n 0, 1) := by decide +kernel
theorem dX3_init_43 : decode cX3_init 43 = .ok (.bipush 6, 2) := by decide +kernel
theorem dX3_init_45 : decode cX3_init 45 = .ok (.anewarray 23, 3) := by decide +kernel
theorem dX3_init_48 : decode cX3_init 48 = .ok (.putfield 32, 3) := by decide +kernel
theorem dX3_init_51 : decode cX3_init 51 = .ok (.iconst 0, 1) := by decide +kernel
theorem dX3_init_52 : decode cX3_init 52 = .ok (.istore_n 1, 1) := by decide +kernel
theorem dX3_init_53 : decode cX3_init 53 = .ok (.iload_n 1, 1) := by decide +kernel
theorem dX3_init_54 : decode cX3_init 54 = .ok (.bipush 6, 2) := by decide +kernel
theorem dX3_init_56 : decode cX3_init 56 = .ok (.if_icmp .ge 27, 3) := by decide +kernel
theorem dX3_init_59 : decode cX3_init 59 = .ok (.aload_n 0, 1) := by decide +kernel
theorem dX3_init_60 : decode cX3_init 60 = .ok (.getfield 32, 3) := by decide +kernel
theorem dX3_init_63 : decode cX3_init 63 = .ok (.iload_n 1, 1) := by decide +kernel
theorem dX3_init_64 : decode cX3_init 64 = .ok (.new 23, 3) := by decide +kernel
theorem dX3_init_67 : decode cX3_init 67 = .ok (.dup, 1) := by decide +kernel
theorem dX3_init_68 : decode cX3_init 68 = .ok (.aload_n 0, 1) := by decide +kernel
theorem dX3_init_69 : decode cX3_init 69 = .ok (.getfield 10, 3) := by decide +kernel
theorem dX3_init_72 : decode cX3_init 72 = .ok (.iload_n 1, 1) := by decide +kernel
theorem dX3_init_73 : decode cX3_init 73 = .ok (.invokespecial 25, 3) := by decide +kernel
theorem dX3_init_76 : decode cX3_init 76 = .ok (.aastore, 1) := by decide +kernel
theorem dX3_init_77 : decode cX3_init 77 = .ok (.iinc 1 1, 3) := by decide +kernel
theorem dX3_init_80 : decode cX3_init 80 = .ok (.goto (-27), 3) := by decide +kernel
theorem dX3_init_83 : decode cX3_init 83 = .ok (.return_, 1) := by decide +kernel
theorem dX3_hatch_0 : decode cX3_hatch 0 = .ok (.iload_n 1, 1) := by decide +kernel
theorem dX3_hatch_1 : decode cX3_hatch 1 = .ok (.iconst 0, 1) := by decide +kernel
theorem dX3_hatch_2 : decode cX3_hatch 2 = .ok (.iconst 3, 1) := by decide +kernel
theorem dX3_hatch_3 : decode cX3_hatch 3 = .ok (.invokestatic 36, 3) := by decide +kernel
theorem dX3_hatch_6 : decode cX3_hatch 6 = .ok (.ifCond .eq 23, 3) := by decide +kernel
theorem dX3_hatch_9 : decode cX3_hatch 9 = .ok (.iload_n 2, 1) := by decide +kernel
theorem dX3_hatch_10 : decode cX3_hatch 10 = .ok (.iconst 1, 1) := by decide +kernel
theorem dX3_hatch_11 : decode cX3_hatch 11 = .ok (.sipush 200, 3) := by decide +kernel
theorem dX3_hatch_14 : decode cX3_hatch 14 = .ok (.invokestatic 36, 3) := by decide +kernel
theorem dX3_hatch_17 : decode cX3_hatch 17 = .ok (.ifCond .eq 12, 3) := by decide +kernel
theorem dX3_hatch_20 : decode cX3_hatch 20 = .ok (.iload_n 3, 1) := by decide +kernel
theorem dX3_hatch_21 : decode cX3_hatch 21 = .ok (.iconst 1, 1) := by decide +kernel
theorem dX3_hatch_22 : decode cX3_hatch 22 = .ok (.iconst 4, 1) := by decide +kernel
theorem dX3_hatch_23 : decode cX3_hatch 23 = .ok (.invokestatic 36, 3) := by decide +kernel
theorem dX3_hatch_26 : decode cX3_hatch 26 = .ok (.ifCond .ne 5, 3) := by decide +kernel
theorem dX3_hatch_29 : decode cX3_hatch 29 = .ok (.iconst (-1), 1) := by decide +kernel
theorem dX3_hatch_30 : decode cX3_hatch 30 = .ok (.ireturn, 1) := by decide +kernel
theorem dX3_hatch_31 : decode cX3_hatch 31 = .ok (.aload_n 0, 1) := by decide +kernel
theorem dX3_hatch_32 : decode cX3_hatch 32 = .ok (.getfield 10, 3) := by decide +kernel
theorem dX3_hatch_35 : decode cX3_hatch 35 = .ok (.getfield 40, 3) := by decide +kernel
theorem dX3_hatch_38 : decode cX3_hatch 38 = .ok (.bipush 6, 2) := by decide +kernel
theorem dX3_hatch_40 : decode cX3_hatch 40 = .ok (.if_icmp .ge 10, 3) := by decide +kernel
theorem dX3_hatch_43 : decode cX3_hatch 43 = .ok (.aload_n 0, 1) := by decide +kernel
theorem dX3_hatch_44 : decode cX3_hatch 44 = .ok (.invokevirtual 44, 3) := by decide +kernel
theorem dX3_hatch_47 : decode cX3_hatch 47 = .ok (.ifCond .eq 6, 3) := by decide +kernel
theorem dX3_hatch_50 : decode cX3_hatch 50 = .ok (.bipush (-3), 2) := by decide +kernel
theorem dX3_hatch_52 : decode cX3_hatch 52 = .ok (.ireturn, 1) := by decide +kernel
theorem dX3_hatch_53 : decode cX3_hatch 53 = .ok (.aload_n 0, 1) := by decide +kernel
theorem dX3_hatch_54 : decode cX3_hatch 54 = .ok (.dup, 1) := by decide +kernel
theorem dX3_hatch_55 : decode cX3_hatch 55 = .ok (.getfield 48, 3) := by decide +kernel
theorem dX3_hatch_58 : decode cX3_hatch 58 = .ok (.iconst 1, 1) := by decide +kernel
theorem dX3_hatch_59 : decode cX3_hatch 59 = .ok (.iadd, 1) := by decide +kernel
theorem dX3_hatch_60 : decode cX3_hatch 60 = .ok (.putfield 48, 3) := by decide +kernel
theorem dX3_hatch_63 : decode cX3_hatch 63 = .ok (.aload_n 0, 1) := by decide +kernel
theorem dX3_hatch_64 : decode cX3_hatch 64 = .ok (.getfield 10, 3) := by decide +kernel
theorem dX3_hatch_67 : decode cX3_hatch 67 = .ok (.iload_n 1, 1) := by decide +kernel
theorem dX3_hatch_68 : decode cX3_hatch 68 = .ok (.iload_n 2, 1) := by decide +kernel
theorem dX3_hatch_69 : decode cX3_hatch 69 = .ok (.iload_n 3, 1) := by decide +kernel
theorem dX3_hatch_70 : decode cX3_hatch 70 = .ok (.invokevirtual 51, 3) := by decide +kernel
theorem dX3_hatch_73 : decode cX3_hatch 73 = .ok (.ireturn, 1) := by decide +kernel
theorem dX3_open_0 : decode cX3_open 0 = .ok (.aload_n 0, 1) := by decide +kernel
theorem dX3_open_1 : decode cX3_open 1 = .ok (.getfield 10, 3) := by decide +kernel
theorem dX3_open_4 : decode cX3_open 4 = .ok (.iload_n 1, 1) := by decide +kernel
theorem dX3_open_5 : decode cX3_open 5 = .ok (.invokevirtual 55, 3) := by decide +kernel
theorem dX3_open_8 : decode cX3_open 8 = .ok (.ifCond .eq 12, 3) := by decide +kernel
theorem dX3_open_11 : decode cX3_open 11 = .ok (.iload_n 2, 1) := by decide +kernel
theorem dX3_open_12 : decode cX3_open 12 = .ok (.iconst 0, 1) := by decide +kernel
theorem dX3_open_13 : decode cX3_open 13 = .ok (.iconst 4, 1) := by decide +kernel
theorem dX3_open_14 : decode cX3_open 14 = .ok (.invokestatic 36, 3) := by decide +kernel
theorem dX3_open_17 : decode cX3_open 17 = .ok (.ifCond .ne 5, 3) := by decide +kernel
theorem dX3_open_20 : decode cX3_open 20 = .ok (.iconst (-1), 1) := by decide +kernel
theorem dX3_open_21 : decode cX3_open 21 = .ok (.ireturn, 1) := by decide +kernel
theorem dX3_open_22 : decode cX3_open 22 = .ok (.aload_n 0, 1) := by decide +kernel
theorem dX3_open_23 : decode cX3_open 23 = .ok (.invokevirtual 44, 3) := by decide +kernel
theorem dX3_open_26 : decode cX3_open 26 = .ok (.ifCond .eq 6, 3) := by decide +kernel
theorem dX3_open_29 : decode cX3_open 29 = .ok (.bipush (-3), 2) := by decide +kernel
theorem dX3_open_31 : decode cX3_open 31 = .ok (.ireturn, 1) := by decide +kernel
theorem dX3_open_32 : decode cX3_open 32 = .ok (.aload_n 0, 1) := by decide +kernel
theorem dX3_open_33 : decode cX3_open 33 = .ok (.dup, 1) := by decide +kernel
theorem dX3_open_34 : decode cX3_open 34 = .ok (.getfield 48, 3) := by decide +kernel
theorem dX3_open_37 : decode cX3_open 37 = .ok (.iconst 1, 1) := by decide +kernel
theorem dX3_open_38 : decode cX3_open 38 = .ok (.iadd, 1) := by decide +kernel
theorem dX3_open_39 : decode cX3_open 39 = .ok (.putfield 48, 3) := by decide +kernel
theorem dX3_open_42 : decode cX3_open 42 = .ok (.aload_n 0, 1) := by decide +kernel
theorem dX3_open_43 : decode cX3_open 43 = .ok (.getfield 10, 3) := by decide +kernel
theorem dX3_open_46 : decode cX3_open 46 = .ok (.getfield 59, 3) := by decide +kernel
theorem dX3_open_49 : decode cX3_open 49 = .ok (.iload_n 1, 1) := by decide +kernel
theorem dX3_open_50 : decode cX3_open 50 = .ok (.iaload, 1) := by decide +kernel
theorem dX3_open_51 : decode cX3_open 51 = .ok (.istore_n 3, 1) := by decide +kernel
theorem dX3_open_52 : decode cX3_open 52 = .ok (.aload_n 0, 1) := by decide +kernel
theorem dX3_open_53 : decode cX3_open 53 = .ok (.getfield 10, 3) := by decide +kernel
theorem dX3_open_56 : decode cX3_open 56 = .ok (.getfield 59, 3) := by decide +kernel
theorem dX3_open_59 : decode cX3_open 59 = .ok (.iload_n 1, 1) := by decide +kernel
theorem dX3_open_60 : decode cX3_open 60 = .ok (.iload_n 2, 1) := by decide +kernel
theorem dX3_open_61 : decode cX3_open 61 = .ok (.iastore, 1) := by decide +kernel
theorem dX3_open_62 : decode cX3_open 62 = .ok (.iload_n 3, 1) := by decide +kernel
theorem dX3_open_63 : decode cX3_open 63 = .ok (.ireturn, 1) := by decide +kernel
theorem dX3_flow_0 : decode cX3_flow 0 = .ok (.iload_n 1, 1) := by decide +kernel
theorem dX3_flow_1 : decode cX3_flow 1 = .ok (.iconst 0, 1) := by decide +kernel
theorem dX3_flow_2 : decode cX3_flow 2 = .ok (.sipush 1000, 3) := by decide +kernel
theorem dX3_flow_5 : decode cX3_flow 5 = .ok (.invokestatic 36, 3) := by decide +kernel
theorem dX3_flow_8 : decode cX3_flow 8 = .ok (.ifCond .ne 5, 3) := by decide +kernel
theorem dX3_flow_11 : decode cX3_flow 11 = .ok (.iconst (-1), 1) := by decide +kernel
theorem dX3_flow_12 : decode cX3_flow 12 = .ok (.ireturn, 1) := by decide +kernel
theorem dX3_flow_13 : decode cX3_flow 13 = .ok (.aload_n 0, 1) := by decide +kernel
theorem dX3_flow_14 : decode cX3_flow 14 = .ok (.invokevirtual 44, 3) := by decide +kernel
theorem dX3_flow_17 : decode cX3_flow 17 = .ok (.ifCond .eq 6, 3) := by decide +kernel
theorem dX3_flow_20 : decode cX3_flow 20 = .ok (.bipush (-3), 2) := by decide +kernel
theorem dX3_flow_22 : decode cX3_flow 22 = .ok (.ireturn, 1) := by decide +kernel
theorem dX3_flow_23 : decode cX3_flow 23 = .ok (.aload_n 0, 1) := by decide +kernel
theorem dX3_flow_24 : decode cX3_flow 24 = .ok (.dup, 1) := by decide +kernel
theorem dX3_flow_25 : decode cX3_flow 25 = .ok (.getfield 48, 3) := by decide +kernel
theorem dX3_flow_28 : decode cX3_flow 28 = .ok (.iconst 1, 1) := by decide +kernel
theorem dX3_flow_29 : decode cX3_flow 29 = .ok (.iadd, 1) := by decide +kernel
theorem dX3_flow_30 : decode cX3_flow 30 = .ok (.putfield 48, 3) := by decide +kernel
theorem dX3_flow_33 : decode cX3_flow 33 = .ok (.aload_n 0, 1) := by decide +kernel
theorem dX3_flow_34 : decode cX3_flow 34 = .ok (.getfield 10, 3) := by decide +kernel
theorem dX3_flow_37 : decode cX3_flow 37 = .ok (.getfield 63, 3) := by decide +kernel
theorem dX3_flow_40 : decode cX3_flow 40 = .ok (.istore_n 2, 1) := by decide +kernel
theorem dX3_flow_41 : decode cX3_flow 41 = .ok (.aload_n 0, 1) := by decide +kernel
theorem dX3_flow_42 : decode cX3_flow 42 = .ok (.getfield 10, 3) := by decide +kernel
theorem dX3_flow_45 : decode cX3_flow 45 = .ok (.iload_n 1, 1) := by decide +kernel
theorem dX3_flow_46 : decode cX3_flow 46 = .ok (.putfield 63, 3) := by decide +kernel
theorem dX3_flow_49 : decode cX3_flow 49 = .ok (.iload_n 2, 1) := by decide +kernel
theorem dX3_flow_50 : decode cX3_flow 50 = .ok (.ireturn, 1) := by decide +kernel
theorem dX3_air_0 : decode cX3_air 0 = .ok (.iload_n 1, 1) := by decide +kernel
theorem dX3_air_1 : decode cX3_air 1 = .ok (.bipush (-20), 2) := by decide +kernel
theorem dX3_air_3 : decode cX3_air 3 = .ok (.bipush 30, 2) := by decide +kernel
theorem dX3_air_5 : decode cX3_air 5 = .ok (.invokestatic 36, 3) := by decide +kernel
theorem dX3_air_8 : decode cX3_air 8 = .ok (.ifCond .ne 6, 3) := by decide +kernel
theorem dX3_air_11 : decode cX3_air 11 = .ok (.bipush (-100), 2) := by decide +kernel
theorem dX3_air_13 : decode cX3_air 13 = .ok (.ireturn, 1) := by decide +kernel
theorem dX3_air_14 : decode cX3_air 14 = .ok (.aload_n 0, 1) := by decide +kernel
theorem dX3_air_15 : decode cX3_air 15 = .ok (.invokevirtual 44, 3) := by decide +kernel
theorem dX3_air_18 : decode cX3_air 18 = .ok (.ifCond .eq 6, 3) := by decide +kernel
theorem dX3_air_21 : decode cX3_air 21 = .ok (.bipush (-101), 2) := by decide +kernel
theorem dX3_air_23 : decode cX3_air 23 = .ok (.ireturn, 1) := by decide +kernel
theorem dX3_air_24 : decode cX3_air 24 = .ok (.aload_n 0, 1) := by decide +kernel
theorem dX3_air_25 : decode cX3_air 25 = .ok (.dup, 1) := by decide +kernel
theorem dX3_air_26 : decode cX3_air 26 = .ok (.getfield 48, 3) := by decide +kernel
theorem dX3_air_29 : decode cX3_air 29 = .ok (.iconst 1, 1) := by decide +kernel
theorem dX3_air_30 : decode cX3_air 30 = .ok (.iadd, 1) := by decide +kernel
theorem dX3_air_31 : decode cX3_air 31 = .ok (.putfield 48, 3) := by decide +kernel
theorem dX3_air_34 : decode cX3_air 34 = .ok (.aload_n 0, 1) := by decide +kernel
theorem dX3_air_35 : decode cX3_air 35 = .ok (.getfield 10, 3) := by decide +kernel
theorem dX3_air_38 : decode cX3_air 38 = .ok (.getfield 66, 3) := by decide +kernel
theorem dX3_air_41 : decode cX3_air 41 = .ok (.istore_n 2, 1) := by decide +kernel
theorem dX3_air_42 : decode cX3_air 42 = .ok (.aload_n 0, 1) := by decide +kernel
theorem dX3_air_43 : decode cX3_air 43 = .ok (.getfield 10, 3) := by decide +kernel
theorem dX3_air_46 : decode cX3_air 46 = .ok (.iload_n 1, 1) := by decide +kernel
theorem dX3_air_47 : decode cX3_air 47 = .ok (.putfield 66, 3) := by decide +kernel
theorem dX3_air_50 : decode cX3_air 50 = .ok (.iload_n 2, 1) := by decide +kernel
theorem dX3_air_51 : decode cX3_air 51 = .ok (.ireturn, 1) := by decide +kernel
theorem dX3_dig_0 : decode cX3_dig 0 = .ok (.aload_n 0, 1) := by decide +kernel
theorem dX3_dig_1 : decode cX3_dig 1 = .ok (.getfield 10, 3) := by decide +kernel
theorem dX3_dig_4 : decode cX3_dig 4 = .ok (.iload_n 1, 1) := by decide +kernel
theorem dX3_dig_5 : decode cX3_dig 5 = .ok (.invokevirtual 55, 3) := by decide +kernel
theorem dX3_dig_8 : decode cX3_dig 8 = .ok (.ifCond .ne 5, 3) := by decide +kernel
theorem dX3_dig_11 : decode cX3_dig 11 = .ok (.iconst (-1), 1) := by decide +kernel
theorem dX3_dig_12 : decode cX3_dig 12 = .ok (.ireturn, 1) := by decide +kernel
theorem dX3_dig_13 : decode cX3_dig 13 = .ok (.aload_n 0, 1) := by decide +kernel
theorem dX3_dig_14 : decode cX3_dig 14 = .ok (.invokevirtual 44, 3) := by decide +kernel
theorem dX3_dig_17 : decode cX3_dig 17 = .ok (.ifCond .eq 6, 3) := by decide +kernel
theorem dX3_dig_20 : decode cX3_dig 20 = .ok (.bipush (-3), 2) := by decide +kernel
theorem dX3_dig_22 : decode cX3_dig 22 = .ok (.ireturn, 1) := by decide +kernel
theorem dX3_dig_23 : decode cX3_dig 23 = .ok (.aload_n 0, 1) := by decide +kernel
theorem dX3_dig_24 : decode cX3_dig 24 = .ok (.dup, 1) := by decide +kernel
theorem dX3_dig_25 : decode cX3_dig 25 = .ok (.getfield 48, 3) := by decide +kernel
theorem dX3_dig_28 : decode cX3_dig 28 = .ok (.iconst 1, 1) := by decide +kernel
theorem dX3_dig_29 : decode cX3_dig 29 = .ok (.iadd, 1) := by decide +kernel
theorem dX3_dig_30 : decode cX3_dig 30 = .ok (.putfield 48, 3) := by decide +kernel
theorem dX3_dig_33 : decode cX3_dig 33 = .ok (.aload_n 0, 1) := by decide +kernel
theorem dX3_dig_34 : decode cX3_dig 34 = .ok (.getfield 28, 3) := by decide +kernel
theorem dX3_dig_37 : decode cX3_dig 37 = .ok (.iload_n 1, 1) := by decide +kernel
theorem dX3_dig_38 : decode cX3_dig 38 = .ok (.invokevirtual 69, 3) := by decide +kernel
theorem dX3_dig_41 : decode cX3_dig 41 = .ok (.istore_n 2, 1) := by decide +kernel
theorem dX3_dig_42 : decode cX3_dig 42 = .ok (.aload_n 0, 1) := by decide +kernel
theorem dX3_dig_43 : decode cX3_dig 43 = .ok (.getfield 28, 3) := by decide +kernel
theorem dX3_dig_46 : decode cX3_dig 46 = .ok (.getfield 73, 3) := by decide +kernel
theorem dX3_dig_49 : decode cX3_dig 49 = .ok (.iload_n 1, 1) := by decide +kernel
theorem dX3_dig_50 : decode cX3_dig 50 = .ok (.iconst 0, 1) := by decide +kernel
theorem dX3_dig_51 : decode cX3_dig 51 = .ok (.iastore, 1) := by decide +kernel
theorem dX3_dig_52 : decode cX3_dig 52 = .ok (.iconst 0, 1) := by decide +kernel
theorem dX3_dig_53 : decode cX3_dig 53 = .ok (.istore_n 3, 1) := by decide +kernel
theorem dX3_dig_54 : decode cX3_dig 54 = .ok (.iload_n 3, 1) := by decide +kernel
theorem dX3_dig_55 : decode cX3_dig 55 = .ok (.bipush 6, 2) := by decide +kernel
theorem dX3_dig_57 : decode cX3_dig 57 = .ok (.if_icmp .ge 21, 3) := by decide +kernel
theorem dX3_dig_60 : decode cX3_dig 60 = .ok (.aload_n 0, 1) := by decide +kernel
theorem dX3_dig_61 : decode cX3_dig 61 = .ok (.getfield 32, 3) := by decide +kernel
theorem dX3_dig_64 : decode cX3_dig 64 = .ok (.iload_n 3, 1) := by decide +kernel
theorem dX3_dig_65 : decode cX3_dig 65 = .ok (.aaload, 1) := by decide +kernel
theorem dX3_dig_66 : decode cX3_dig 66 = .ok (.getfield 73, 3) := by decide +kernel
theorem dX3_dig_69 : decode cX3_dig 69 = .ok (.iload_n 1, 1) := by decide +kernel
theorem dX3_dig_70 : decode cX3_dig 70 = .ok (.iconst 0, 1) := by decide +kernel
theorem dX3_dig_71 : decode cX3_dig 71 = .ok (.iastore, 1) := by decide +kernel
theorem dX3_dig_72 : decode cX3_dig 72 = .ok (.iinc 3 1, 3) := by decide +kernel
theorem dX3_dig_75 : decode cX3_dig 75 = .ok (.goto (-21), 3) := by decide +kernel
theorem dX3_dig_78 : decode cX3_dig 78 = .ok (.iload_n 2, 1) := by decide +kernel
theorem dX3_dig_79 : decode cX3_dig 79 = .ok (.ireturn, 1) := by decide +kernel
theorem dX3_sheep_0 : decode cX3_sheep 0 = .ok (.aload_n 0, 1) := by decide +kernel
theorem dX3_sheep_1 : decode cX3_sheep 1 = .ok (.getfield 10, 3) := by decide +kernel
theorem dX3_sheep_4 : decode cX3_sheep 4 = .ok (.iload_n 1, 1) := by decide +kernel
theorem dX3_sheep_5 : decode cX3_sheep 5 = .ok (.iload_n 2, 1) := by decide +kernel
theorem dX3_sheep_6 : decode cX3_sheep 6 = .ok (.invokevirtual 76, 3) := by decide +kernel
theorem dX3_sheep_9 : decode cX3_sheep 9 = .ok (.ifCond .eq 13, 3) := by decide +kernel
theorem dX3_sheep_12 : decode cX3_sheep 12 = .ok (.iload_n 3, 1) := by decide +kernel
theorem dX3_sheep_13 : decode cX3_sheep 13 = .ok (.iconst 0, 1) := by decide +kernel
theorem dX3_sheep_14 : decode cX3_sheep 14 = .ok (.bipush 50, 2) := by decide +kernel
theorem dX3_sheep_16 : decode cX3_sheep 16 = .ok (.invokestatic 36, 3) := by decide +kernel
theorem dX3_sheep_19 : decode cX3_sheep 19 = .ok (.ifCond .ne 5, 3) := by decide +kernel
theorem dX3_sheep_22 : decode cX3_sheep 22 = .ok (.iconst (-1), 1) := by decide +kernel
theorem dX3_sheep_23 : decode cX3_sheep 23 = .ok (.ireturn, 1) := by decide +kernel
theorem dX3_sheep_24 : decode cX3_sheep 24 = .ok (.aload_n 0, 1) := by decide +kernel
theorem dX3_sheep_25 : decode cX3_sheep 25 = .ok (.invokevirtual 44, 3) := by decide +kernel
theorem dX3_sheep_28 : decode cX3_sheep 28 = .ok (.ifCond .eq 6, 3) := by decide +kernel
theorem dX3_sheep_31 : decode cX3_sheep 31 = .ok (.bipush (-3), 2) := by decide +kernel
theorem dX3_sheep_33 : decode cX3_sheep 33 = .ok (.ireturn, 1) := by decide +kernel
theorem dX3_sheep_34 : decode cX3_sheep 34 = .ok (.aload_n 0, 1) := by decide +kernel
theorem dX3_sheep_35 : decode cX3_sheep 35 = .ok (.dup, 1) := by decide +kernel
theorem dX3_sheep_36 : decode cX3_sheep 36 = .ok (.getfield 48, 3) := by decide +kernel
theorem dX3_sheep_39 : decode cX3_sheep 39 = .ok (.iconst 1, 1) := by decide +kernel
theorem dX3_sheep_40 : decode cX3_sheep 40 = .ok (.iadd, 1) := by decide +kernel
theorem dX3_sheep_41 : decode cX3_sheep 41 = .ok (.putfield 48, 3) := by decide +kernel
theorem dX3_sheep_44 : decode cX3_sheep 44 = .ok (.iload_n 1, 1) := by decide +kernel
theorem dX3_sheep_45 : decode cX3_sheep 45 = .ok (.iload_n 2, 1) := by decide +kernel
theorem dX3_sheep_46 : decode cX3_sheep 46 = .ok (.invokestatic 80, 3) := by decide +kernel
theorem dX3_sheep_49 : decode cX3_sheep 49 = .ok (.istore 4, 2) := by decide +kernel
theorem dX3_sheep_51 : decode cX3_sheep 51 = .ok (.aload_n 0, 1) := by decide +kernel
theorem dX3_sheep_52 : decode cX3_sheep 52 = .ok (.getfield 10, 3) := by decide +kernel
theorem dX3_sheep_55 : decode cX3_sheep 55 = .ok (.getfield 84, 3) := by decide +kernel
theorem dX3_sheep_58 : decode cX3_sheep 58 = .ok (.iload 4, 2) := by decide +kernel
theorem dX3_sheep_60 : decode cX3_sheep 60 = .ok (.iaload, 1) := by decide +kernel
theorem dX3_sheep_61 : decode cX3_sheep 61 = .ok (.istore 5, 2) := by decide +kernel
theorem dX3_sheep_63 : decode cX3_sheep 63 = .ok (.aload_n 0, 1) := by decide +kernel
theorem dX3_sheep_64 : decode cX3_sheep 64 = .ok (.getfield 10, 3) := by decide +kernel
theorem dX3_sheep_67 : decode cX3_sheep 67 = .ok (.getfield 84, 3) := by decide +kernel
theorem dX3_sheep_70 : decode cX3_sheep 70 = .ok (.iload 4, 2) := by decide +kernel
theorem dX3_sheep_72 : decode cX3_sheep 72 = .ok (.iload_n 3, 1) := by decide +kernel
theorem dX3_sheep_73 : decode cX3_sheep 73 = .ok (.iastore, 1) := by decide +kernel
theorem dX3_sheep_74 : decode cX3_sheep 74 = .ok (.iload 5, 2) := by decide +kernel
theorem dX3_sheep_76 : decode cX3_sheep 76 = .ok (.ireturn, 1) := by decide +kernel
theorem dX3_right_0 : decode cX3_right 0 = .ok (.iload_n 1, 1) := by decide +kernel
theorem dX3_right_1 : decode cX3_right 1 = .ok (.iconst 0, 1) := by decide +kernel
theorem dX3_right_2 : decode cX3_right 2 = .ok (.sipush 1000, 3) := by decide +kernel
theorem dX3_right_5 : decode cX3_right 5 = .ok (.invokestatic 36, 3) := by decide +kernel
theorem dX3_right_8 : decode cX3_right 8 = .ok (.ifCond .eq 28, 3) := by decide +kernel
theorem dX3_right_11 : decode cX3_right 11 = .ok (.iload_n 2, 1) := by decide +kernel
theorem dX3_right_12 : decode cX3_right 12 = .ok (.iconst 0, 1) := by decide +kernel
theorem dX3_right_13 : decode cX3_right 13 = .ok (.bipush 24, 2) := by decide +kernel
theorem dX3_right_15 : decode cX3_right 15 = .ok (.invokestatic 36, 3) := by decide +kernel
theorem dX3_right_18 : decode cX3_right 18 = .ok (.ifCond .eq 18, 3) := by decide +kernel
theorem dX3_right_21 : decode cX3_right 21 = .ok (.iload_n 3, 1) := by decide +kernel
theorem dX3_right_22 : decode cX3_right 22 = .ok (.iconst 0, 1) := by decide +kernel
theorem dX3_right_23 : decode cX3_right 23 = .ok (.bipush 24, 2) := by decide +kernel
theorem dX3_right_25 : decode cX3_right 25 = .ok (.invokestatic 36, 3) := by decide +kernel
theorem dX3_right_28 : decode cX3_right 28 = .ok (.ifCond .eq 8, 3) := by decide +kernel
theorem dX3_right_31 : decode cX3_right 31 = .ok (.iload_n 2, 1) := by decide +kernel
theorem dX3_right_32 : decode cX3_right 32 = .ok (.iload_n 3, 1) := by decide +kernel
theorem dX3_right_33 : decode cX3_right 33 = .ok (.if_icmp .lt 5, 3) := by decide +kernel
theorem dX3_right_36 : decode cX3_right 36 = .ok (.iconst (-1), 1) := by decide +kernel
theorem dX3_right_37 : decode cX3_right 37 = .ok (.ireturn, 1) := by decide +kernel
theorem dX3_right_38 : decode cX3_right 38 = .ok (.aload_n 0, 1) := by decide +kernel
theorem dX3_right_39 : decode cX3_right 39 = .ok (.invokevirtual 44, 3) := by decide +kernel
theorem dX3_right_42 : decode cX3_right 42 = .ok (.ifCond .eq 6, 3) := by decide +kernel
theorem dX3_right_45 : decode cX3_right 45 = .ok (.bipush (-3), 2) := by decide +kernel
theorem dX3_right_47 : decode cX3_right 47 = .ok (.ireturn, 1) := by decide +kernel
theorem dX3_right_48 : decode cX3_right 48 = .ok (.aload_n 0, 1) := by decide +kernel
theorem dX3_right_49 : decode cX3_right 49 = .ok (.dup, 1) := by decide +kernel
theorem dX3_right_50 : decode cX3_right 50 = .ok (.getfield 48, 3) := by decide +kernel
theorem dX3_right_53 : decode cX3_right 53 = .ok (.iconst 1, 1) := by decide +kernel
theorem dX3_right_54 : decode cX3_right 54 = .ok (.iadd, 1) := by decide +kernel
theorem dX3_right_55 : decode cX3_right 55 = .ok (.putfield 48, 3) := by decide +kernel
theorem dX3_right_58 : decode cX3_right 58 = .ok (.aload_n 0, 1) := by decide +kernel
theorem dX3_right_59 : decode cX3_right 59 = .ok (.getfield 10, 3) := by decide +kernel
theorem dX3_right_62 : decode cX3_right 62 = .ok (.getfield 87, 3) := by decide +kernel
theorem dX3_right_65 : decode cX3_right 65 = .ok (.istore 4, 2) := by decide +kernel
theorem dX3_right_67 : decode cX3_right 67 = .ok (.aload_n 0, 1) := by decide +kernel
theorem dX3_right_68 : decode cX3_right 68 = .ok (.getfield 10, 3) := by decide +kernel
theorem dX3_right_71 : decode cX3_right 71 = .ok (.iload_n 1, 1) := by decide +kernel
theorem dX3_right_72 : decode cX3_right 72 = .ok (.putfield 87, 3) := by decide +kernel
theorem dX3_right_75 : decode cX3_right 75 = .ok (.aload_n 0, 1) := by decide +kernel
theorem dX3_right_76 : decode cX3_right 76 = .ok (.getfield 10, 3) := by decide +kernel
theorem dX3_right_79 : decode cX3_right 79 = .ok (.iload_n 2, 1) := by decide +kernel
theorem dX3_right_80 : decode cX3_right 80 = .ok (.putfield 90, 3) := by decide +kernel
theorem dX3_right_83 : decode cX3_right 83 = .ok (.aload_n 0, 1) := by decide +kernel
theorem dX3_right_84 : decode cX3_right 84 = .ok (.getfield 10, 3) := by decide +kernel
theorem dX3_right_87 : decode cX3_right 87 = .ok (.iload_n 3, 1) := by decide +kernel
theorem dX3_right_88 : decode cX3_right 88 = .ok (.putfield 93, 3) := by decide +kernel
theorem dX3_right_91 : decode cX3_right 91 = .ok (.iload 4, 2) := by decide +kernel
theorem dX3_right_93 : decode cX3_right 93 = .ok (.ireturn, 1) := by decide +kernel
theorem dX3_hours_0 : decode cX3_hours 0 = .ok (.iload_n 1, 1) := by decide +kernel
theorem dX3_hours_1 : decode cX3_hours 1 = .ok (.iconst 1, 1) := by decide +kernel
theorem dX3_hours_2 : decode cX3_hours 2 = .ok (.sipush 200, 3) := by decide +kernel
theorem dX3_hours_5 : decode cX3_hours 5 = .ok (.invokestatic 36, 3) := by decide +kernel
theorem dX3_hours_8 : decode cX3_hours 8 = .ok (.ifCond .ne 5, 3) := by decide +kernel
theorem dX3_hours_11 : decode cX3_hours 11 = .ok (.iconst (-1), 1) := by decide +kernel
theorem dX3_hours_12 : decode cX3_hours 12 = .ok (.ireturn, 1) := by decide +kernel
theorem dX3_hours_13 : decode cX3_hours 13 = .ok (.aload_n 0, 1) := by decide +kernel
theorem dX3_hours_14 : decode cX3_hours 14 = .ok (.getfield 96, 3) := by decide +kernel
theorem dX3_hours_17 : decode cX3_hours 17 = .ok (.iload_n 1, 1) := by decide +kernel
theorem dX3_hours_18 : decode cX3_hours 18 = .ok (.iadd, 1) := by decide +kernel
theorem dX3_hours_19 : decode cX3_hours 19 = .ok (.sipush 2400, 3) := by decide +kernel
theorem dX3_hours_22 : decode cX3_hours 22 = .ok (.if_icmp .le 6, 3) := by decide +kernel
theorem dX3_hours_25 : decode cX3_hours 25 = .ok (.bipush (-3), 2) := by decide +kernel
theorem dX3_hours_27 : decode cX3_hours 27 = .ok (.ireturn, 1) := by decide +kernel
theorem dX3_hours_28 : decode cX3_hours 28 = .ok (.iconst 0, 1) := by decide +kernel
theorem dX3_hours_29 : decode cX3_hours 29 = .ok (.istore_n 2, 1) := by decide +kernel
theorem dX3_hours_30 : decode cX3_hours 30 = .ok (.iload_n 2, 1) := by decide +kernel
theorem dX3_hours_31 : decode cX3_hours 31 = .ok (.iload_n 1, 1) := by decide +kernel
theorem dX3_hours_32 : decode cX3_hours 32 = .ok (.if_icmp .ge 13, 3) := by decide +kernel
theorem dX3_hours_35 : decode cX3_hours 35 = .ok (.aload_n 0, 1) := by decide +kernel
theorem dX3_hours_36 : decode cX3_hours 36 = .ok (.invokevirtual 99, 3) := by decide +kernel
theorem dX3_hours_39 : decode cX3_hours 39 = .ok (.iinc 2 1, 3) := by decide +kernel
theorem dX3_hours_42 : decode cX3_hours 42 = .ok (.goto (-12), 3) := by decide +kernel
theorem dX3_hours_45 : decode cX3_hours 45 = .ok (.aload_n 0, 1) := by decide +kernel
theorem dX3_hours_46 : decode cX3_hours 46 = .ok (.getfield 96, 3) := by decide +kernel
theorem dX3_hours_49 : decode cX3_hours 49 = .ok (.ireturn, 1) := by decide +kernel
theorem dX3_told_0 : decode cX3_told 0 = .ok (.aload_n 0, 1) := by decide +kernel
theorem dX3_told_1 : decode cX3_told 1 = .ok (.getfield 10, 3) := by decide +kernel
theorem dX3_told_4 : decode cX3_told 4 = .ok (.iload_n 1, 1) := by decide +kernel
theorem dX3_told_5 : decode cX3_told 5 = .ok (.invokevirtual 55, 3) := by decide +kernel
theorem dX3_told_8 : decode cX3_told 8 = .ok (.ifCond .ne 5, 3) := by decide +kernel
theorem dX3_told_11 : decode cX3_told 11 = .ok (.iconst (-1), 1) := by decide +kernel
theorem dX3_told_12 : decode cX3_told 12 = .ok (.ireturn, 1) := by decide +kernel
theorem dX3_told_13 : decode cX3_told 13 = .ok (.iload_n 2, 1) := by decide +kernel
theorem dX3_told_14 : decode cX3_told 14 = .ok (.tableswitch 124 0 7 #[46, 56, 66, 76, 86, 95, 105, 114], 46) := by decide +kernel
theorem dX3_told_60 : decode cX3_told 60 = .ok (.aload_n 0, 1) := by decide +kernel
theorem dX3_told_61 : decode cX3_told 61 = .ok (.getfield 10, 3) := by decide +kernel
theorem dX3_told_64 : decode cX3_told 64 = .ok (.getfield 102, 3) := by decide +kernel
theorem dX3_told_67 : decode cX3_told 67 = .ok (.iload_n 1, 1) := by decide +kernel
theorem dX3_told_68 : decode cX3_told 68 = .ok (.iaload, 1) := by decide +kernel
theorem dX3_told_69 : decode cX3_told 69 = .ok (.ireturn, 1) := by decide +kernel
theorem dX3_told_70 : decode cX3_told 70 = .ok (.aload_n 0, 1) := by decide +kernel
theorem dX3_told_71 : decode cX3_told 71 = .ok (.getfield 10, 3) := by decide +kernel
theorem dX3_told_74 : decode cX3_told 74 = .ok (.getfield 105, 3) := by decide +kernel
theorem dX3_told_77 : decode cX3_told 77 = .ok (.iload_n 1, 1) := by decide +kernel
theorem dX3_told_78 : decode cX3_told 78 = .ok (.iaload, 1) := by decide +kernel
theorem dX3_told_79 : decode cX3_told 79 = .ok (.ireturn, 1) := by decide +kernel
theorem dX3_told_80 : decode cX3_told 80 = .ok (.aload_n 0, 1) := by decide +kernel
theorem dX3_told_81 : decode cX3_told 81 = .ok (.getfield 10, 3) := by decide +kernel
theorem dX3_told_84 : decode cX3_told 84 = .ok (.getfield 108, 3) := by decide +kernel
theorem dX3_told_87 : decode cX3_told 87 = .ok (.iload_n 1, 1) := by decide +kernel
theorem dX3_told_88 : decode cX3_told 88 = .ok (.iaload, 1) := by decide +kernel
theorem dX3_told_89 : decode cX3_told 89 = .ok (.ireturn, 1) := by decide +kernel
theorem dX3_told_90 : decode cX3_told 90 = .ok (.aload_n 0, 1) := by decide +kernel
theorem dX3_told_91 : decode cX3_told 91 = .ok (.getfield 10, 3) := by decide +kernel
theorem dX3_told_94 : decode cX3_told 94 = .ok (.getfield 59, 3) := by decide +kernel
theorem dX3_told_97 : decode cX3_told 97 = .ok (.iload_n 1, 1) := by decide +kernel
theorem dX3_told_98 : decode cX3_told 98 = .ok (.iaload, 1) := by decide +kernel
theorem dX3_told_99 : decode cX3_told 99 = .ok (.ireturn, 1) := by decide +kernel
theorem dX3_told_100 : decode cX3_told 100 = .ok (.aload_n 0, 1) := by decide +kernel
theorem dX3_told_101 : decode cX3_told 101 = .ok (.getfield 28, 3) := by decide +kernel
theorem dX3_told_104 : decode cX3_told 104 = .ok (.iload_n 1, 1) := by decide +kernel
theorem dX3_told_105 : decode cX3_told 105 = .ok (.invokevirtual 69, 3) := by decide +kernel
theorem dX3_told_108 : decode cX3_told 108 = .ok (.ireturn, 1) := by decide +kernel
theorem dX3_told_109 : decode cX3_told 109 = .ok (.aload_n 0, 1) := by decide +kernel
theorem dX3_told_110 : decode cX3_told 110 = .ok (.getfield 28, 3) := by decide +kernel
theorem dX3_told_113 : decode cX3_told 113 = .ok (.getfield 73, 3) := by decide +kernel
theorem dX3_told_116 : decode cX3_told 116 = .ok (.iload_n 1, 1) := by decide +kernel
theorem dX3_told_117 : decode cX3_told 117 = .ok (.iaload, 1) := by decide +kernel
theorem dX3_told_118 : decode cX3_told 118 = .ok (.ireturn, 1) := by decide +kernel
theorem dX3_told_119 : decode cX3_told 119 = .ok (.aload_n 0, 1) := by decide +kernel
theorem dX3_told_120 : decode cX3_told 120 = .ok (.getfield 28, 3) := by decide +kernel
theorem dX3_told_123 : decode cX3_told 123 = .ok (.iload_n 1, 1) := by decide +kernel
theorem dX3_told_124 : decode cX3_told 124 = .ok (.invokevirtual 111, 3) := by decide +kernel
theorem dX3_told_127 : decode cX3_told 127 = .ok (.ireturn, 1) := by decide +kernel
theorem dX3_told_128 : decode cX3_told 128 = .ok (.aload_n 0, 1) := by decide +kernel
theorem dX3_told_129 : decode cX3_told 129 = .ok (.getfield 28, 3) := by decide +kernel
theorem dX3_told_132 : decode cX3_told 132 = .ok (.getfield 114, 3) := by decide +kernel
theorem dX3_told_135 : decode cX3_told 135 = .ok (.iload_n 1, 1) := by decide +kernel
theorem dX3_told_136 : decode cX3_told 136 = .ok (.iaload, 1) := by decide +kernel
theorem dX3_told_137 : decode cX3_told 137 = .ok (.ireturn, 1) := by decide +kernel
theorem dX3_told_138 : decode cX3_told 138 = .ok (.iconst (-1), 1) := by decide +kernel
theorem dX3_told_139 : decode cX3_told 139 = .ok (.ireturn, 1) := by decide +kernel
theorem dX3_pane_0 : decode cX3_pane 0 = .ok (.aload_n 0, 1) := by decide +kernel
theorem dX3_pane_1 : decode cX3_pane 1 = .ok (.getfield 10, 3) := by decide +kernel
theorem dX3_pane_4 : decode cX3_pane 4 = .ok (.iload_n 1, 1) := by decide +kernel
theorem dX3_pane_5 : decode cX3_pane 5 = .ok (.iload_n 2, 1) := by decide +kernel
theorem dX3_pane_6 : decode cX3_pane 6 = .ok (.invokevirtual 76, 3) := by decide +kernel
theorem dX3_pane_9 : decode cX3_pane 9 = .ok (.ifCond .ne 5, 3) := by decide +kernel
theorem dX3_pane_12 : decode cX3_pane 12 = .ok (.iconst (-1), 1) := by decide +kernel
theorem dX3_pane_13 : decode cX3_pane 13 = .ok (.ireturn, 1) := by decide +kernel
theorem dX3_pane_14 : decode cX3_pane 14 = .ok (.iload_n 1, 1) := by decide +kernel
theorem dX3_pane_15 : decode cX3_pane 15 = .ok (.iload_n 2, 1) := by decide +kernel
theorem dX3_pane_16 : decode cX3_pane 16 = .ok (.invokestatic 80, 3) := by decide +kernel
theorem dX3_pane_19 : decode cX3_pane 19 = .ok (.istore 4, 2) := by decide +kernel
theorem dX3_pane_21 : decode cX3_pane 21 = .ok (.iload_n 3, 1) := by decide +kernel
theorem dX3_pane_22 : decode cX3_pane 22 = .ok (.tableswitch 104 0 5 #[38, 49, 60, 71, 82, 93], 38) := by decide +kernel
theorem dX3_pane_60 : decode cX3_pane 60 = .ok (.aload_n 0, 1) := by decide +kernel
theorem dX3_pane_61 : decode cX3_pane 61 = .ok (.getfield 28, 3) := by decide +kernel
theorem dX3_pane_64 : decode cX3_pane 64 = .ok (.getfield 117, 3) := by decide +kernel
theorem dX3_pane_67 : decode cX3_pane 67 = .ok (.iload 4, 2) := by decide +kernel
theorem dX3_pane_69 : decode cX3_pane 69 = .ok (.iaload, 1) := by decide +kernel
theorem dX3_pane_70 : decode cX3_pane 70 = .ok (.ireturn, 1) := by decide +kernel
theorem dX3_pane_71 : decode cX3_pane 71 = .ok (.aload_n 0, 1) := by decide +kernel
theorem dX3_pane_72 : decode cX3_pane 72 = .ok (.getfield 28, 3) := by decide +kernel
theorem dX3_pane_75 : decode cX3_pane 75 = .ok (.getfield 120, 3) := by decide +kernel
theorem dX3_pane_78 : decode cX3_pane 78 = .ok (.iload 4, 2) := by decide +kernel
theorem dX3_pane_80 : decode cX3_pane 80 = .ok (.iaload, 1) := by decide +kernel
theorem dX3_pane_81 : decode cX3_pane 81 = .ok (.ireturn, 1) := by decide +kernel
theorem dX3_pane_82 : decode cX3_pane 82 = .ok (.aload_n 0, 1) := by decide +kernel
theorem dX3_pane_83 : decode cX3_pane 83 = .ok (.getfield 28, 3) := by decide +kernel
theorem dX3_pane_86 : decode cX3_pane 86 = .ok (.getfield 123, 3) := by decide +kernel
theorem dX3_pane_89 : decode cX3_pane 89 = .ok (.iload 4, 2) := by decide +kernel
theorem dX3_pane_91 : decode cX3_pane 91 = .ok (.iaload, 1) := by decide +kernel
theorem dX3_pane_92 : decode cX3_pane 92 = .ok (.ireturn, 1) := by decide +kernel
