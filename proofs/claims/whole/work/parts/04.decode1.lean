theorem dX0_init_0 : decode cX0_init 0 = .ok (.aload_n 0, 1) := by decide +kernel
theorem dX0_init_1 : decode cX0_init 1 = .ok (.invokespecial 3, 3) := by decide +kernel
theorem dX0_init_4 : decode cX0_init 4 = .ok (.aload_n 0, 1) := by decide +kernel
theorem dX0_init_5 : decode cX0_init 5 = .ok (.bipush 6, 2) := by decide +kernel
theorem dX0_init_7 : decode cX0_init 7 = .ok (.newarray .int, 2) := by decide +kernel
theorem dX0_init_9 : decode cX0_init 9 = .ok (.putfield 9, 3) := by decide +kernel
theorem dX0_init_12 : decode cX0_init 12 = .ok (.aload_n 0, 1) := by decide +kernel
theorem dX0_init_13 : decode cX0_init 13 = .ok (.bipush 6, 2) := by decide +kernel
theorem dX0_init_15 : decode cX0_init 15 = .ok (.newarray .int, 2) := by decide +kernel
theorem dX0_init_17 : decode cX0_init 17 = .ok (.putfield 15, 3) := by decide +kernel
theorem dX0_init_20 : decode cX0_init 20 = .ok (.aload_n 0, 1) := by decide +kernel
theorem dX0_init_21 : decode cX0_init 21 = .ok (.bipush 24, 2) := by decide +kernel
theorem dX0_init_23 : decode cX0_init 23 = .ok (.newarray .int, 2) := by decide +kernel
theorem dX0_init_25 : decode cX0_init 25 = .ok (.putfield 18, 3) := by decide +kernel
theorem dX0_init_28 : decode cX0_init 28 = .ok (.aload_n 0, 1) := by decide +kernel
theorem dX0_init_29 : decode cX0_init 29 = .ok (.bipush 24, 2) := by decide +kernel
theorem dX0_init_31 : decode cX0_init 31 = .ok (.newarray .int, 2) := by decide +kernel
theorem dX0_init_33 : decode cX0_init 33 = .ok (.putfield 21, 3) := by decide +kernel
theorem dX0_init_36 : decode cX0_init 36 = .ok (.aload_n 0, 1) := by decide +kernel
theorem dX0_init_37 : decode cX0_init 37 = .ok (.bipush 24, 2) := by decide +kernel
theorem dX0_init_39 : decode cX0_init 39 = .ok (.newarray .int, 2) := by decide +kernel
theorem dX0_init_41 : decode cX0_init 41 = .ok (.putfield 24, 3) := by decide +kernel
theorem dX0_init_44 : decode cX0_init 44 = .ok (.aload_n 0, 1) := by decide +kernel
theorem dX0_init_45 : decode cX0_init 45 = .ok (.bipush 24, 2) := by decide +kernel
theorem dX0_init_47 : decode cX0_init 47 = .ok (.newarray .int, 2) := by decide +kernel
theorem dX0_init_49 : decode cX0_init 49 = .ok (.putfield 27, 3) := by decide +kernel
theorem dX0_init_52 : decode cX0_init 52 = .ok (.aload_n 0, 1) := by decide +kernel
theorem dX0_init_53 : decode cX0_init 53 = .ok (.bipush 24, 2) := by decide +kernel
theorem dX0_init_55 : decode cX0_init 55 = .ok (.newarray .int, 2) := by decide +kernel
theorem dX0_init_57 : decode cX0_init 57 = .ok (.putfield 30, 3) := by decide +kernel
theorem dX0_init_60 : decode cX0_init 60 = .ok (.aload_n 0, 1) := by decide +kernel
theorem dX0_init_61 : decode cX0_init 61 = .ok (.aload_n 1, 1) := by decide +kernel
theorem dX0_init_62 : decode cX0_init 62 = .ok (.putfield 33, 3) := by decide +kernel
theorem dX0_init_65 : decode cX0_init 65 = .ok (.aload_n 0, 1) := by decide +kernel
theorem dX0_init_66 : decode cX0_init 66 = .ok (.iload_n 2, 1) := by decide +kernel
theorem dX0_init_67 : decode cX0_init 67 = .ok (.putfield 37, 3) := by decide +kernel
theorem dX0_init_70 : decode cX0_init 70 = .ok (.return_, 1) := by decide +kernel
theorem dX0_siltOf_0 : decode cX0_siltOf 0 = .ok (.aload_n 0, 1) := by decide +kernel
theorem dX0_siltOf_1 : decode cX0_siltOf 1 = .ok (.getfield 9, 3) := by decide +kernel
theorem dX0_siltOf_4 : decode cX0_siltOf 4 = .ok (.iload_n 1, 1) := by decide +kernel
theorem dX0_siltOf_5 : decode cX0_siltOf 5 = .ok (.iaload, 1) := by decide +kernel
theorem dX0_siltOf_6 : decode cX0_siltOf 6 = .ok (.bipush 100, 2) := by decide +kernel
theorem dX0_siltOf_8 : decode cX0_siltOf 8 = .ok (.idiv, 1) := by decide +kernel
theorem dX0_siltOf_9 : decode cX0_siltOf 9 = .ok (.ireturn, 1) := by decide +kernel
theorem dX0_mostOf_0 : decode cX0_mostOf 0 = .ok (.iconst 0, 1) := by decide +kernel
theorem dX0_mostOf_1 : decode cX0_mostOf 1 = .ok (.aload_n 0, 1) := by decide +kernel
theorem dX0_mostOf_2 : decode cX0_mostOf 2 = .ok (.getfield 33, 3) := by decide +kernel
theorem dX0_mostOf_5 : decode cX0_mostOf 5 = .ok (.getfield 41, 3) := by decide +kernel
theorem dX0_mostOf_8 : decode cX0_mostOf 8 = .ok (.iload_n 1, 1) := by decide +kernel
theorem dX0_mostOf_9 : decode cX0_mostOf 9 = .ok (.iaload, 1) := by decide +kernel
theorem dX0_mostOf_10 : decode cX0_mostOf 10 = .ok (.aload_n 0, 1) := by decide +kernel
theorem dX0_mostOf_11 : decode cX0_mostOf 11 = .ok (.iload_n 1, 1) := by decide +kernel
theorem dX0_mostOf_12 : decode cX0_mostOf 12 = .ok (.invokevirtual 46, 3) := by decide +kernel
theorem dX0_mostOf_15 : decode cX0_mostOf 15 = .ok (.bipush 10, 2) := by decide +kernel
theorem dX0_mostOf_17 : decode cX0_mostOf 17 = .ok (.idiv, 1) := by decide +kernel
theorem dX0_mostOf_18 : decode cX0_mostOf 18 = .ok (.isub, 1) := by decide +kernel
theorem dX0_mostOf_19 : decode cX0_mostOf 19 = .ok (.invokestatic 50, 3) := by decide +kernel
theorem dX0_mostOf_22 : decode cX0_mostOf 22 = .ok (.ireturn, 1) := by decide +kernel
theorem dX0_passHour_0 : decode cX0_passHour 0 = .ok (.aload_n 0, 1) := by decide +kernel
theorem dX0_passHour_1 : decode cX0_passHour 1 = .ok (.getfield 33, 3) := by decide +kernel
theorem dX0_passHour_4 : decode cX0_passHour 4 = .ok (.getfield 56, 3) := by decide +kernel
theorem dX0_passHour_7 : decode cX0_passHour 7 = .ok (.istore_n 2, 1) := by decide +kernel
theorem dX0_passHour_8 : decode cX0_passHour 8 = .ok (.aload_n 0, 1) := by decide +kernel
theorem dX0_passHour_9 : decode cX0_passHour 9 = .ok (.dup, 1) := by decide +kernel
theorem dX0_passHour_10 : decode cX0_passHour 10 = .ok (.getfield 59, 3) := by decide +kernel
theorem dX0_passHour_13 : decode cX0_passHour 13 = .ok (.iload_n 2, 1) := by decide +kernel
theorem dX0_passHour_14 : decode cX0_passHour 14 = .ok (.iadd, 1) := by decide +kernel
theorem dX0_passHour_15 : decode cX0_passHour 15 = .ok (.putfield 59, 3) := by decide +kernel
theorem dX0_passHour_18 : decode cX0_passHour 18 = .ok (.iconst 0, 1) := by decide +kernel
theorem dX0_passHour_19 : decode cX0_passHour 19 = .ok (.istore_n 3, 1) := by decide +kernel
theorem dX0_passHour_20 : decode cX0_passHour 20 = .ok (.iload_n 3, 1) := by decide +kernel
theorem dX0_passHour_21 : decode cX0_passHour 21 = .ok (.aload_n 0, 1) := by decide +kernel
theorem dX0_passHour_22 : decode cX0_passHour 22 = .ok (.getfield 33, 3) := by decide +kernel
theorem dX0_passHour_25 : decode cX0_passHour 25 = .ok (.getfield 62, 3) := by decide +kernel
theorem dX0_passHour_28 : decode cX0_passHour 28 = .ok (.if_icmp .ge 29, 3) := by decide +kernel
theorem dX0_passHour_31 : decode cX0_passHour 31 = .ok (.aload_n 0, 1) := by decide +kernel
theorem dX0_passHour_32 : decode cX0_passHour 32 = .ok (.iload_n 3, 1) := by decide +kernel
theorem dX0_passHour_33 : decode cX0_passHour 33 = .ok (.iload_n 2, 1) := by decide +kernel
theorem dX0_passHour_34 : decode cX0_passHour 34 = .ok (.invokevirtual 65, 3) := by decide +kernel
theorem dX0_passHour_37 : decode cX0_passHour 37 = .ok (.iload_n 2, 1) := by decide +kernel
theorem dX0_passHour_38 : decode cX0_passHour 38 = .ok (.aload_n 0, 1) := by decide +kernel
theorem dX0_passHour_39 : decode cX0_passHour 39 = .ok (.iload_n 3, 1) := by decide +kernel
theorem dX0_passHour_40 : decode cX0_passHour 40 = .ok (.invokevirtual 69, 3) := by decide +kernel
theorem dX0_passHour_43 : decode cX0_passHour 43 = .ok (.isub, 1) := by decide +kernel
theorem dX0_passHour_44 : decode cX0_passHour 44 = .ok (.istore_n 2, 1) := by decide +kernel
theorem dX0_passHour_45 : decode cX0_passHour 45 = .ok (.aload_n 0, 1) := by decide +kernel
theorem dX0_passHour_46 : decode cX0_passHour 46 = .ok (.iload_n 3, 1) := by decide +kernel
theorem dX0_passHour_47 : decode cX0_passHour 47 = .ok (.iload_n 1, 1) := by decide +kernel
theorem dX0_passHour_48 : decode cX0_passHour 48 = .ok (.invokevirtual 72, 3) := by decide +kernel
theorem dX0_passHour_51 : decode cX0_passHour 51 = .ok (.iinc 3 1, 3) := by decide +kernel
theorem dX0_passHour_54 : decode cX0_passHour 54 = .ok (.goto (-34), 3) := by decide +kernel
theorem dX0_passHour_57 : decode cX0_passHour 57 = .ok (.aload_n 0, 1) := by decide +kernel
theorem dX0_passHour_58 : decode cX0_passHour 58 = .ok (.iload_n 2, 1) := by decide +kernel
theorem dX0_passHour_59 : decode cX0_passHour 59 = .ok (.putfield 75, 3) := by decide +kernel
theorem dX0_passHour_62 : decode cX0_passHour 62 = .ok (.aload_n 0, 1) := by decide +kernel
theorem dX0_passHour_63 : decode cX0_passHour 63 = .ok (.dup, 1) := by decide +kernel
theorem dX0_passHour_64 : decode cX0_passHour 64 = .ok (.getfield 78, 3) := by decide +kernel
theorem dX0_passHour_67 : decode cX0_passHour 67 = .ok (.iload_n 2, 1) := by decide +kernel
theorem dX0_passHour_68 : decode cX0_passHour 68 = .ok (.iadd, 1) := by decide +kernel
theorem dX0_passHour_69 : decode cX0_passHour 69 = .ok (.putfield 78, 3) := by decide +kernel
theorem dX0_passHour_72 : decode cX0_passHour 72 = .ok (.aload_n 0, 1) := by decide +kernel
theorem dX0_passHour_73 : decode cX0_passHour 73 = .ok (.iload_n 1, 1) := by decide +kernel
theorem dX0_passHour_74 : decode cX0_passHour 74 = .ok (.invokevirtual 81, 3) := by decide +kernel
theorem dX0_passHour_77 : decode cX0_passHour 77 = .ok (.ifCond .eq 13, 3) := by decide +kernel
theorem dX0_passHour_80 : decode cX0_passHour 80 = .ok (.aload_n 0, 1) := by decide +kernel
theorem dX0_passHour_81 : decode cX0_passHour 81 = .ok (.dup, 1) := by decide +kernel
theorem dX0_passHour_82 : decode cX0_passHour 82 = .ok (.getfield 85, 3) := by decide +kernel
theorem dX0_passHour_85 : decode cX0_passHour 85 = .ok (.iconst 1, 1) := by decide +kernel
theorem dX0_passHour_86 : decode cX0_passHour 86 = .ok (.iadd, 1) := by decide +kernel
theorem dX0_passHour_87 : decode cX0_passHour 87 = .ok (.putfield 85, 3) := by decide +kernel
theorem dX0_passHour_90 : decode cX0_passHour 90 = .ok (.return_, 1) := by decide +kernel
theorem dX0_isMillShort_0 : decode cX0_isMillShort 0 = .ok (.aload_n 0, 1) := by decide +kernel
theorem dX0_isMillShort_1 : decode cX0_isMillShort 1 = .ok (.getfield 75, 3) := by decide +kernel
theorem dX0_isMillShort_4 : decode cX0_isMillShort 4 = .ok (.aload_n 0, 1) := by decide +kernel
theorem dX0_isMillShort_5 : decode cX0_isMillShort 5 = .ok (.getfield 33, 3) := by decide +kernel
theorem dX0_isMillShort_8 : decode cX0_isMillShort 8 = .ok (.iload_n 1, 1) := by decide +kernel
theorem dX0_isMillShort_9 : decode cX0_isMillShort 9 = .ok (.invokevirtual 88, 3) := by decide +kernel
theorem dX0_isMillShort_12 : decode cX0_isMillShort 12 = .ok (.if_icmp .ge 7, 3) := by decide +kernel
theorem dX0_isMillShort_15 : decode cX0_isMillShort 15 = .ok (.iconst 1, 1) := by decide +kernel
theorem dX0_isMillShort_16 : decode cX0_isMillShort 16 = .ok (.goto 4, 3) := by decide +kernel
theorem dX0_isMillShort_19 : decode cX0_isMillShort 19 = .ok (.iconst 0, 1) := by decide +kernel
theorem dX0_isMillShort_20 : decode cX0_isMillShort 20 = .ok (.ireturn, 1) := by decide +kernel
theorem dX0_sumOfFarm_0 : decode cX0_sumOfFarm 0 = .ok (.iconst 0, 1) := by decide +kernel
theorem dX0_sumOfFarm_1 : decode cX0_sumOfFarm 1 = .ok (.istore_n 3, 1) := by decide +kernel
theorem dX0_sumOfFarm_2 : decode cX0_sumOfFarm 2 = .ok (.iconst 0, 1) := by decide +kernel
theorem dX0_sumOfFarm_3 : decode cX0_sumOfFarm 3 = .ok (.istore 4, 2) := by decide +kernel
theorem dX0_sumOfFarm_5 : decode cX0_sumOfFarm 5 = .ok (.iload 4, 2) := by decide +kernel
theorem dX0_sumOfFarm_7 : decode cX0_sumOfFarm 7 = .ok (.aload_n 0, 1) := by decide +kernel
theorem dX0_sumOfFarm_8 : decode cX0_sumOfFarm 8 = .ok (.getfield 33, 3) := by decide +kernel
theorem dX0_sumOfFarm_11 : decode cX0_sumOfFarm 11 = .ok (.getfield 62, 3) := by decide +kernel
theorem dX0_sumOfFarm_14 : decode cX0_sumOfFarm 14 = .ok (.if_icmp .ge 59, 3) := by decide +kernel
theorem dX0_sumOfFarm_17 : decode cX0_sumOfFarm 17 = .ok (.aload_n 0, 1) := by decide +kernel
theorem dX0_sumOfFarm_18 : decode cX0_sumOfFarm 18 = .ok (.getfield 33, 3) := by decide +kernel
theorem dX0_sumOfFarm_21 : decode cX0_sumOfFarm 21 = .ok (.getfield 91, 3) := by decide +kernel
theorem dX0_sumOfFarm_24 : decode cX0_sumOfFarm 24 = .ok (.iload 4, 2) := by decide +kernel
theorem dX0_sumOfFarm_26 : decode cX0_sumOfFarm 26 = .ok (.iaload, 1) := by decide +kernel
theorem dX0_sumOfFarm_27 : decode cX0_sumOfFarm 27 = .ok (.iload_n 2, 1) := by decide +kernel
theorem dX0_sumOfFarm_28 : decode cX0_sumOfFarm 28 = .ok (.if_icmp .ne 39, 3) := by decide +kernel
theorem dX0_sumOfFarm_31 : decode cX0_sumOfFarm 31 = .ok (.iconst 0, 1) := by decide +kernel
theorem dX0_sumOfFarm_32 : decode cX0_sumOfFarm 32 = .ok (.istore 5, 2) := by decide +kernel
theorem dX0_sumOfFarm_34 : decode cX0_sumOfFarm 34 = .ok (.iload 5, 2) := by decide +kernel
theorem dX0_sumOfFarm_36 : decode cX0_sumOfFarm 36 = .ok (.aload_n 0, 1) := by decide +kernel
theorem dX0_sumOfFarm_37 : decode cX0_sumOfFarm 37 = .ok (.getfield 33, 3) := by decide +kernel
theorem dX0_sumOfFarm_40 : decode cX0_sumOfFarm 40 = .ok (.getfield 94, 3) := by decide +kernel
theorem dX0_sumOfFarm_43 : decode cX0_sumOfFarm 43 = .ok (.iload 4, 2) := by decide +kernel
theorem dX0_sumOfFarm_45 : decode cX0_sumOfFarm 45 = .ok (.iaload, 1) := by decide +kernel
theorem dX0_sumOfFarm_46 : decode cX0_sumOfFarm 46 = .ok (.if_icmp .ge 21, 3) := by decide +kernel
theorem dX0_sumOfFarm_49 : decode cX0_sumOfFarm 49 = .ok (.iload_n 3, 1) := by decide +kernel
theorem dX0_sumOfFarm_50 : decode cX0_sumOfFarm 50 = .ok (.aload_n 1, 1) := by decide +kernel
theorem dX0_sumOfFarm_51 : decode cX0_sumOfFarm 51 = .ok (.iload 4, 2) := by decide +kernel
theorem dX0_sumOfFarm_53 : decode cX0_sumOfFarm 53 = .ok (.iload 5, 2) := by decide +kernel
theorem dX0_sumOfFarm_55 : decode cX0_sumOfFarm 55 = .ok (.invokestatic 97, 3) := by decide +kernel
theorem dX0_sumOfFarm_58 : decode cX0_sumOfFarm 58 = .ok (.iaload, 1) := by decide +kernel
theorem dX0_sumOfFarm_59 : decode cX0_sumOfFarm 59 = .ok (.iadd, 1) := by decide +kernel
theorem dX0_sumOfFarm_60 : decode cX0_sumOfFarm 60 = .ok (.istore_n 3, 1) := by decide +kernel
theorem dX0_sumOfFarm_61 : decode cX0_sumOfFarm 61 = .ok (.iinc 5 1, 3) := by decide +kernel
theorem dX0_sumOfFarm_64 : decode cX0_sumOfFarm 64 = .ok (.goto (-30), 3) := by decide +kernel
theorem dX0_sumOfFarm_67 : decode cX0_sumOfFarm 67 = .ok (.iinc 4 1, 3) := by decide +kernel
theorem dX0_sumOfFarm_70 : decode cX0_sumOfFarm 70 = .ok (.goto (-65), 3) := by decide +kernel
theorem dX0_sumOfFarm_73 : decode cX0_sumOfFarm 73 = .ok (.iload_n 3, 1) := by decide +kernel
theorem dX0_sumOfFarm_74 : decode cX0_sumOfFarm 74 = .ok (.ireturn, 1) := by decide +kernel
theorem dX0_takeIn_0 : decode cX0_takeIn 0 = .ok (.iload_n 1, 1) := by decide +kernel
theorem dX0_takeIn_1 : decode cX0_takeIn 1 = .ok (.aload_n 0, 1) := by decide +kernel
theorem dX0_takeIn_2 : decode cX0_takeIn 2 = .ok (.getfield 37, 3) := by decide +kernel
theorem dX0_takeIn_5 : decode cX0_takeIn 5 = .ok (.if_icmp .ne 7, 3) := by decide +kernel
theorem dX0_takeIn_8 : decode cX0_takeIn 8 = .ok (.iconst 0, 1) := by decide +kernel
theorem dX0_takeIn_9 : decode cX0_takeIn 9 = .ok (.goto 12, 3) := by decide +kernel
theorem dX0_takeIn_12 : decode cX0_takeIn 12 = .ok (.aload_n 0, 1) := by decide +kernel
theorem dX0_takeIn_13 : decode cX0_takeIn 13 = .ok (.getfield 33, 3) := by decide +kernel
theorem dX0_takeIn_16 : decode cX0_takeIn 16 = .ok (.getfield 100, 3) := by decide +kernel
theorem dX0_takeIn_19 : decode cX0_takeIn 19 = .ok (.iload_n 1, 1) := by decide +kernel
theorem dX0_takeIn_20 : decode cX0_takeIn 20 = .ok (.iaload, 1) := by decide +kernel
theorem dX0_takeIn_21 : decode cX0_takeIn 21 = .ok (.istore_n 3, 1) := by decide +kernel
theorem dX0_takeIn_22 : decode cX0_takeIn 22 = .ok (.aload_n 0, 1) := by decide +kernel
theorem dX0_takeIn_23 : decode cX0_takeIn 23 = .ok (.getfield 15, 3) := by decide +kernel
theorem dX0_takeIn_26 : decode cX0_takeIn 26 = .ok (.iload_n 1, 1) := by decide +kernel
theorem dX0_takeIn_27 : decode cX0_takeIn 27 = .ok (.iload_n 2, 1) := by decide +kernel
theorem dX0_takeIn_28 : decode cX0_takeIn 28 = .ok (.iload_n 3, 1) := by decide +kernel
theorem dX0_takeIn_29 : decode cX0_takeIn 29 = .ok (.imul, 1) := by decide +kernel
theorem dX0_takeIn_30 : decode cX0_takeIn 30 = .ok (.iconst 4, 1) := by decide +kernel
theorem dX0_takeIn_31 : decode cX0_takeIn 31 = .ok (.idiv, 1) := by decide +kernel
theorem dX0_takeIn_32 : decode cX0_takeIn 32 = .ok (.aload_n 0, 1) := by decide +kernel
theorem dX0_takeIn_33 : decode cX0_takeIn 33 = .ok (.iload_n 1, 1) := by decide +kernel
theorem dX0_takeIn_34 : decode cX0_takeIn 34 = .ok (.invokevirtual 103, 3) := by decide +kernel
theorem dX0_takeIn_37 : decode cX0_takeIn 37 = .ok (.invokestatic 106, 3) := by decide +kernel
theorem dX0_takeIn_40 : decode cX0_takeIn 40 = .ok (.iastore, 1) := by decide +kernel
theorem dX0_takeIn_41 : decode cX0_takeIn 41 = .ok (.aload_n 0, 1) := by decide +kernel
theorem dX0_takeIn_42 : decode cX0_takeIn 42 = .ok (.getfield 9, 3) := by decide +kernel
theorem dX0_takeIn_45 : decode cX0_takeIn 45 = .ok (.iload_n 1, 1) := by decide +kernel
theorem dX0_takeIn_46 : decode cX0_takeIn 46 = .ok (.dup2, 1) := by decide +kernel
theorem dX0_takeIn_47 : decode cX0_takeIn 47 = .ok (.iaload, 1) := by decide +kernel
theorem dX0_takeIn_48 : decode cX0_takeIn 48 = .ok (.aload_n 0, 1) := by decide +kernel
theorem dX0_takeIn_49 : decode cX0_takeIn 49 = .ok (.getfield 15, 3) := by decide +kernel
theorem dX0_takeIn_52 : decode cX0_takeIn 52 = .ok (.iload_n 1, 1) := by decide +kernel
theorem dX0_takeIn_53 : decode cX0_takeIn 53 = .ok (.iaload, 1) := by decide +kernel
theorem dX0_takeIn_54 : decode cX0_takeIn 54 = .ok (.iadd, 1) := by decide +kernel
theorem dX0_takeIn_55 : decode cX0_takeIn 55 = .ok (.iastore, 1) := by decide +kernel
theorem dX0_takeIn_56 : decode cX0_takeIn 56 = .ok (.return_, 1) := by decide +kernel
theorem dX0_soakPanes_0 : decode cX0_soakPanes 0 = .ok (.aload_n 0, 1) := by decide +kernel
theorem dX0_soakPanes_1 : decode cX0_soakPanes 1 = .ok (.getfield 33, 3) := by decide +kernel
theorem dX0_soakPanes_4 : decode cX0_soakPanes 4 = .ok (.getfield 94, 3) := by decide +kernel
theorem dX0_soakPanes_7 : decode cX0_soakPanes 7 = .ok (.iload_n 1, 1) := by decide +kernel
theorem dX0_soakPanes_8 : decode cX0_soakPanes 8 = .ok (.iaload, 1) := by decide +kernel
theorem dX0_soakPanes_9 : decode cX0_soakPanes 9 = .ok (.istore_n 2, 1) := by decide +kernel
theorem dX0_soakPanes_10 : decode cX0_soakPanes 10 = .ok (.iload_n 2, 1) := by decide +kernel
theorem dX0_soakPanes_11 : decode cX0_soakPanes 11 = .ok (.iconst 1, 1) := by decide +kernel
theorem dX0_soakPanes_12 : decode cX0_soakPanes 12 = .ok (.if_icmp .ge 5, 3) := by decide +kernel
theorem dX0_soakPanes_15 : decode cX0_soakPanes 15 = .ok (.iconst 0, 1) := by decide +kernel
theorem dX0_soakPanes_16 : decode cX0_soakPanes 16 = .ok (.ireturn, 1) := by decide +kernel
theorem dX0_soakPanes_17 : decode cX0_soakPanes 17 = .ok (.aload_n 0, 1) := by decide +kernel
theorem dX0_soakPanes_18 : decode cX0_soakPanes 18 = .ok (.getfield 15, 3) := by decide +kernel
theorem dX0_soakPanes_21 : decode cX0_soakPanes 21 = .ok (.iload_n 1, 1) := by decide +kernel
theorem dX0_soakPanes_22 : decode cX0_soakPanes 22 = .ok (.iaload, 1) := by decide +kernel
theorem dX0_soakPanes_23 : decode cX0_soakPanes 23 = .ok (.iload_n 2, 1) := by decide +kernel
theorem dX0_soakPanes_24 : decode cX0_soakPanes 24 = .ok (.idiv, 1) := by decide +kernel
theorem dX0_soakPanes_25 : decode cX0_soakPanes 25 = .ok (.istore_n 3, 1) := by decide +kernel
theorem dX0_soakPanes_26 : decode cX0_soakPanes 26 = .ok (.aload_n 0, 1) := by decide +kernel
theorem dX0_soakPanes_27 : decode cX0_soakPanes 27 = .ok (.getfield 15, 3) := by decide +kernel
theorem dX0_soakPanes_30 : decode cX0_soakPanes 30 = .ok (.iload_n 1, 1) := by decide +kernel
theorem dX0_soakPanes_31 : decode cX0_soakPanes 31 = .ok (.iaload, 1) := by decide +kernel
theorem dX0_soakPanes_32 : decode cX0_soakPanes 32 = .ok (.iload_n 2, 1) := by decide +kernel
theorem dX0_soakPanes_33 : decode cX0_soakPanes 33 = .ok (.irem, 1) := by decide +kernel
theorem dX0_soakPanes_34 : decode cX0_soakPanes 34 = .ok (.istore 4, 2) := by decide +kernel
theorem dX0_soakPanes_36 : decode cX0_soakPanes 36 = .ok (.iconst 0, 1) := by decide +kernel
theorem dX0_soakPanes_37 : decode cX0_soakPanes 37 = .ok (.istore 5, 2) := by decide +kernel
theorem dX0_soakPanes_39 : decode cX0_soakPanes 39 = .ok (.iconst 0, 1) := by decide +kernel
theorem dX0_soakPanes_40 : decode cX0_soakPanes 40 = .ok (.istore 6, 2) := by decide +kernel
theorem dX0_soakPanes_42 : decode cX0_soakPanes 42 = .ok (.iload 6, 2) := by decide +kernel
theorem dX0_soakPanes_44 : decode cX0_soakPanes 44 = .ok (.iload_n 2, 1) := by decide +kernel
theorem dX0_soakPanes_45 : decode cX0_soakPanes 45 = .ok (.if_icmp .ge 70, 3) := by decide +kernel
theorem dX0_soakPanes_48 : decode cX0_soakPanes 48 = .ok (.iload_n 1, 1) := by decide +kernel
theorem dX0_soakPanes_49 : decode cX0_soakPanes 49 = .ok (.iload 6, 2) := by decide +kernel
theorem dX0_soakPanes_51 : decode cX0_soakPanes 51 = .ok (.invokestatic 97, 3) := by decide +kernel
theorem dX0_soakPanes_54 : decode cX0_soakPanes 54 = .ok (.istore 7, 2) := by decide +kernel
theorem dX0_soakPanes_56 : decode cX0_soakPanes 56 = .ok (.aload_n 0, 1) := by decide +kernel
theorem dX0_soakPanes_57 : decode cX0_soakPanes 57 = .ok (.getfield 21, 3) := by decide +kernel
theorem dX0_soakPanes_60 : decode cX0_soakPanes 60 = .ok (.iload 7, 2) := by decide +kernel
theorem dX0_soakPanes_62 : decode cX0_soakPanes 62 = .ok (.iload 6, 2) := by decide +kernel
theorem dX0_soakPanes_64 : decode cX0_soakPanes 64 = .ok (.iload 4, 2) := by decide +kernel
theorem dX0_soakPanes_66 : decode cX0_soakPanes 66 = .ok (.if_icmp .ge 9, 3) := by decide +kernel
theorem dX0_soakPanes_69 : decode cX0_soakPanes 69 = .ok (.iload_n 3, 1) := by decide +kernel
theorem dX0_soakPanes_70 : decode cX0_soakPanes 70 = .ok (.iconst 1, 1) := by decide +kernel
theorem dX0_soakPanes_71 : decode cX0_soakPanes 71 = .ok (.iadd, 1) := by decide +kernel
theorem dX0_soakPanes_72 : decode cX0_soakPanes 72 = .ok (.goto 4, 3) := by decide +kernel
theorem dX0_soakPanes_75 : decode cX0_soakPanes 75 = .ok (.iload_n 3, 1) := by decide +kernel
theorem dX0_soakPanes_76 : decode cX0_soakPanes 76 = .ok (.iastore, 1) := by decide +kernel
theorem dX0_soakPanes_77 : decode cX0_soakPanes 77 = .ok (.aload_n 0, 1) := by decide +kernel
theorem dX0_soakPanes_78 : decode cX0_soakPanes 78 = .ok (.getfield 21, 3) := by decide +kernel
theorem dX0_soakPanes_81 : decode cX0_soakPanes 81 = .ok (.iload 7, 2) := by decide +kernel
theorem dX0_soakPanes_83 : decode cX0_soakPanes 83 = .ok (.iaload, 1) := by decide +kernel
theorem dX0_soakPanes_84 : decode cX0_soakPanes 84 = .ok (.iconst 3, 1) := by decide +kernel
theorem dX0_soakPanes_85 : decode cX0_soakPanes 85 = .ok (.invokestatic 106, 3) := by decide +kernel
theorem dX0_soakPanes_88 : decode cX0_soakPanes 88 = .ok (.istore 8, 2) := by decide +kernel
theorem dX0_soakPanes_90 : decode cX0_soakPanes 90 = .ok (.aload_n 0, 1) := by decide +kernel
theorem dX0_soakPanes_91 : decode cX0_soakPanes 91 = .ok (.getfield 27, 3) := by decide +kernel
theorem dX0_soakPanes_94 : decode cX0_soakPanes 94 = .ok (.iload 7, 2) := by decide +kernel
theorem dX0_soakPanes_96 : decode cX0_soakPanes 96 = .ok (.dup2, 1) := by decide +kernel
theorem dX0_soakPanes_97 : decode cX0_soakPanes 97 = .ok (.iaload, 1) := by decide +kernel
theorem dX0_soakPanes_98 : decode cX0_soakPanes 98 = .ok (.iload 8, 2) := by decide +kernel
theorem dX0_soakPanes_100 : decode cX0_soakPanes 100 = .ok (.iadd, 1) := by decide +kernel
theorem dX0_soakPanes_101 : decode cX0_soakPanes 101 = .ok (.iastore, 1) := by decide +kernel
theorem dX0_soakPanes_102 : decode cX0_soakPanes 102 = .ok (.iload 5, 2) := by decide +kernel
theorem dX0_soakPanes_104 : decode cX0_soakPanes 104 = .ok (.iload 8, 2) := by decide +kernel
theorem dX0_soakPanes_106 : decode cX0_soakPanes 106 = .ok (.iadd, 1) := by decide +kernel
theorem dX0_soakPanes_107 : decode cX0_soakPanes 107 = .ok (.istore 5, 2) := by decide +kernel
theorem dX0_soakPanes_109 : decode cX0_soakPanes 109 = .ok (.iinc 6 1, 3) := by decide +kernel
theorem dX0_soakPanes_112 : decode cX0_soakPanes 112 = .ok (.goto (-70), 3) := by decide +kernel
theorem dX0_soakPanes_115 : decode cX0_soakPanes 115 = .ok (.aload_n 0, 1) := by decide +kernel
theorem dX0_soakPanes_116 : decode cX0_soakPanes 116 = .ok (.dup, 1) := by decide +kernel
theorem dX0_soakPanes_117 : decode cX0_soakPanes 117 = .ok (.getfield 109, 3) := by decide +kernel
theorem dX0_soakPanes_120 : decode cX0_soakPanes 120 = .ok (.iload 5, 2) := by decide +kernel
theorem dX0_soakPanes_122 : decode cX0_soakPanes 122 = .ok (.iadd, 1) := by decide +kernel
theorem dX0_soakPanes_123 : decode cX0_soakPanes 123 = .ok (.putfield 109, 3) := by decide +kernel
theorem dX0_soakPanes_126 : decode cX0_soakPanes 126 = .ok (.iload 5, 2) := by decide +kernel
theorem dX0_soakPanes_128 : decode cX0_soakPanes 128 = .ok (.ireturn, 1) := by decide +kernel
theorem dX0_tendPanes_0 : decode cX0_tendPanes 0 = .ok (.aload_n 0, 1) := by decide +kernel
theorem dX0_tendPanes_1 : decode cX0_tendPanes 1 = .ok (.getfield 33, 3) := by decide +kernel
theorem dX0_tendPanes_4 : decode cX0_tendPanes 4 = .ok (.iload_n 2, 1) := by decide +kernel
theorem dX0_tendPanes_5 : decode cX0_tendPanes 5 = .ok (.invokevirtual 112, 3) := by decide +kernel
theorem dX0_tendPanes_8 : decode cX0_tendPanes 8 = .ok (.istore_n 3, 1) := by decide +kernel
theorem dX0_tendPanes_9 : decode cX0_tendPanes 9 = .ok (.iconst 0, 1) := by decide +kernel
theorem dX0_tendPanes_10 : decode cX0_tendPanes 10 = .ok (.istore 4, 2) := by decide +kernel
theorem dX0_tendPanes_12 : decode cX0_tendPanes 12 = .ok (.iload 4, 2) := by decide +kernel
theorem dX0_tendPanes_14 : decode cX0_tendPanes 14 = .ok (.aload_n 0, 1) := by decide +kernel
theorem dX0_tendPanes_15 : decode cX0_tendPanes 15 = .ok (.getfield 33, 3) := by decide +kernel
theorem dX0_tendPanes_18 : decode cX0_tendPanes 18 = .ok (.getfield 94, 3) := by decide +kernel
theorem dX0_tendPanes_21 : decode cX0_tendPanes 21 = .ok (.iload_n 1, 1) := by decide +kernel
theorem dX0_tendPanes_22 : decode cX0_tendPanes 22 = .ok (.iaload, 1) := by decide +kernel
theorem dX0_tendPanes_23 : decode cX0_tendPanes 23 = .ok (.if_icmp .ge 33, 3) := by decide +kernel
theorem dX0_tendPanes_26 : decode cX0_tendPanes 26 = .ok (.iload_n 1, 1) := by decide +kernel
theorem dX0_tendPanes_27 : decode cX0_tendPanes 27 = .ok (.iload 4, 2) := by decide +kernel
theorem dX0_tendPanes_29 : decode cX0_tendPanes 29 = .ok (.invokestatic 97, 3) := by decide +kernel
theorem dX0_tendPanes_32 : decode cX0_tendPanes 32 = .ok (.istore 5, 2) := by decide +kernel
theorem dX0_tendPanes_34 : decode cX0_tendPanes 34 = .ok (.aload_n 0, 1) := by decide +kernel
theorem dX0_tendPanes_35 : decode cX0_tendPanes 35 = .ok (.iload 5, 2) := by decide +kernel
theorem dX0_tendPanes_37 : decode cX0_tendPanes 37 = .ok (.invokevirtual 115, 3) := by decide +kernel
theorem dX0_tendPanes_40 : decode cX0_tendPanes 40 = .ok (.iload_n 3, 1) := by decide +kernel
theorem dX0_tendPanes_41 : decode cX0_tendPanes 41 = .ok (.ifCond .eq 9, 3) := by decide +kernel
theorem dX0_tendPanes_44 : decode cX0_tendPanes 44 = .ok (.aload_n 0, 1) := by decide +kernel
theorem dX0_tendPanes_45 : decode cX0_tendPanes 45 = .ok (.iload 5, 2) := by decide +kernel
theorem dX0_tendPanes_47 : decode cX0_tendPanes 47 = .ok (.invokevirtual 119, 3) := by decide +kernel
theorem dX0_tendPanes_50 : decode cX0_tendPanes 50 = .ok (.iinc 4 1, 3) := by decide +kernel
theorem dX0_tendPanes_53 : decode cX0_tendPanes 53 = .ok (.goto (-41), 3) := by decide +kernel
theorem dX0_tendPanes_56 : decode cX0_tendPanes 56 = .ok (.return_, 1) := by decide +kernel
theorem dX0_growGrass_0 : decode cX0_growGrass 0 = .ok (.aload_n 0, 1) := by decide +kernel
theorem dX0_growGrass_1 : decode cX0_growGrass 1 = .ok (.getfield 21, 3) := by decide +kernel
theorem dX0_growGrass_4 : decode cX0_growGrass 4 = .ok (.iload_n 1, 1) := by decide +kernel
theorem dX0_growGrass_5 : decode cX0_growGrass 5 = .ok (.iaload, 1) := by decide +kernel
theorem dX0_growGrass_6 : decode cX0_growGrass 6 = .ok (.ifCond .le 7, 3) := by decide +kernel
theorem dX0_growGrass_9 : decode cX0_growGrass 9 = .ok (.iconst 1, 1) := by decide +kernel
theorem dX0_growGrass_10 : decode cX0_growGrass 10 = .ok (.goto 4, 3) := by decide +kernel
theorem dX0_growGrass_13 : decode cX0_growGrass 13 = .ok (.iconst 0, 1) := by decide +kernel
theorem dX0_growGrass_14 : decode cX0_growGrass 14 = .ok (.istore_n 2, 1) := by decide +kernel
theorem dX0_growGrass_15 : decode cX0_growGrass 15 = .ok (.iload_n 2, 1) := by decide +kernel
theorem dX0_growGrass_16 : decode cX0_growGrass 16 = .ok (.ifCond .eq 13, 3) := by decide +kernel
theorem dX0_growGrass_19 : decode cX0_growGrass 19 = .ok (.aload_n 0, 1) := by decide +kernel
theorem dX0_growGrass_20 : decode cX0_growGrass 20 = .ok (.getfield 24, 3) := by decide +kernel
theorem dX0_growGrass_23 : decode cX0_growGrass 23 = .ok (.iload_n 1, 1) := by decide +kernel
theorem dX0_growGrass_24 : decode cX0_growGrass 24 = .ok (.dup2, 1) := by decide +kernel
theorem dX0_growGrass_25 : decode cX0_growGrass 25 = .ok (.iaload, 1) := by decide +kernel
theorem dX0_growGrass_26 : decode cX0_growGrass 26 = .ok (.iconst 1, 1) := by decide +kernel
theorem dX0_growGrass_27 : decode cX0_growGrass 27 = .ok (.iadd, 1) := by decide +kernel
theorem dX0_growGrass_28 : decode cX0_growGrass 28 = .ok (.iastore, 1) := by decide +kernel
theorem dX0_growGrass_29 : decode cX0_growGrass 29 = .ok (.iload_n 2, 1) := by decide +kernel
theorem dX0_growGrass_30 : decode cX0_growGrass 30 = .ok (.ifCond .eq 17, 3) := by decide +kernel
theorem dX0_growGrass_33 : decode cX0_growGrass 33 = .ok (.aload_n 0, 1) := by decide +kernel
theorem dX0_growGrass_34 : decode cX0_growGrass 34 = .ok (.getfield 33, 3) := by decide +kernel
theorem dX0_growGrass_37 : decode cX0_growGrass 37 = .ok (.getfield 122, 3) := by decide +kernel
theorem dX0_growGrass_40 : decode cX0_growGrass 40 = .ok (.iconst 4, 1) := by decide +kernel
theorem dX0_growGrass_41 : decode cX0_growGrass 41 = .ok (.invokestatic 50, 3) := by decide +kernel
theorem dX0_growGrass_44 : decode cX0_growGrass 44 = .ok (.goto 10, 3) := by decide +kernel
theorem dX0_growGrass_47 : decode cX0_growGrass 47 = .ok (.aload_n 0, 1) := by decide +kernel
theorem dX0_growGrass_48 : decode cX0_growGrass 48 = .ok (.getfield 33, 3) := by decide +kernel
theorem dX0_growGrass_51 : decode cX0_growGrass 51 = .ok (.getfield 122, 3) := by decide +kernel
theorem dX0_growGrass_54 : decode cX0_growGrass 54 = .ok (.istore_n 3, 1) := by decide +kernel
theorem dX0_growGrass_55 : decode cX0_growGrass 55 = .ok (.iload_n 3, 1) := by decide +kernel
theorem dX0_growGrass_56 : decode cX0_growGrass 56 = .ok (.iconst 2, 1) := by decide +kernel
theorem dX0_growGrass_57 : decode cX0_growGrass 57 = .ok (.if_icmp .le 28, 3) := by decide +kernel
theorem dX0_growGrass_60 : decode cX0_growGrass 60 = .ok (.aload_n 0, 1) := by decide +kernel
theorem dX0_growGrass_61 : decode cX0_growGrass 61 = .ok (.getfield 18, 3) := by decide +kernel
theorem dX0_growGrass_64 : decode cX0_growGrass 64 = .ok (.iload_n 1, 1) := by decide +kernel
theorem dX0_growGrass_65 : decode cX0_growGrass 65 = .ok (.sipush 5000, 3) := by decide +kernel
theorem dX0_growGrass_68 : decode cX0_growGrass 68 = .ok (.aload_n 0, 1) := by decide +kernel
theorem dX0_growGrass_69 : decode cX0_growGrass 69 = .ok (.getfield 18, 3) := by decide +kernel
theorem dX0_growGrass_72 : decode cX0_growGrass 72 = .ok (.iload_n 1, 1) := by decide +kernel
theorem dX0_growGrass_73 : decode cX0_growGrass 73 = .ok (.iaload, 1) := by decide +kernel
theorem dX0_growGrass_74 : decode cX0_growGrass 74 = .ok (.iload_n 3, 1) := by decide +kernel
theorem dX0_growGrass_75 : decode cX0_growGrass 75 = .ok (.iadd, 1) := by decide +kernel
theorem dX0_growGrass_76 : decode cX0_growGrass 76 = .ok (.iconst 2, 1) := by decide +kernel
theorem dX0_growGrass_77 : decode cX0_growGrass 77 = .ok (.isub, 1) := by decide +kernel
theorem dX0_growGrass_78 : decode cX0_growGrass 78 = .ok (.invokestatic 106, 3) := by decide +kernel
theorem dX0_growGrass_81 : decode cX0_growGrass 81 = .ok (.iastore, 1) := by decide +kernel
theorem dX0_growGrass_82 : decode cX0_growGrass 82 = .ok (.goto 25, 3) := by decide +kernel
theorem dX0_growGrass_85 : decode cX0_growGrass 85 = .ok (.iload_n 3, 1) := by decide +kernel
theorem dX0_growGrass_86 : decode cX0_growGrass 86 = .ok (.ifCond .ge 21, 3) := by decide +kernel
theorem dX0_growGrass_89 : decode cX0_growGrass 89 = .ok (.aload_n 0, 1) := by decide +kernel
theorem dX0_growGrass_90 : decode cX0_growGrass 90 = .ok (.getfield 18, 3) := by decide +kernel
theorem dX0_growGrass_93 : decode cX0_growGrass 93 = .ok (.iload_n 1, 1) := by decide +kernel
theorem dX0_growGrass_94 : decode cX0_growGrass 94 = .ok (.iconst 0, 1) := by decide +kernel
theorem dX0_growGrass_95 : decode cX0_growGrass 95 = .ok (.aload_n 0, 1) := by decide +kernel
theorem dX0_growGrass_96 : decode cX0_growGrass 96 = .ok (.getfield 18, 3) := by decide +kernel
theorem dX0_growGrass_99 : decode cX0_growGrass 99 = .ok (.iload_n 1, 1) := by decide +kernel
theorem dX0_growGrass_100 : decode cX0_growGrass 100 = .ok (.iaload, 1) := by decide +kernel
theorem dX0_growGrass_101 : decode cX0_growGrass 101 = .ok (.iconst 1, 1) := by decide +kernel
theorem dX0_growGrass_102 : decode cX0_growGrass 102 = .ok (.isub, 1) := by decide +kernel
theorem dX0_growGrass_103 : decode cX0_growGrass 103 = .ok (.invokestatic 50, 3) := by decide +kernel
theorem dX0_growGrass_106 : decode cX0_growGrass 106 = .ok (.iastore, 1) := by decide +kernel
theorem dX0_growGrass_107 : decode cX0_growGrass 107 = .ok (.return_, 1) := by decide +kernel
theorem dX0_grazePane_0 : decode cX0_grazePane 0 = .ok (.aload_n 0, 1) := by decide +kernel
theorem dX0_grazePane_1 : decode cX0_grazePane 1 = .ok (.getfield 33, 3) := by decide +kernel
theorem dX0_grazePane_4 : decode cX0_grazePane 4 = .ok (.getfield 125, 3) := by decide +kernel
theorem dX0_grazePane_7 : decode cX0_grazePane 7 = .ok (.iload_n 1, 1) := by decide +kernel
theorem dX0_grazePane_8 : decode cX0_grazePane 8 = .ok (.iaload, 1) := by decide +kernel
theorem dX0_grazePane_9 : decode cX0_grazePane 9 = .ok (.aload_n 0, 1) := by decide +kernel
theorem dX0_grazePane_10 : decode cX0_grazePane 10 = .ok (.getfield 18, 3) := by decide +kernel
theorem dX0_grazePane_13 : decode cX0_grazePane 13 = .ok (.iload_n 1, 1) := by decide +kernel
theorem dX0_grazePane_14 : decode cX0_grazePane 14 = .ok (.iaload, 1) := by decide +kernel
theorem dX0_grazePane_15 : decode cX0_grazePane 15 = .ok (.invokestatic 106, 3) := by decide +kernel
theorem dX0_grazePane_18 : decode cX0_grazePane 18 = .ok (.istore_n 2, 1) := by decide +kernel
theorem dX0_grazePane_19 : decode cX0_grazePane 19 = .ok (.aload_n 0, 1) := by decide +kernel
theorem dX0_grazePane_20 : decode cX0_grazePane 20 = .ok (.getfield 18, 3) := by decide +kernel
theorem dX0_grazePane_23 : decode cX0_grazePane 23 = .ok (.iload_n 1, 1) := by decide +kernel
theorem dX0_grazePane_24 : decode cX0_grazePane 24 = .ok (.dup2, 1) := by decide +kernel
theorem dX0_grazePane_25 : decode cX0_grazePane 25 = .ok (.iaload, 1) := by decide +kernel
theorem dX0_grazePane_26 : decode cX0_grazePane 26 = .ok (.iload_n 2, 1) := by decide +kernel
theorem dX0_grazePane_27 : decode cX0_grazePane 27 = .ok (.isub, 1) := by decide +kernel
theorem dX0_grazePane_28 : decode cX0_grazePane 28 = .ok (.iastore, 1) := by decide +kernel
theorem dX0_grazePane_29 : decode cX0_grazePane 29 = .ok (.aload_n 0, 1) := by decide +kernel
theorem dX0_grazePane_30 : decode cX0_grazePane 30 = .ok (.getfield 30, 3) := by decide +kernel
theorem dX0_grazePane_33 : decode cX0_grazePane 33 = .ok (.iload_n 1, 1) := by decide +kernel
theorem dX0_grazePane_34 : decode cX0_grazePane 34 = .ok (.dup2, 1) := by decide +kernel
theorem dX0_grazePane_35 : decode cX0_grazePane 35 = .ok (.iaload, 1) := by decide +kernel
theorem dX0_grazePane_36 : decode cX0_grazePane 36 = .ok (.iload_n 2, 1) := by decide +kernel
theorem dX0_grazePane_37 : decode cX0_grazePane 37 = .ok (.iadd, 1) := by decide +kernel
theorem dX0_grazePane_38 : decode cX0_grazePane 38 = .ok (.iastore, 1) := by decide +kernel
theorem dX0_grazePane_39 : decode cX0_grazePane 39 = .ok (.return_, 1) := by decide +kernel
theorem dX1_init_0 : decode cX1_init 0 = .ok (.aload_n 0, 1) := by decide +kernel
theorem dX1_init_1 : decode cX1_init 1 = .ok (.invokespecial 3, 3) := by decide +kernel
theorem dX1_init_4 : decode cX1_init 4 = .ok (.aload_n 0, 1) := by decide +kernel
theorem dX1_init_5 : decode cX1_init 5 = .ok (.bipush 60, 2) := by decide +kernel
theorem dX1_init_7 : decode cX1_init 7 = .ok (.newarray .int, 2) := by decide +kernel
theorem dX1_init_9 : decode cX1_init 9 = .ok (.putfield 9, 3) := by decide +kernel
theorem dX1_init_12 : decode cX1_init 12 = .ok (.aload_n 0, 1) := by decide +kernel
theorem dX1_init_13 : decode cX1_init 13 = .ok (.bipush 60, 2) := by decide +kernel
theorem dX1_init_15 : decode cX1_init 15 = .ok (.newarray .int, 2) := by decide +kernel
theorem dX1_init_17 : decode cX1_init 17 = .ok (.putfield 15, 3) := by decide +kernel
theorem dX1_init_20 : decode cX1_init 20 = .ok (.aload_n 0, 1) := by decide +kernel
theorem dX1_init_21 : decode cX1_init 21 = .ok (.bipush 60, 2) := by decide +kernel
theorem dX1_init_23 : decode cX1_init 23 = .ok (.newarray .int, 2) := by decide +kernel
theorem dX1_init_25 : decode cX1_init 25 = .ok (.putfield 18, 3) := by decide +kernel
theorem dX1_init_28 : decode cX1_init 28 = .ok (.aload_n 0, 1) := by decide +kernel
theorem dX1_init_29 : decode cX1_init 29 = .ok (.iconst 4, 1) := by decide +kernel
theorem dX1_init_30 : decode cX1_init 30 = .ok (.newarray .int, 2) := by decide +kernel
theorem dX1_init_32 : decode cX1_init 32 = .ok (.putfield 21, 3) := by decide +kernel
theorem dX1_init_35 : decode cX1_init 35 = .ok (.return_, 1) := by decide +kernel
theorem dX1_enterTurn_0 : decode cX1_enterTurn 0 = .ok (.aload_n 0, 1) := by decide +kernel
theorem dX1_enterTurn_1 : decode cX1_enterTurn 1 = .ok (.getfield 21, 3) := by decide +kernel
theorem dX1_enterTurn_4 : decode cX1_enterTurn 4 = .ok (.iload_n 3, 1) := by decide +kernel
theorem dX1_enterTurn_5 : decode cX1_enterTurn 5 = .ok (.dup2, 1) := by decide +kernel
theorem dX1_enterTurn_6 : decode cX1_enterTurn 6 = .ok (.iaload, 1) := by decide +kernel
theorem dX1_enterTurn_7 : decode cX1_enterTurn 7 = .ok (.iconst 1, 1) := by decide +kernel
theorem dX1_enterTurn_8 : decode cX1_enterTurn 8 = .ok (.iadd, 1) := by decide +kernel
theorem dX1_enterTurn_9 : decode cX1_enterTurn 9 = .ok (.iastore, 1) := by decide +kernel
theorem dX1_enterTurn_10 : decode cX1_enterTurn 10 = .ok (.aload_n 0, 1) := by decide +kernel
theorem dX1_enterTurn_11 : decode cX1_enterTurn 11 = .ok (.iload_n 1, 1) := by decide +kernel
theorem dX1_enterTurn_12 : decode cX1_enterTurn 12 = .ok (.iconst 1, 1) := by decide +kernel
theorem dX1_enterTurn_13 : decode cX1_enterTurn 13 = .ok (.iload_n 2, 1) := by decide +kernel
theorem dX1_enterTurn_14 : decode cX1_enterTurn 14 = .ok (.invokevirtual 24, 3) := by decide +kernel
theorem dX1_enterTurn_17 : decode cX1_enterTurn 17 = .ok (.return_, 1) := by decide +kernel
theorem dX1_enter_0 : decode cX1_enter 0 = .ok (.aload_n 0, 1) := by decide +kernel
theorem dX1_enter_1 : decode cX1_enter 1 = .ok (.dup, 1) := by decide +kernel
theorem dX1_enter_2 : decode cX1_enter 2 = .ok (.getfield 28, 3) := by decide +kernel
theorem dX1_enter_5 : decode cX1_enter 5 = .ok (.iconst 1, 1) := by decide +kernel
theorem dX1_enter_6 : decode cX1_enter 6 = .ok (.iadd, 1) := by decide +kernel
theorem dX1_enter_7 : decode cX1_enter 7 = .ok (.putfield 28, 3) := by decide +kernel
theorem dX1_enter_10 : decode cX1_enter 10 = .ok (.aload_n 0, 1) := by decide +kernel
theorem dX1_enter_11 : decode cX1_enter 11 = .ok (.getfield 32, 3) := by decide +kernel
theorem dX1_enter_14 : decode cX1_enter 14 = .ok (.bipush 60, 2) := by decide +kernel
theorem dX1_enter_16 : decode cX1_enter 16 = .ok (.if_icmp .ge 43, 3) := by decide +kernel
theorem dX1_enter_19 : decode cX1_enter 19 = .ok (.aload_n 0, 1) := by decide +kernel
theorem dX1_enter_20 : decode cX1_enter 20 = .ok (.getfield 9, 3) := by decide +kernel
theorem dX1_enter_23 : decode cX1_enter 23 = .ok (.aload_n 0, 1) := by decide +kernel
theorem dX1_enter_24 : decode cX1_enter 24 = .ok (.getfield 32, 3) := by decide +kernel
theorem dX1_enter_27 : decode cX1_enter 27 = .ok (.iload_n 1, 1) := by decide +kernel
theorem dX1_enter_28 : decode cX1_enter 28 = .ok (.iastore, 1) := by decide +kernel
theorem dX1_enter_29 : decode cX1_enter 29 = .ok (.aload_n 0, 1) := by decide +kernel
theorem dX1_enter_30 : decode cX1_enter 30 = .ok (.getfield 15, 3) := by decide +kernel
theorem dX1_enter_33 : decode cX1_enter 33 = .ok (.aload_n 0, 1) := by decide +kernel
theorem dX1_enter_34 : decode cX1_enter 34 = .ok (.getfield 32, 3) := by decide +kernel
theorem dX1_enter_37 : decode cX1_enter 37 = .ok (.iload_n 2, 1) := by decide +kernel
theorem dX1_enter_38 : decode cX1_enter 38 = .ok (.iastore, 1) := by decide +kernel
theorem dX1_enter_39 : decode cX1_enter 39 = .ok (.aload_n 0, 1) := by decide +kernel
theorem dX1_enter_40 : decode cX1_enter 40 = .ok (.getfield 18, 3) := by decide +kernel
theorem dX1_enter_43 : decode cX1_enter 43 = .ok (.aload_n 0, 1) := by decide +kernel
theorem dX1_enter_44 : decode cX1_enter 44 = .ok (.getfield 32, 3) := by decide +kernel
theorem dX1_enter_47 : decode cX1_enter 47 = .ok (.iload_n 3, 1) := by decide +kernel
theorem dX1_enter_48 : decode cX1_enter 48 = .ok (.iastore, 1) := by decide +kernel
theorem dX1_enter_49 : decode cX1_enter 49 = .ok (.aload_n 0, 1) := by decide +kernel
theorem dX1_enter_50 : decode cX1_enter 50 = .ok (.dup, 1) := by decide +kernel
theorem dX1_enter_51 : decode cX1_enter 51 = .ok (.getfield 32, 3) := by decide +kernel
theorem dX1_enter_54 : decode cX1_enter 54 = .ok (.iconst 1, 1) := by decide +kernel
theorem dX1_enter_55 : decode cX1_enter 55 = .ok (.iadd, 1) := by decide +kernel
theorem dX1_enter_56 : decode cX1_enter 56 = .ok (.putfield 32, 3) := by decide +kernel
theorem dX1_enter_59 : decode cX1_enter 59 = .ok (.return_, 1) := by decide +kernel
theorem dX2_init_0 : decode cX2_init 0 = .ok (.aload_n 0, 1) := by decide +kernel
theorem dX2_init_1 : decode cX2_init 1 = .ok (.invokespecial 3, 3) := by decide +kernel
theorem dX2_init_4 : decode cX2_init 4 = .ok (.aload_n 0, 1) := by decide +kernel
theorem dX2_init_5 : decode cX2_init 5 = .ok (.bipush 6, 2) := by decide +kernel
theorem dX2_init_7 : decode cX2_init 7 = .ok (.newarray .int, 2) := by decide +kernel
theorem dX2_init_9 : decode cX2_init 9 = .ok (.putfield 9, 3) := by decide +kernel
theorem dX2_init_12 : decode cX2_init 12 = .ok (.aload_n 0, 1) := by decide +kernel
theorem dX2_init_13 : decode cX2_init 13 = .ok (.bipush 6, 2) := by decide +kernel
theorem dX2_init_15 : decode cX2_init 15 = .ok (.newarray .int, 2) := by decide +kernel
theorem dX2_init_17 : decode cX2_init 17 = .ok (.putfield 15, 3) := by decide +kernel
theorem dX2_init_20 : decode cX2_init 20 = .ok (.aload_n 0, 1) := by decide +kernel
theorem dX2_init_21 : decode cX2_init 21 = .ok (.bipush 6, 2) := by decide +kernel
theorem dX2_init_23 : decode cX2_init 23 = .ok (.newarray .int, 2) := by decide +kernel
theorem dX2_init_25 : decode cX2_init 25 = .ok (.putfield 18, 3) := by decide +kernel
theorem dX2_init_28 : decode cX2_init 28 = .ok (.aload_n 0, 1) := by decide +kernel
theorem dX2_init_29 : decode cX2_init 29 = .ok (.bipush 6, 2) := by decide +kernel
theorem dX2_init_31 : decode cX2_init 31 = .ok (.newarray .int, 2) := by decide +kernel
theorem dX2_init_33 : decode cX2_init 33 = .ok (.putfield 21, 3) := by decide +kernel
theorem dX2_init_36 : decode cX2_init 36 = .ok (.aload_n 0, 1) := by decide +kernel
theorem dX2_init_37 : decode cX2_init 37 = .ok (.bipush 24, 2) := by decide +kernel
theorem dX2_init_39 : decode cX2_init 39 = .ok (.newarray .int, 2) := by decide +kernel
theorem dX2_init_41 : decode cX2_init 41 = .ok (.putfield 24, 3) := by decide +kernel
theorem dX2_init_44 : decode cX2_init 44 = .ok (.aload_n 0, 1) := by decide +kernel
theorem dX2_init_45 : decode cX2_init 45 = .ok (.bipush 100, 2) := by decide +kernel
theorem dX2_init_47 : decode cX2_init 47 = .ok (.putfield 27, 3) := by decide +kernel
theorem dX2_init_50 : decode cX2_init 50 = .ok (.aload_n 0, 1) := by decide +kernel
theorem dX2_init_51 : decode cX2_init 51 = .ok (.iconst 5, 1) := by decide +kernel
theorem dX2_init_52 : decode cX2_init 52 = .ok (.putfield 31, 3) := by decide +kernel
theorem dX2_init_55 : decode cX2_init 55 = .ok (.return_, 1) := by decide +kernel
theorem dX2_isHatch_0 : decode cX2_isHatch 0 = .ok (.iload_n 1, 1) := by decide +kernel
theorem dX2_isHatch_1 : decode cX2_isHatch 1 = .ok (.ifCond .lt 15, 3) := by decide +kernel
theorem dX2_isHatch_4 : decode cX2_isHatch 4 = .ok (.iload_n 1, 1) := by decide +kernel
theorem dX2_isHatch_5 : decode cX2_isHatch 5 = .ok (.aload_n 0, 1) := by decide +kernel
theorem dX2_isHatch_6 : decode cX2_isHatch 6 = .ok (.getfield 34, 3) := by decide +kernel
theorem dX2_isHatch_9 : decode cX2_isHatch 9 = .ok (.if_icmp .ge 7, 3) := by decide +kernel
theorem dX2_isHatch_12 : decode cX2_isHatch 12 = .ok (.iconst 1, 1) := by decide +kernel
theorem dX2_isHatch_13 : decode cX2_isHatch 13 = .ok (.goto 4, 3) := by decide +kernel
theorem dX2_isHatch_16 : decode cX2_isHatch 16 = .ok (.iconst 0, 1) := by decide +kernel
theorem dX2_isHatch_17 : decode cX2_isHatch 17 = .ok (.ireturn, 1) := by decide +kernel
theorem dX2_isPane_0 : decode cX2_isPane 0 = .ok (.aload_n 0, 1) := by decide +kernel
theorem dX2_isPane_1 : decode cX2_isPane 1 = .ok (.iload_n 1, 1) := by decide +kernel
theorem dX2_isPane_2 : decode cX2_isPane 2 = .ok (.invokevirtual 37, 3) := by decide +kernel
theorem dX2_isPane_5 : decode cX2_isPane 5 = .ok (.ifCond .eq 21, 3) := by decide +kernel
theorem dX2_isPane_8 : decode cX2_isPane 8 = .ok (.iload_n 2, 1) := by decide +kernel
theorem dX2_isPane_9 : decode cX2_isPane 9 = .ok (.ifCond .lt 17, 3) := by decide +kernel
theorem dX2_isPane_12 : decode cX2_isPane 12 = .ok (.iload_n 2, 1) := by decide +kernel
theorem dX2_isPane_13 : decode cX2_isPane 13 = .ok (.aload_n 0, 1) := by decide +kernel
theorem dX2_isPane_14 : decode cX2_isPane 14 = .ok (.getfield 18, 3) := by decide +kernel
theorem dX2_isPane_17 : decode cX2_isPane 17 = .ok (.iload_n 1, 1) := by decide +kernel
theorem dX2_isPane_18 : decode cX2_isPane 18 = .ok (.iaload, 1) := by decide +kernel
theorem dX2_isPane_19 : decode cX2_isPane 19 = .ok (.if_icmp .ge 7, 3) := by decide +kernel
theorem dX2_isPane_22 : decode cX2_isPane 22 = .ok (.iconst 1, 1) := by decide +kernel
theorem dX2_isPane_23 : decode cX2_isPane 23 = .ok (.goto 4, 3) := by decide +kernel
theorem dX2_isPane_26 : decode cX2_isPane 26 = .ok (.iconst 0, 1) := by decide +kernel
theorem dX2_isPane_27 : decode cX2_isPane 27 = .ok (.ireturn, 1) := by decide +kernel
theorem dX2_addHatch_0 : decode cX2_addHatch 0 = .ok (.aload_n 0, 1) := by decide +kernel
