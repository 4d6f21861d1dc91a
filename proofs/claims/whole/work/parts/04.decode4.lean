theorem dX4_flow_20 : decode cX4_flow 20 = .ok (.bipush (-3), 2) := by decide +kernel
theorem dX4_flow_22 : decode cX4_flow 22 = .ok (.ireturn, 1) := by decide +kernel
theorem dX4_flow_23 : decode cX4_flow 23 = .ok (.aload_n 0, 1) := by decide +kernel
theorem dX4_flow_24 : decode cX4_flow 24 = .ok (.dup, 1) := by decide +kernel
theorem dX4_flow_25 : decode cX4_flow 25 = .ok (.getfield 81, 3) := by decide +kernel
theorem dX4_flow_28 : decode cX4_flow 28 = .ok (.iconst 1, 1) := by decide +kernel
theorem dX4_flow_29 : decode cX4_flow 29 = .ok (.iadd, 1) := by decide +kernel
theorem dX4_flow_30 : decode cX4_flow 30 = .ok (.putfield 81, 3) := by decide +kernel
theorem dX4_flow_33 : decode cX4_flow 33 = .ok (.aload_n 0, 1) := by decide +kernel
theorem dX4_flow_34 : decode cX4_flow 34 = .ok (.getfield 7, 3) := by decide +kernel
theorem dX4_flow_37 : decode cX4_flow 37 = .ok (.istore_n 2, 1) := by decide +kernel
theorem dX4_flow_38 : decode cX4_flow 38 = .ok (.aload_n 0, 1) := by decide +kernel
theorem dX4_flow_39 : decode cX4_flow 39 = .ok (.iload_n 1, 1) := by decide +kernel
theorem dX4_flow_40 : decode cX4_flow 40 = .ok (.putfield 7, 3) := by decide +kernel
theorem dX4_flow_43 : decode cX4_flow 43 = .ok (.iload_n 2, 1) := by decide +kernel
theorem dX4_flow_44 : decode cX4_flow 44 = .ok (.ireturn, 1) := by decide +kernel
theorem dX4_air_0 : decode cX4_air 0 = .ok (.iload_n 1, 1) := by decide +kernel
theorem dX4_air_1 : decode cX4_air 1 = .ok (.bipush (-20), 2) := by decide +kernel
theorem dX4_air_3 : decode cX4_air 3 = .ok (.bipush 30, 2) := by decide +kernel
theorem dX4_air_5 : decode cX4_air 5 = .ok (.invokestatic 77, 3) := by decide +kernel
theorem dX4_air_8 : decode cX4_air 8 = .ok (.ifCond .ne 6, 3) := by decide +kernel
theorem dX4_air_11 : decode cX4_air 11 = .ok (.bipush (-100), 2) := by decide +kernel
theorem dX4_air_13 : decode cX4_air 13 = .ok (.ireturn, 1) := by decide +kernel
theorem dX4_air_14 : decode cX4_air 14 = .ok (.aload_n 0, 1) := by decide +kernel
theorem dX4_air_15 : decode cX4_air 15 = .ok (.invokevirtual 84, 3) := by decide +kernel
theorem dX4_air_18 : decode cX4_air 18 = .ok (.ifCond .eq 6, 3) := by decide +kernel
theorem dX4_air_21 : decode cX4_air 21 = .ok (.bipush (-101), 2) := by decide +kernel
theorem dX4_air_23 : decode cX4_air 23 = .ok (.ireturn, 1) := by decide +kernel
theorem dX4_air_24 : decode cX4_air 24 = .ok (.aload_n 0, 1) := by decide +kernel
theorem dX4_air_25 : decode cX4_air 25 = .ok (.dup, 1) := by decide +kernel
theorem dX4_air_26 : decode cX4_air 26 = .ok (.getfield 81, 3) := by decide +kernel
theorem dX4_air_29 : decode cX4_air 29 = .ok (.iconst 1, 1) := by decide +kernel
theorem dX4_air_30 : decode cX4_air 30 = .ok (.iadd, 1) := by decide +kernel
theorem dX4_air_31 : decode cX4_air 31 = .ok (.putfield 81, 3) := by decide +kernel
theorem dX4_air_34 : decode cX4_air 34 = .ok (.aload_n 0, 1) := by decide +kernel
theorem dX4_air_35 : decode cX4_air 35 = .ok (.getfield 13, 3) := by decide +kernel
theorem dX4_air_38 : decode cX4_air 38 = .ok (.istore_n 2, 1) := by decide +kernel
theorem dX4_air_39 : decode cX4_air 39 = .ok (.aload_n 0, 1) := by decide +kernel
theorem dX4_air_40 : decode cX4_air 40 = .ok (.iload_n 1, 1) := by decide +kernel
theorem dX4_air_41 : decode cX4_air 41 = .ok (.putfield 13, 3) := by decide +kernel
theorem dX4_air_44 : decode cX4_air 44 = .ok (.iload_n 2, 1) := by decide +kernel
theorem dX4_air_45 : decode cX4_air 45 = .ok (.ireturn, 1) := by decide +kernel
theorem dX4_dig_0 : decode cX4_dig 0 = .ok (.aload_n 0, 1) := by decide +kernel
theorem dX4_dig_1 : decode cX4_dig 1 = .ok (.iload_n 1, 1) := by decide +kernel
theorem dX4_dig_2 : decode cX4_dig 2 = .ok (.invokevirtual 88, 3) := by decide +kernel
theorem dX4_dig_5 : decode cX4_dig 5 = .ok (.ifCond .ne 5, 3) := by decide +kernel
theorem dX4_dig_8 : decode cX4_dig 8 = .ok (.iconst (-1), 1) := by decide +kernel
theorem dX4_dig_9 : decode cX4_dig 9 = .ok (.ireturn, 1) := by decide +kernel
theorem dX4_dig_10 : decode cX4_dig 10 = .ok (.aload_n 0, 1) := by decide +kernel
theorem dX4_dig_11 : decode cX4_dig 11 = .ok (.invokevirtual 84, 3) := by decide +kernel
theorem dX4_dig_14 : decode cX4_dig 14 = .ok (.ifCond .eq 6, 3) := by decide +kernel
theorem dX4_dig_17 : decode cX4_dig 17 = .ok (.bipush (-3), 2) := by decide +kernel
theorem dX4_dig_19 : decode cX4_dig 19 = .ok (.ireturn, 1) := by decide +kernel
theorem dX4_dig_20 : decode cX4_dig 20 = .ok (.aload_n 0, 1) := by decide +kernel
theorem dX4_dig_21 : decode cX4_dig 21 = .ok (.dup, 1) := by decide +kernel
theorem dX4_dig_22 : decode cX4_dig 22 = .ok (.getfield 81, 3) := by decide +kernel
theorem dX4_dig_25 : decode cX4_dig 25 = .ok (.iconst 1, 1) := by decide +kernel
theorem dX4_dig_26 : decode cX4_dig 26 = .ok (.iadd, 1) := by decide +kernel
theorem dX4_dig_27 : decode cX4_dig 27 = .ok (.putfield 81, 3) := by decide +kernel
theorem dX4_dig_30 : decode cX4_dig 30 = .ok (.aload_n 0, 1) := by decide +kernel
theorem dX4_dig_31 : decode cX4_dig 31 = .ok (.getfield 32, 3) := by decide +kernel
theorem dX4_dig_34 : decode cX4_dig 34 = .ok (.iload_n 1, 1) := by decide +kernel
theorem dX4_dig_35 : decode cX4_dig 35 = .ok (.iaload, 1) := by decide +kernel
theorem dX4_dig_36 : decode cX4_dig 36 = .ok (.bipush 100, 2) := by decide +kernel
theorem dX4_dig_38 : decode cX4_dig 38 = .ok (.idiv, 1) := by decide +kernel
theorem dX4_dig_39 : decode cX4_dig 39 = .ok (.istore_n 2, 1) := by decide +kernel
theorem dX4_dig_40 : decode cX4_dig 40 = .ok (.iconst 0, 1) := by decide +kernel
theorem dX4_dig_41 : decode cX4_dig 41 = .ok (.istore_n 3, 1) := by decide +kernel
theorem dX4_dig_42 : decode cX4_dig 42 = .ok (.iload_n 3, 1) := by decide +kernel
theorem dX4_dig_43 : decode cX4_dig 43 = .ok (.bipush 7, 2) := by decide +kernel
theorem dX4_dig_45 : decode cX4_dig 45 = .ok (.if_icmp .ge 21, 3) := by decide +kernel
theorem dX4_dig_48 : decode cX4_dig 48 = .ok (.aload_n 0, 1) := by decide +kernel
theorem dX4_dig_49 : decode cX4_dig 49 = .ok (.getfield 32, 3) := by decide +kernel
theorem dX4_dig_52 : decode cX4_dig 52 = .ok (.bipush 6, 2) := by decide +kernel
theorem dX4_dig_54 : decode cX4_dig 54 = .ok (.iload_n 3, 1) := by decide +kernel
theorem dX4_dig_55 : decode cX4_dig 55 = .ok (.imul, 1) := by decide +kernel
theorem dX4_dig_56 : decode cX4_dig 56 = .ok (.iload_n 1, 1) := by decide +kernel
theorem dX4_dig_57 : decode cX4_dig 57 = .ok (.iadd, 1) := by decide +kernel
theorem dX4_dig_58 : decode cX4_dig 58 = .ok (.iconst 0, 1) := by decide +kernel
theorem dX4_dig_59 : decode cX4_dig 59 = .ok (.iastore, 1) := by decide +kernel
theorem dX4_dig_60 : decode cX4_dig 60 = .ok (.iinc 3 1, 3) := by decide +kernel
theorem dX4_dig_63 : decode cX4_dig 63 = .ok (.goto (-21), 3) := by decide +kernel
theorem dX4_dig_66 : decode cX4_dig 66 = .ok (.iload_n 2, 1) := by decide +kernel
theorem dX4_dig_67 : decode cX4_dig 67 = .ok (.ireturn, 1) := by decide +kernel
theorem dX4_isPane_0 : decode cX4_isPane 0 = .ok (.aload_n 0, 1) := by decide +kernel
theorem dX4_isPane_1 : decode cX4_isPane 1 = .ok (.iload_n 1, 1) := by decide +kernel
theorem dX4_isPane_2 : decode cX4_isPane 2 = .ok (.invokevirtual 88, 3) := by decide +kernel
theorem dX4_isPane_5 : decode cX4_isPane 5 = .ok (.ifCond .eq 23, 3) := by decide +kernel
theorem dX4_isPane_8 : decode cX4_isPane 8 = .ok (.iload_n 2, 1) := by decide +kernel
theorem dX4_isPane_9 : decode cX4_isPane 9 = .ok (.iconst 0, 1) := by decide +kernel
theorem dX4_isPane_10 : decode cX4_isPane 10 = .ok (.aload_n 0, 1) := by decide +kernel
theorem dX4_isPane_11 : decode cX4_isPane 11 = .ok (.getfield 23, 3) := by decide +kernel
theorem dX4_isPane_14 : decode cX4_isPane 14 = .ok (.iload_n 1, 1) := by decide +kernel
theorem dX4_isPane_15 : decode cX4_isPane 15 = .ok (.iaload, 1) := by decide +kernel
theorem dX4_isPane_16 : decode cX4_isPane 16 = .ok (.iconst 1, 1) := by decide +kernel
theorem dX4_isPane_17 : decode cX4_isPane 17 = .ok (.isub, 1) := by decide +kernel
theorem dX4_isPane_18 : decode cX4_isPane 18 = .ok (.invokestatic 77, 3) := by decide +kernel
theorem dX4_isPane_21 : decode cX4_isPane 21 = .ok (.ifCond .eq 7, 3) := by decide +kernel
theorem dX4_isPane_24 : decode cX4_isPane 24 = .ok (.iconst 1, 1) := by decide +kernel
theorem dX4_isPane_25 : decode cX4_isPane 25 = .ok (.goto 4, 3) := by decide +kernel
theorem dX4_isPane_28 : decode cX4_isPane 28 = .ok (.iconst 0, 1) := by decide +kernel
theorem dX4_isPane_29 : decode cX4_isPane 29 = .ok (.ireturn, 1) := by decide +kernel
theorem dX4_sheep_0 : decode cX4_sheep 0 = .ok (.aload_n 0, 1) := by decide +kernel
theorem dX4_sheep_1 : decode cX4_sheep 1 = .ok (.iload_n 1, 1) := by decide +kernel
theorem dX4_sheep_2 : decode cX4_sheep 2 = .ok (.iload_n 2, 1) := by decide +kernel
theorem dX4_sheep_3 : decode cX4_sheep 3 = .ok (.invokevirtual 92, 3) := by decide +kernel
theorem dX4_sheep_6 : decode cX4_sheep 6 = .ok (.ifCond .eq 13, 3) := by decide +kernel
theorem dX4_sheep_9 : decode cX4_sheep 9 = .ok (.iload_n 3, 1) := by decide +kernel
theorem dX4_sheep_10 : decode cX4_sheep 10 = .ok (.iconst 0, 1) := by decide +kernel
theorem dX4_sheep_11 : decode cX4_sheep 11 = .ok (.bipush 50, 2) := by decide +kernel
theorem dX4_sheep_13 : decode cX4_sheep 13 = .ok (.invokestatic 77, 3) := by decide +kernel
theorem dX4_sheep_16 : decode cX4_sheep 16 = .ok (.ifCond .ne 5, 3) := by decide +kernel
theorem dX4_sheep_19 : decode cX4_sheep 19 = .ok (.iconst (-1), 1) := by decide +kernel
theorem dX4_sheep_20 : decode cX4_sheep 20 = .ok (.ireturn, 1) := by decide +kernel
theorem dX4_sheep_21 : decode cX4_sheep 21 = .ok (.aload_n 0, 1) := by decide +kernel
theorem dX4_sheep_22 : decode cX4_sheep 22 = .ok (.invokevirtual 84, 3) := by decide +kernel
theorem dX4_sheep_25 : decode cX4_sheep 25 = .ok (.ifCond .eq 6, 3) := by decide +kernel
theorem dX4_sheep_28 : decode cX4_sheep 28 = .ok (.bipush (-3), 2) := by decide +kernel
theorem dX4_sheep_30 : decode cX4_sheep 30 = .ok (.ireturn, 1) := by decide +kernel
theorem dX4_sheep_31 : decode cX4_sheep 31 = .ok (.aload_n 0, 1) := by decide +kernel
theorem dX4_sheep_32 : decode cX4_sheep 32 = .ok (.dup, 1) := by decide +kernel
theorem dX4_sheep_33 : decode cX4_sheep 33 = .ok (.getfield 81, 3) := by decide +kernel
theorem dX4_sheep_36 : decode cX4_sheep 36 = .ok (.iconst 1, 1) := by decide +kernel
theorem dX4_sheep_37 : decode cX4_sheep 37 = .ok (.iadd, 1) := by decide +kernel
theorem dX4_sheep_38 : decode cX4_sheep 38 = .ok (.putfield 81, 3) := by decide +kernel
theorem dX4_sheep_41 : decode cX4_sheep 41 = .ok (.aload_n 0, 1) := by decide +kernel
theorem dX4_sheep_42 : decode cX4_sheep 42 = .ok (.getfield 29, 3) := by decide +kernel
theorem dX4_sheep_45 : decode cX4_sheep 45 = .ok (.iconst 4, 1) := by decide +kernel
theorem dX4_sheep_46 : decode cX4_sheep 46 = .ok (.iload_n 1, 1) := by decide +kernel
theorem dX4_sheep_47 : decode cX4_sheep 47 = .ok (.imul, 1) := by decide +kernel
theorem dX4_sheep_48 : decode cX4_sheep 48 = .ok (.iload_n 2, 1) := by decide +kernel
theorem dX4_sheep_49 : decode cX4_sheep 49 = .ok (.iadd, 1) := by decide +kernel
theorem dX4_sheep_50 : decode cX4_sheep 50 = .ok (.iaload, 1) := by decide +kernel
theorem dX4_sheep_51 : decode cX4_sheep 51 = .ok (.istore 4, 2) := by decide +kernel
theorem dX4_sheep_53 : decode cX4_sheep 53 = .ok (.aload_n 0, 1) := by decide +kernel
theorem dX4_sheep_54 : decode cX4_sheep 54 = .ok (.getfield 29, 3) := by decide +kernel
theorem dX4_sheep_57 : decode cX4_sheep 57 = .ok (.iconst 4, 1) := by decide +kernel
theorem dX4_sheep_58 : decode cX4_sheep 58 = .ok (.iload_n 1, 1) := by decide +kernel
theorem dX4_sheep_59 : decode cX4_sheep 59 = .ok (.imul, 1) := by decide +kernel
theorem dX4_sheep_60 : decode cX4_sheep 60 = .ok (.iload_n 2, 1) := by decide +kernel
theorem dX4_sheep_61 : decode cX4_sheep 61 = .ok (.iadd, 1) := by decide +kernel
theorem dX4_sheep_62 : decode cX4_sheep 62 = .ok (.iload_n 3, 1) := by decide +kernel
theorem dX4_sheep_63 : decode cX4_sheep 63 = .ok (.iastore, 1) := by decide +kernel
theorem dX4_sheep_64 : decode cX4_sheep 64 = .ok (.iload 4, 2) := by decide +kernel
theorem dX4_sheep_66 : decode cX4_sheep 66 = .ok (.ireturn, 1) := by decide +kernel
theorem dX4_right_0 : decode cX4_right 0 = .ok (.iload_n 1, 1) := by decide +kernel
theorem dX4_right_1 : decode cX4_right 1 = .ok (.iconst 0, 1) := by decide +kernel
theorem dX4_right_2 : decode cX4_right 2 = .ok (.sipush 1000, 3) := by decide +kernel
theorem dX4_right_5 : decode cX4_right 5 = .ok (.invokestatic 77, 3) := by decide +kernel
theorem dX4_right_8 : decode cX4_right 8 = .ok (.ifCond .eq 28, 3) := by decide +kernel
theorem dX4_right_11 : decode cX4_right 11 = .ok (.iload_n 2, 1) := by decide +kernel
theorem dX4_right_12 : decode cX4_right 12 = .ok (.iconst 0, 1) := by decide +kernel
theorem dX4_right_13 : decode cX4_right 13 = .ok (.bipush 24, 2) := by decide +kernel
theorem dX4_right_15 : decode cX4_right 15 = .ok (.invokestatic 77, 3) := by decide +kernel
theorem dX4_right_18 : decode cX4_right 18 = .ok (.ifCond .eq 18, 3) := by decide +kernel
theorem dX4_right_21 : decode cX4_right 21 = .ok (.iload_n 3, 1) := by decide +kernel
theorem dX4_right_22 : decode cX4_right 22 = .ok (.iconst 0, 1) := by decide +kernel
theorem dX4_right_23 : decode cX4_right 23 = .ok (.bipush 24, 2) := by decide +kernel
theorem dX4_right_25 : decode cX4_right 25 = .ok (.invokestatic 77, 3) := by decide +kernel
theorem dX4_right_28 : decode cX4_right 28 = .ok (.ifCond .eq 8, 3) := by decide +kernel
theorem dX4_right_31 : decode cX4_right 31 = .ok (.iload_n 2, 1) := by decide +kernel
theorem dX4_right_32 : decode cX4_right 32 = .ok (.iload_n 3, 1) := by decide +kernel
theorem dX4_right_33 : decode cX4_right 33 = .ok (.if_icmp .lt 5, 3) := by decide +kernel
theorem dX4_right_36 : decode cX4_right 36 = .ok (.iconst (-1), 1) := by decide +kernel
theorem dX4_right_37 : decode cX4_right 37 = .ok (.ireturn, 1) := by decide +kernel
theorem dX4_right_38 : decode cX4_right 38 = .ok (.aload_n 0, 1) := by decide +kernel
theorem dX4_right_39 : decode cX4_right 39 = .ok (.invokevirtual 84, 3) := by decide +kernel
theorem dX4_right_42 : decode cX4_right 42 = .ok (.ifCond .eq 6, 3) := by decide +kernel
theorem dX4_right_45 : decode cX4_right 45 = .ok (.bipush (-3), 2) := by decide +kernel
theorem dX4_right_47 : decode cX4_right 47 = .ok (.ireturn, 1) := by decide +kernel
theorem dX4_right_48 : decode cX4_right 48 = .ok (.aload_n 0, 1) := by decide +kernel
theorem dX4_right_49 : decode cX4_right 49 = .ok (.dup, 1) := by decide +kernel
theorem dX4_right_50 : decode cX4_right 50 = .ok (.getfield 81, 3) := by decide +kernel
theorem dX4_right_53 : decode cX4_right 53 = .ok (.iconst 1, 1) := by decide +kernel
theorem dX4_right_54 : decode cX4_right 54 = .ok (.iadd, 1) := by decide +kernel
theorem dX4_right_55 : decode cX4_right 55 = .ok (.putfield 81, 3) := by decide +kernel
theorem dX4_right_58 : decode cX4_right 58 = .ok (.aload_n 0, 1) := by decide +kernel
theorem dX4_right_59 : decode cX4_right 59 = .ok (.getfield 96, 3) := by decide +kernel
theorem dX4_right_62 : decode cX4_right 62 = .ok (.istore 4, 2) := by decide +kernel
theorem dX4_right_64 : decode cX4_right 64 = .ok (.aload_n 0, 1) := by decide +kernel
theorem dX4_right_65 : decode cX4_right 65 = .ok (.iload_n 1, 1) := by decide +kernel
theorem dX4_right_66 : decode cX4_right 66 = .ok (.putfield 96, 3) := by decide +kernel
theorem dX4_right_69 : decode cX4_right 69 = .ok (.aload_n 0, 1) := by decide +kernel
theorem dX4_right_70 : decode cX4_right 70 = .ok (.iload_n 2, 1) := by decide +kernel
theorem dX4_right_71 : decode cX4_right 71 = .ok (.putfield 99, 3) := by decide +kernel
theorem dX4_right_74 : decode cX4_right 74 = .ok (.aload_n 0, 1) := by decide +kernel
theorem dX4_right_75 : decode cX4_right 75 = .ok (.iload_n 3, 1) := by decide +kernel
theorem dX4_right_76 : decode cX4_right 76 = .ok (.putfield 102, 3) := by decide +kernel
theorem dX4_right_79 : decode cX4_right 79 = .ok (.iload 4, 2) := by decide +kernel
theorem dX4_right_81 : decode cX4_right 81 = .ok (.ireturn, 1) := by decide +kernel
theorem dX4_most_0 : decode cX4_most 0 = .ok (.aload_n 0, 1) := by decide +kernel
theorem dX4_most_1 : decode cX4_most 1 = .ok (.getfield 20, 3) := by decide +kernel
theorem dX4_most_4 : decode cX4_most 4 = .ok (.iload_n 2, 1) := by decide +kernel
theorem dX4_most_5 : decode cX4_most 5 = .ok (.iaload, 1) := by decide +kernel
theorem dX4_most_6 : decode cX4_most 6 = .ok (.aload_n 0, 1) := by decide +kernel
theorem dX4_most_7 : decode cX4_most 7 = .ok (.getfield 32, 3) := by decide +kernel
theorem dX4_most_10 : decode cX4_most 10 = .ok (.bipush 6, 2) := by decide +kernel
theorem dX4_most_12 : decode cX4_most 12 = .ok (.iload_n 1, 1) := by decide +kernel
theorem dX4_most_13 : decode cX4_most 13 = .ok (.imul, 1) := by decide +kernel
theorem dX4_most_14 : decode cX4_most 14 = .ok (.iload_n 2, 1) := by decide +kernel
theorem dX4_most_15 : decode cX4_most 15 = .ok (.iadd, 1) := by decide +kernel
theorem dX4_most_16 : decode cX4_most 16 = .ok (.iaload, 1) := by decide +kernel
theorem dX4_most_17 : decode cX4_most 17 = .ok (.bipush 100, 2) := by decide +kernel
theorem dX4_most_19 : decode cX4_most 19 = .ok (.idiv, 1) := by decide +kernel
theorem dX4_most_20 : decode cX4_most 20 = .ok (.bipush 10, 2) := by decide +kernel
theorem dX4_most_22 : decode cX4_most 22 = .ok (.idiv, 1) := by decide +kernel
theorem dX4_most_23 : decode cX4_most 23 = .ok (.isub, 1) := by decide +kernel
theorem dX4_most_24 : decode cX4_most 24 = .ok (.istore_n 3, 1) := by decide +kernel
theorem dX4_most_25 : decode cX4_most 25 = .ok (.iload_n 3, 1) := by decide +kernel
theorem dX4_most_26 : decode cX4_most 26 = .ok (.ifCond .ge 7, 3) := by decide +kernel
theorem dX4_most_29 : decode cX4_most 29 = .ok (.iconst 0, 1) := by decide +kernel
theorem dX4_most_30 : decode cX4_most 30 = .ok (.goto 4, 3) := by decide +kernel
theorem dX4_most_33 : decode cX4_most 33 = .ok (.iload_n 3, 1) := by decide +kernel
theorem dX4_most_34 : decode cX4_most 34 = .ok (.ireturn, 1) := by decide +kernel
theorem dX4_flows_0 : decode cX4_flows 0 = .ok (.aload_n 0, 1) := by decide +kernel
theorem dX4_flows_1 : decode cX4_flows 1 = .ok (.getfield 7, 3) := by decide +kernel
theorem dX4_flows_4 : decode cX4_flows 4 = .ok (.istore_n 2, 1) := by decide +kernel
theorem dX4_flows_5 : decode cX4_flows 5 = .ok (.iconst 0, 1) := by decide +kernel
theorem dX4_flows_6 : decode cX4_flows 6 = .ok (.istore_n 3, 1) := by decide +kernel
theorem dX4_flows_7 : decode cX4_flows 7 = .ok (.iload_n 3, 1) := by decide +kernel
theorem dX4_flows_8 : decode cX4_flows 8 = .ok (.aload_n 0, 1) := by decide +kernel
theorem dX4_flows_9 : decode cX4_flows 9 = .ok (.getfield 74, 3) := by decide +kernel
theorem dX4_flows_12 : decode cX4_flows 12 = .ok (.if_icmp .ge 220, 3) := by decide +kernel
theorem dX4_flows_15 : decode cX4_flows 15 = .ok (.iload_n 1, 1) := by decide +kernel
theorem dX4_flows_16 : decode cX4_flows 16 = .ok (.iload_n 3, 1) := by decide +kernel
theorem dX4_flows_17 : decode cX4_flows 17 = .ok (.iconst 1, 1) := by decide +kernel
theorem dX4_flows_18 : decode cX4_flows 18 = .ok (.iadd, 1) := by decide +kernel
theorem dX4_flows_19 : decode cX4_flows 19 = .ok (.if_icmp .ne 7, 3) := by decide +kernel
theorem dX4_flows_22 : decode cX4_flows 22 = .ok (.iconst 0, 1) := by decide +kernel
theorem dX4_flows_23 : decode cX4_flows 23 = .ok (.goto 9, 3) := by decide +kernel
theorem dX4_flows_26 : decode cX4_flows 26 = .ok (.aload_n 0, 1) := by decide +kernel
theorem dX4_flows_27 : decode cX4_flows 27 = .ok (.getfield 26, 3) := by decide +kernel
theorem dX4_flows_30 : decode cX4_flows 30 = .ok (.iload_n 3, 1) := by decide +kernel
theorem dX4_flows_31 : decode cX4_flows 31 = .ok (.iaload, 1) := by decide +kernel
theorem dX4_flows_32 : decode cX4_flows 32 = .ok (.istore 4, 2) := by decide +kernel
theorem dX4_flows_34 : decode cX4_flows 34 = .ok (.iload_n 2, 1) := by decide +kernel
theorem dX4_flows_35 : decode cX4_flows 35 = .ok (.iload 4, 2) := by decide +kernel
theorem dX4_flows_37 : decode cX4_flows 37 = .ok (.imul, 1) := by decide +kernel
theorem dX4_flows_38 : decode cX4_flows 38 = .ok (.iconst 4, 1) := by decide +kernel
theorem dX4_flows_39 : decode cX4_flows 39 = .ok (.idiv, 1) := by decide +kernel
theorem dX4_flows_40 : decode cX4_flows 40 = .ok (.istore 5, 2) := by decide +kernel
theorem dX4_flows_42 : decode cX4_flows 42 = .ok (.iload 5, 2) := by decide +kernel
theorem dX4_flows_44 : decode cX4_flows 44 = .ok (.aload_n 0, 1) := by decide +kernel
theorem dX4_flows_45 : decode cX4_flows 45 = .ok (.iload_n 1, 1) := by decide +kernel
theorem dX4_flows_46 : decode cX4_flows 46 = .ok (.iload_n 3, 1) := by decide +kernel
theorem dX4_flows_47 : decode cX4_flows 47 = .ok (.invokevirtual 105, 3) := by decide +kernel
theorem dX4_flows_50 : decode cX4_flows 50 = .ok (.if_icmp .le 12, 3) := by decide +kernel
theorem dX4_flows_53 : decode cX4_flows 53 = .ok (.aload_n 0, 1) := by decide +kernel
theorem dX4_flows_54 : decode cX4_flows 54 = .ok (.iload_n 1, 1) := by decide +kernel
theorem dX4_flows_55 : decode cX4_flows 55 = .ok (.iload_n 3, 1) := by decide +kernel
theorem dX4_flows_56 : decode cX4_flows 56 = .ok (.invokevirtual 105, 3) := by decide +kernel
theorem dX4_flows_59 : decode cX4_flows 59 = .ok (.goto 5, 3) := by decide +kernel
theorem dX4_flows_62 : decode cX4_flows 62 = .ok (.iload 5, 2) := by decide +kernel
theorem dX4_flows_64 : decode cX4_flows 64 = .ok (.istore 5, 2) := by decide +kernel
theorem dX4_flows_66 : decode cX4_flows 66 = .ok (.aload_n 0, 1) := by decide +kernel
theorem dX4_flows_67 : decode cX4_flows 67 = .ok (.getfield 35, 3) := by decide +kernel
theorem dX4_flows_70 : decode cX4_flows 70 = .ok (.bipush 6, 2) := by decide +kernel
theorem dX4_flows_72 : decode cX4_flows 72 = .ok (.iload_n 1, 1) := by decide +kernel
theorem dX4_flows_73 : decode cX4_flows 73 = .ok (.imul, 1) := by decide +kernel
theorem dX4_flows_74 : decode cX4_flows 74 = .ok (.iload_n 3, 1) := by decide +kernel
theorem dX4_flows_75 : decode cX4_flows 75 = .ok (.iadd, 1) := by decide +kernel
theorem dX4_flows_76 : decode cX4_flows 76 = .ok (.iload 5, 2) := by decide +kernel
theorem dX4_flows_78 : decode cX4_flows 78 = .ok (.iastore, 1) := by decide +kernel
theorem dX4_flows_79 : decode cX4_flows 79 = .ok (.aload_n 0, 1) := by decide +kernel
theorem dX4_flows_80 : decode cX4_flows 80 = .ok (.getfield 32, 3) := by decide +kernel
theorem dX4_flows_83 : decode cX4_flows 83 = .ok (.bipush 6, 2) := by decide +kernel
theorem dX4_flows_85 : decode cX4_flows 85 = .ok (.iload_n 1, 1) := by decide +kernel
theorem dX4_flows_86 : decode cX4_flows 86 = .ok (.imul, 1) := by decide +kernel
theorem dX4_flows_87 : decode cX4_flows 87 = .ok (.iload_n 3, 1) := by decide +kernel
theorem dX4_flows_88 : decode cX4_flows 88 = .ok (.iadd, 1) := by decide +kernel
theorem dX4_flows_89 : decode cX4_flows 89 = .ok (.dup2, 1) := by decide +kernel
theorem dX4_flows_90 : decode cX4_flows 90 = .ok (.iaload, 1) := by decide +kernel
theorem dX4_flows_91 : decode cX4_flows 91 = .ok (.iload 5, 2) := by decide +kernel
theorem dX4_flows_93 : decode cX4_flows 93 = .ok (.iadd, 1) := by decide +kernel
theorem dX4_flows_94 : decode cX4_flows 94 = .ok (.iastore, 1) := by decide +kernel
theorem dX4_flows_95 : decode cX4_flows 95 = .ok (.iload_n 2, 1) := by decide +kernel
theorem dX4_flows_96 : decode cX4_flows 96 = .ok (.iload 5, 2) := by decide +kernel
theorem dX4_flows_98 : decode cX4_flows 98 = .ok (.isub, 1) := by decide +kernel
theorem dX4_flows_99 : decode cX4_flows 99 = .ok (.istore_n 2, 1) := by decide +kernel
theorem dX4_flows_100 : decode cX4_flows 100 = .ok (.iconst 0, 1) := by decide +kernel
theorem dX4_flows_101 : decode cX4_flows 101 = .ok (.istore 6, 2) := by decide +kernel
theorem dX4_flows_103 : decode cX4_flows 103 = .ok (.iload 6, 2) := by decide +kernel
theorem dX4_flows_105 : decode cX4_flows 105 = .ok (.aload_n 0, 1) := by decide +kernel
theorem dX4_flows_106 : decode cX4_flows 106 = .ok (.getfield 23, 3) := by decide +kernel
theorem dX4_flows_109 : decode cX4_flows 109 = .ok (.iload_n 3, 1) := by decide +kernel
theorem dX4_flows_110 : decode cX4_flows 110 = .ok (.iaload, 1) := by decide +kernel
theorem dX4_flows_111 : decode cX4_flows 111 = .ok (.if_icmp .ge 115, 3) := by decide +kernel
theorem dX4_flows_114 : decode cX4_flows 114 = .ok (.iload 5, 2) := by decide +kernel
theorem dX4_flows_116 : decode cX4_flows 116 = .ok (.aload_n 0, 1) := by decide +kernel
theorem dX4_flows_117 : decode cX4_flows 117 = .ok (.getfield 23, 3) := by decide +kernel
theorem dX4_flows_120 : decode cX4_flows 120 = .ok (.iload_n 3, 1) := by decide +kernel
theorem dX4_flows_121 : decode cX4_flows 121 = .ok (.iaload, 1) := by decide +kernel
theorem dX4_flows_122 : decode cX4_flows 122 = .ok (.idiv, 1) := by decide +kernel
theorem dX4_flows_123 : decode cX4_flows 123 = .ok (.iload 6, 2) := by decide +kernel
theorem dX4_flows_125 : decode cX4_flows 125 = .ok (.iload 5, 2) := by decide +kernel
theorem dX4_flows_127 : decode cX4_flows 127 = .ok (.aload_n 0, 1) := by decide +kernel
theorem dX4_flows_128 : decode cX4_flows 128 = .ok (.getfield 23, 3) := by decide +kernel
theorem dX4_flows_131 : decode cX4_flows 131 = .ok (.iload_n 3, 1) := by decide +kernel
theorem dX4_flows_132 : decode cX4_flows 132 = .ok (.iaload, 1) := by decide +kernel
theorem dX4_flows_133 : decode cX4_flows 133 = .ok (.irem, 1) := by decide +kernel
theorem dX4_flows_134 : decode cX4_flows 134 = .ok (.if_icmp .ge 7, 3) := by decide +kernel
theorem dX4_flows_137 : decode cX4_flows 137 = .ok (.iconst 1, 1) := by decide +kernel
theorem dX4_flows_138 : decode cX4_flows 138 = .ok (.goto 4, 3) := by decide +kernel
theorem dX4_flows_141 : decode cX4_flows 141 = .ok (.iconst 0, 1) := by decide +kernel
theorem dX4_flows_142 : decode cX4_flows 142 = .ok (.iadd, 1) := by decide +kernel
theorem dX4_flows_143 : decode cX4_flows 143 = .ok (.istore 7, 2) := by decide +kernel
theorem dX4_flows_145 : decode cX4_flows 145 = .ok (.bipush 24, 2) := by decide +kernel
theorem dX4_flows_147 : decode cX4_flows 147 = .ok (.iload_n 1, 1) := by decide +kernel
theorem dX4_flows_148 : decode cX4_flows 148 = .ok (.imul, 1) := by decide +kernel
theorem dX4_flows_149 : decode cX4_flows 149 = .ok (.iconst 4, 1) := by decide +kernel
theorem dX4_flows_150 : decode cX4_flows 150 = .ok (.iload_n 3, 1) := by decide +kernel
theorem dX4_flows_151 : decode cX4_flows 151 = .ok (.imul, 1) := by decide +kernel
theorem dX4_flows_152 : decode cX4_flows 152 = .ok (.iadd, 1) := by decide +kernel
theorem dX4_flows_153 : decode cX4_flows 153 = .ok (.iload 6, 2) := by decide +kernel
theorem dX4_flows_155 : decode cX4_flows 155 = .ok (.iadd, 1) := by decide +kernel
theorem dX4_flows_156 : decode cX4_flows 156 = .ok (.istore 8, 2) := by decide +kernel
theorem dX4_flows_158 : decode cX4_flows 158 = .ok (.aload_n 0, 1) := by decide +kernel
theorem dX4_flows_159 : decode cX4_flows 159 = .ok (.getfield 41, 3) := by decide +kernel
theorem dX4_flows_162 : decode cX4_flows 162 = .ok (.iload 8, 2) := by decide +kernel
theorem dX4_flows_164 : decode cX4_flows 164 = .ok (.iload 7, 2) := by decide +kernel
theorem dX4_flows_166 : decode cX4_flows 166 = .ok (.iastore, 1) := by decide +kernel
theorem dX4_flows_167 : decode cX4_flows 167 = .ok (.iload 7, 2) := by decide +kernel
theorem dX4_flows_169 : decode cX4_flows 169 = .ok (.iconst 3, 1) := by decide +kernel
theorem dX4_flows_170 : decode cX4_flows 170 = .ok (.if_icmp .ge 8, 3) := by decide +kernel
theorem dX4_flows_173 : decode cX4_flows 173 = .ok (.iload 7, 2) := by decide +kernel
theorem dX4_flows_175 : decode cX4_flows 175 = .ok (.goto 4, 3) := by decide +kernel
theorem dX4_flows_178 : decode cX4_flows 178 = .ok (.iconst 3, 1) := by decide +kernel
theorem dX4_flows_179 : decode cX4_flows 179 = .ok (.istore 9, 2) := by decide +kernel
theorem dX4_flows_181 : decode cX4_flows 181 = .ok (.aload_n 0, 1) := by decide +kernel
theorem dX4_flows_182 : decode cX4_flows 182 = .ok (.getfield 47, 3) := by decide +kernel
theorem dX4_flows_185 : decode cX4_flows 185 = .ok (.iload 8, 2) := by decide +kernel
theorem dX4_flows_187 : decode cX4_flows 187 = .ok (.dup2, 1) := by decide +kernel
theorem dX4_flows_188 : decode cX4_flows 188 = .ok (.iaload, 1) := by decide +kernel
theorem dX4_flows_189 : decode cX4_flows 189 = .ok (.iload 9, 2) := by decide +kernel
theorem dX4_flows_191 : decode cX4_flows 191 = .ok (.iadd, 1) := by decide +kernel
theorem dX4_flows_192 : decode cX4_flows 192 = .ok (.iastore, 1) := by decide +kernel
theorem dX4_flows_193 : decode cX4_flows 193 = .ok (.iload_n 2, 1) := by decide +kernel
theorem dX4_flows_194 : decode cX4_flows 194 = .ok (.iload 7, 2) := by decide +kernel
theorem dX4_flows_196 : decode cX4_flows 196 = .ok (.iload 9, 2) := by decide +kernel
theorem dX4_flows_198 : decode cX4_flows 198 = .ok (.isub, 1) := by decide +kernel
theorem dX4_flows_199 : decode cX4_flows 199 = .ok (.iadd, 1) := by decide +kernel
theorem dX4_flows_200 : decode cX4_flows 200 = .ok (.istore_n 2, 1) := by decide +kernel
theorem dX4_flows_201 : decode cX4_flows 201 = .ok (.aload_n 0, 1) := by decide +kernel
theorem dX4_flows_202 : decode cX4_flows 202 = .ok (.iload 8, 2) := by decide +kernel
theorem dX4_flows_204 : decode cX4_flows 204 = .ok (.iload 7, 2) := by decide +kernel
theorem dX4_flows_206 : decode cX4_flows 206 = .ok (.aload_n 0, 1) := by decide +kernel
theorem dX4_flows_207 : decode cX4_flows 207 = .ok (.getfield 29, 3) := by decide +kernel
theorem dX4_flows_210 : decode cX4_flows 210 = .ok (.iconst 4, 1) := by decide +kernel
theorem dX4_flows_211 : decode cX4_flows 211 = .ok (.iload_n 3, 1) := by decide +kernel
theorem dX4_flows_212 : decode cX4_flows 212 = .ok (.imul, 1) := by decide +kernel
theorem dX4_flows_213 : decode cX4_flows 213 = .ok (.iload 6, 2) := by decide +kernel
theorem dX4_flows_215 : decode cX4_flows 215 = .ok (.iadd, 1) := by decide +kernel
theorem dX4_flows_216 : decode cX4_flows 216 = .ok (.iaload, 1) := by decide +kernel
theorem dX4_flows_217 : decode cX4_flows 217 = .ok (.invokevirtual 109, 3) := by decide +kernel
theorem dX4_flows_220 : decode cX4_flows 220 = .ok (.iinc 6 1, 3) := by decide +kernel
theorem dX4_flows_223 : decode cX4_flows 223 = .ok (.goto (-120), 3) := by decide +kernel
theorem dX4_flows_226 : decode cX4_flows 226 = .ok (.iinc 3 1, 3) := by decide +kernel
theorem dX4_flows_229 : decode cX4_flows 229 = .ok (.goto (-222), 3) := by decide +kernel
theorem dX4_flows_232 : decode cX4_flows 232 = .ok (.aload_n 0, 1) := by decide +kernel
theorem dX4_flows_233 : decode cX4_flows 233 = .ok (.getfield 53, 3) := by decide +kernel
theorem dX4_flows_236 : decode cX4_flows 236 = .ok (.iload_n 1, 1) := by decide +kernel
theorem dX4_flows_237 : decode cX4_flows 237 = .ok (.dup2, 1) := by decide +kernel
theorem dX4_flows_238 : decode cX4_flows 238 = .ok (.iaload, 1) := by decide +kernel
theorem dX4_flows_239 : decode cX4_flows 239 = .ok (.iload_n 2, 1) := by decide +kernel
theorem dX4_flows_240 : decode cX4_flows 240 = .ok (.iadd, 1) := by decide +kernel
theorem dX4_flows_241 : decode cX4_flows 241 = .ok (.iastore, 1) := by decide +kernel
theorem dX4_flows_242 : decode cX4_flows 242 = .ok (.aload_n 0, 1) := by decide +kernel
theorem dX4_flows_243 : decode cX4_flows 243 = .ok (.getfield 56, 3) := by decide +kernel
theorem dX4_flows_246 : decode cX4_flows 246 = .ok (.iload_n 1, 1) := by decide +kernel
theorem dX4_flows_247 : decode cX4_flows 247 = .ok (.iload_n 2, 1) := by decide +kernel
theorem dX4_flows_248 : decode cX4_flows 248 = .ok (.iastore, 1) := by decide +kernel
theorem dX4_flows_249 : decode cX4_flows 249 = .ok (.aload_n 0, 1) := by decide +kernel
theorem dX4_flows_250 : decode cX4_flows 250 = .ok (.getfield 113, 3) := by decide +kernel
theorem dX4_flows_253 : decode cX4_flows 253 = .ok (.bipush 24, 2) := by decide +kernel
theorem dX4_flows_255 : decode cX4_flows 255 = .ok (.irem, 1) := by decide +kernel
theorem dX4_flows_256 : decode cX4_flows 256 = .ok (.aload_n 0, 1) := by decide +kernel
theorem dX4_flows_257 : decode cX4_flows 257 = .ok (.getfield 99, 3) := by decide +kernel
theorem dX4_flows_260 : decode cX4_flows 260 = .ok (.if_icmp .lt 21, 3) := by decide +kernel
theorem dX4_flows_263 : decode cX4_flows 263 = .ok (.aload_n 0, 1) := by decide +kernel
theorem dX4_flows_264 : decode cX4_flows 264 = .ok (.getfield 113, 3) := by decide +kernel
theorem dX4_flows_267 : decode cX4_flows 267 = .ok (.bipush 24, 2) := by decide +kernel
theorem dX4_flows_269 : decode cX4_flows 269 = .ok (.irem, 1) := by decide +kernel
theorem dX4_flows_270 : decode cX4_flows 270 = .ok (.aload_n 0, 1) := by decide +kernel
theorem dX4_flows_271 : decode cX4_flows 271 = .ok (.getfield 102, 3) := by decide +kernel
theorem dX4_flows_274 : decode cX4_flows 274 = .ok (.if_icmp .ge 7, 3) := by decide +kernel
theorem dX4_flows_277 : decode cX4_flows 277 = .ok (.iconst 1, 1) := by decide +kernel
theorem dX4_flows_278 : decode cX4_flows 278 = .ok (.goto 4, 3) := by decide +kernel
theorem dX4_flows_281 : decode cX4_flows 281 = .ok (.iconst 0, 1) := by decide +kernel
theorem dX4_flows_282 : decode cX4_flows 282 = .ok (.istore_n 3, 1) := by decide +kernel
theorem dX4_flows_283 : decode cX4_flows 283 = .ok (.aload_n 0, 1) := by decide +kernel
theorem dX4_flows_284 : decode cX4_flows 284 = .ok (.getfield 7, 3) := by decide +kernel
theorem dX4_flows_287 : decode cX4_flows 287 = .ok (.sipush 400, 3) := by decide +kernel
theorem dX4_flows_290 : decode cX4_flows 290 = .ok (.if_icmp .gt 19, 3) := by decide +kernel
theorem dX4_flows_293 : decode cX4_flows 293 = .ok (.iload_n 3, 1) := by decide +kernel
theorem dX4_flows_294 : decode cX4_flows 294 = .ok (.ifCond .eq 15, 3) := by decide +kernel
theorem dX4_flows_297 : decode cX4_flows 297 = .ok (.iload_n 2, 1) := by decide +kernel
theorem dX4_flows_298 : decode cX4_flows 298 = .ok (.aload_n 0, 1) := by decide +kernel
theorem dX4_flows_299 : decode cX4_flows 299 = .ok (.getfield 96, 3) := by decide +kernel
theorem dX4_flows_302 : decode cX4_flows 302 = .ok (.if_icmp .ge 7, 3) := by decide +kernel
theorem dX4_flows_305 : decode cX4_flows 305 = .ok (.iconst 1, 1) := by decide +kernel
theorem dX4_flows_306 : decode cX4_flows 306 = .ok (.goto 4, 3) := by decide +kernel
theorem dX4_flows_309 : decode cX4_flows 309 = .ok (.iconst 0, 1) := by decide +kernel
theorem dX4_flows_310 : decode cX4_flows 310 = .ok (.istore 4, 2) := by decide +kernel
theorem dX4_flows_312 : decode cX4_flows 312 = .ok (.aload_n 0, 1) := by decide +kernel
theorem dX4_flows_313 : decode cX4_flows 313 = .ok (.getfield 59, 3) := by decide +kernel
theorem dX4_flows_316 : decode cX4_flows 316 = .ok (.iload_n 1, 1) := by decide +kernel
theorem dX4_flows_317 : decode cX4_flows 317 = .ok (.dup2, 1) := by decide +kernel
theorem dX4_flows_318 : decode cX4_flows 318 = .ok (.iaload, 1) := by decide +kernel
theorem dX4_flows_319 : decode cX4_flows 319 = .ok (.iload 4, 2) := by decide +kernel
theorem dX4_flows_321 : decode cX4_flows 321 = .ok (.ifCond .eq 7, 3) := by decide +kernel
theorem dX4_flows_324 : decode cX4_flows 324 = .ok (.iconst 1, 1) := by decide +kernel
theorem dX4_flows_325 : decode cX4_flows 325 = .ok (.goto 4, 3) := by decide +kernel
theorem dX4_flows_328 : decode cX4_flows 328 = .ok (.iconst 0, 1) := by decide +kernel
theorem dX4_flows_329 : decode cX4_flows 329 = .ok (.iadd, 1) := by decide +kernel
theorem dX4_flows_330 : decode cX4_flows 330 = .ok (.iastore, 1) := by decide +kernel
theorem dX4_flows_331 : decode cX4_flows 331 = .ok (.return_, 1) := by decide +kernel
theorem dX4_grows_0 : decode cX4_grows 0 = .ok (.iload_n 2, 1) := by decide +kernel
theorem dX4_grows_1 : decode cX4_grows 1 = .ok (.ifCond .le 7, 3) := by decide +kernel
theorem dX4_grows_4 : decode cX4_grows 4 = .ok (.iconst 1, 1) := by decide +kernel
theorem dX4_grows_5 : decode cX4_grows 5 = .ok (.goto 4, 3) := by decide +kernel
theorem dX4_grows_8 : decode cX4_grows 8 = .ok (.iconst 0, 1) := by decide +kernel
theorem dX4_grows_9 : decode cX4_grows 9 = .ok (.istore 4, 2) := by decide +kernel
theorem dX4_grows_11 : decode cX4_grows 11 = .ok (.aload_n 0, 1) := by decide +kernel
theorem dX4_grows_12 : decode cX4_grows 12 = .ok (.getfield 44, 3) := by decide +kernel
theorem dX4_grows_15 : decode cX4_grows 15 = .ok (.iload_n 1, 1) := by decide +kernel
theorem dX4_grows_16 : decode cX4_grows 16 = .ok (.dup2, 1) := by decide +kernel
theorem dX4_grows_17 : decode cX4_grows 17 = .ok (.iaload, 1) := by decide +kernel
theorem dX4_grows_18 : decode cX4_grows 18 = .ok (.iload 4, 2) := by decide +kernel
theorem dX4_grows_20 : decode cX4_grows 20 = .ok (.ifCond .eq 7, 3) := by decide +kernel
theorem dX4_grows_23 : decode cX4_grows 23 = .ok (.iconst 1, 1) := by decide +kernel
theorem dX4_grows_24 : decode cX4_grows 24 = .ok (.goto 4, 3) := by decide +kernel
theorem dX4_grows_27 : decode cX4_grows 27 = .ok (.iconst 0, 1) := by decide +kernel
theorem dX4_grows_28 : decode cX4_grows 28 = .ok (.iadd, 1) := by decide +kernel
theorem dX4_grows_29 : decode cX4_grows 29 = .ok (.iastore, 1) := by decide +kernel
theorem dX4_grows_30 : decode cX4_grows 30 = .ok (.iload 4, 2) := by decide +kernel
theorem dX4_grows_32 : decode cX4_grows 32 = .ok (.ifCond .eq 15, 3) := by decide +kernel
theorem dX4_grows_35 : decode cX4_grows 35 = .ok (.aload_n 0, 1) := by decide +kernel
theorem dX4_grows_36 : decode cX4_grows 36 = .ok (.getfield 13, 3) := by decide +kernel
theorem dX4_grows_39 : decode cX4_grows 39 = .ok (.iconst 4, 1) := by decide +kernel
theorem dX4_grows_40 : decode cX4_grows 40 = .ok (.if_icmp .ge 7, 3) := by decide +kernel
theorem dX4_grows_43 : decode cX4_grows 43 = .ok (.iconst 4, 1) := by decide +kernel
theorem dX4_grows_44 : decode cX4_grows 44 = .ok (.goto 7, 3) := by decide +kernel
theorem dX4_grows_47 : decode cX4_grows 47 = .ok (.aload_n 0, 1) := by decide +kernel
theorem dX4_grows_48 : decode cX4_grows 48 = .ok (.getfield 13, 3) := by decide +kernel
theorem dX4_grows_51 : decode cX4_grows 51 = .ok (.istore 5, 2) := by decide +kernel
theorem dX4_grows_53 : decode cX4_grows 53 = .ok (.iload 5, 2) := by decide +kernel
theorem dX4_grows_55 : decode cX4_grows 55 = .ok (.iconst 2, 1) := by decide +kernel
theorem dX4_grows_56 : decode cX4_grows 56 = .ok (.if_icmp .le 19, 3) := by decide +kernel
theorem dX4_grows_59 : decode cX4_grows 59 = .ok (.aload_n 0, 1) := by decide +kernel
theorem dX4_grows_60 : decode cX4_grows 60 = .ok (.getfield 38, 3) := by decide +kernel
theorem dX4_grows_63 : decode cX4_grows 63 = .ok (.iload_n 1, 1) := by decide +kernel
theorem dX4_grows_64 : decode cX4_grows 64 = .ok (.dup2, 1) := by decide +kernel
theorem dX4_grows_65 : decode cX4_grows 65 = .ok (.iaload, 1) := by decide +kernel
theorem dX4_grows_66 : decode cX4_grows 66 = .ok (.iload 5, 2) := by decide +kernel
theorem dX4_grows_68 : decode cX4_grows 68 = .ok (.iconst 2, 1) := by decide +kernel
theorem dX4_grows_69 : decode cX4_grows 69 = .ok (.isub, 1) := by decide +kernel
theorem dX4_grows_70 : decode cX4_grows 70 = .ok (.iadd, 1) := by decide +kernel
theorem dX4_grows_71 : decode cX4_grows 71 = .ok (.iastore, 1) := by decide +kernel
theorem dX4_grows_72 : decode cX4_grows 72 = .ok (.goto 25, 3) := by decide +kernel
theorem dX4_grows_75 : decode cX4_grows 75 = .ok (.iload 4, 2) := by decide +kernel
theorem dX4_grows_77 : decode cX4_grows 77 = .ok (.ifCond .ne 20, 3) := by decide +kernel
theorem dX4_grows_80 : decode cX4_grows 80 = .ok (.aload_n 0, 1) := by decide +kernel
theorem dX4_grows_81 : decode cX4_grows 81 = .ok (.getfield 13, 3) := by decide +kernel
theorem dX4_grows_84 : decode cX4_grows 84 = .ok (.ifCond .ge 13, 3) := by decide +kernel
theorem dX4_grows_87 : decode cX4_grows 87 = .ok (.aload_n 0, 1) := by decide +kernel
theorem dX4_grows_88 : decode cX4_grows 88 = .ok (.getfield 38, 3) := by decide +kernel
theorem dX4_grows_91 : decode cX4_grows 91 = .ok (.iload_n 1, 1) := by decide +kernel
theorem dX4_grows_92 : decode cX4_grows 92 = .ok (.dup2, 1) := by decide +kernel
theorem dX4_grows_93 : decode cX4_grows 93 = .ok (.iaload, 1) := by decide +kernel
theorem dX4_grows_94 : decode cX4_grows 94 = .ok (.iconst 1, 1) := by decide +kernel
theorem dX4_grows_95 : decode cX4_grows 95 = .ok (.isub, 1) := by decide +kernel
theorem dX4_grows_96 : decode cX4_grows 96 = .ok (.iastore, 1) := by decide +kernel
theorem dX4_grows_97 : decode cX4_grows 97 = .ok (.aload_n 0, 1) := by decide +kernel
theorem dX4_grows_98 : decode cX4_grows 98 = .ok (.getfield 38, 3) := by decide +kernel
theorem dX4_grows_101 : decode cX4_grows 101 = .ok (.iload_n 1, 1) := by decide +kernel
theorem dX4_grows_102 : decode cX4_grows 102 = .ok (.aload_n 0, 1) := by decide +kernel
theorem dX4_grows_103 : decode cX4_grows 103 = .ok (.getfield 38, 3) := by decide +kernel
theorem dX4_grows_106 : decode cX4_grows 106 = .ok (.iload_n 1, 1) := by decide +kernel
theorem dX4_grows_107 : decode cX4_grows 107 = .ok (.iaload, 1) := by decide +kernel
theorem dX4_grows_108 : decode cX4_grows 108 = .ok (.ifCond .ge 7, 3) := by decide +kernel
theorem dX4_grows_111 : decode cX4_grows 111 = .ok (.iconst 0, 1) := by decide +kernel
theorem dX4_grows_112 : decode cX4_grows 112 = .ok (.goto 27, 3) := by decide +kernel
theorem dX4_grows_115 : decode cX4_grows 115 = .ok (.aload_n 0, 1) := by decide +kernel
theorem dX4_grows_116 : decode cX4_grows 116 = .ok (.getfield 38, 3) := by decide +kernel
theorem dX4_grows_119 : decode cX4_grows 119 = .ok (.iload_n 1, 1) := by decide +kernel
theorem dX4_grows_120 : decode cX4_grows 120 = .ok (.iaload, 1) := by decide +kernel
theorem dX4_grows_121 : decode cX4_grows 121 = .ok (.sipush 5000, 3) := by decide +kernel
theorem dX4_grows_124 : decode cX4_grows 124 = .ok (.if_icmp .le 9, 3) := by decide +kernel
theorem dX4_grows_127 : decode cX4_grows 127 = .ok (.sipush 5000, 3) := by decide +kernel
theorem dX4_grows_130 : decode cX4_grows 130 = .ok (.goto 9, 3) := by decide +kernel
theorem dX4_grows_133 : decode cX4_grows 133 = .ok (.aload_n 0, 1) := by decide +kernel
theorem dX4_grows_134 : decode cX4_grows 134 = .ok (.getfield 38, 3) := by decide +kernel
theorem dX4_grows_137 : decode cX4_grows 137 = .ok (.iload_n 1, 1) := by decide +kernel
theorem dX4_grows_138 : decode cX4_grows 138 = .ok (.iaload, 1) := by decide +kernel
theorem dX4_grows_139 : decode cX4_grows 139 = .ok (.iastore, 1) := by decide +kernel
theorem dX4_grows_140 : decode cX4_grows 140 = .ok (.aload_n 0, 1) := by decide +kernel
theorem dX4_grows_141 : decode cX4_grows 141 = .ok (.getfield 113, 3) := by decide +kernel
theorem dX4_grows_144 : decode cX4_grows 144 = .ok (.bipush 24, 2) := by decide +kernel
theorem dX4_grows_146 : decode cX4_grows 146 = .ok (.irem, 1) := by decide +kernel
theorem dX4_grows_147 : decode cX4_grows 147 = .ok (.bipush 6, 2) := by decide +kernel
theorem dX4_grows_149 : decode cX4_grows 149 = .ok (.bipush 17, 2) := by decide +kernel
theorem dX4_grows_151 : decode cX4_grows 151 = .ok (.invokestatic 77, 3) := by decide +kernel
theorem dX4_grows_154 : decode cX4_grows 154 = .ok (.ifCond .eq 47, 3) := by decide +kernel
theorem dX4_grows_157 : decode cX4_grows 157 = .ok (.iload_n 3, 1) := by decide +kernel
theorem dX4_grows_158 : decode cX4_grows 158 = .ok (.aload_n 0, 1) := by decide +kernel
theorem dX4_grows_159 : decode cX4_grows 159 = .ok (.getfield 38, 3) := by decide +kernel
theorem dX4_grows_162 : decode cX4_grows 162 = .ok (.iload_n 1, 1) := by decide +kernel
theorem dX4_grows_163 : decode cX4_grows 163 = .ok (.iaload, 1) := by decide +kernel
theorem dX4_grows_164 : decode cX4_grows 164 = .ok (.if_icmp .ge 7, 3) := by decide +kernel
theorem dX4_grows_167 : decode cX4_grows 167 = .ok (.iload_n 3, 1) := by decide +kernel
theorem dX4_grows_168 : decode cX4_grows 168 = .ok (.goto 9, 3) := by decide +kernel
theorem dX4_grows_171 : decode cX4_grows 171 = .ok (.aload_n 0, 1) := by decide +kernel
theorem dX4_grows_172 : decode cX4_grows 172 = .ok (.getfield 38, 3) := by decide +kernel
theorem dX4_grows_175 : decode cX4_grows 175 = .ok (.iload_n 1, 1) := by decide +kernel
theorem dX4_grows_176 : decode cX4_grows 176 = .ok (.iaload, 1) := by decide +kernel
theorem dX4_grows_177 : decode cX4_grows 177 = .ok (.istore 6, 2) := by decide +kernel
theorem dX4_grows_179 : decode cX4_grows 179 = .ok (.aload_n 0, 1) := by decide +kernel
theorem dX4_grows_180 : decode cX4_grows 180 = .ok (.getfield 38, 3) := by decide +kernel
theorem dX4_grows_183 : decode cX4_grows 183 = .ok (.iload_n 1, 1) := by decide +kernel
theorem dX4_grows_184 : decode cX4_grows 184 = .ok (.dup2, 1) := by decide +kernel
