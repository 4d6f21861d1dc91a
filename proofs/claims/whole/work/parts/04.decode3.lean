theorem dX3_pane_93 : decode cX3_pane 93 = .ok (.aload_n 0, 1) := by decide +kernel
theorem dX3_pane_94 : decode cX3_pane 94 = .ok (.getfield 28, 3) := by decide +kernel
theorem dX3_pane_97 : decode cX3_pane 97 = .ok (.getfield 126, 3) := by decide +kernel
theorem dX3_pane_100 : decode cX3_pane 100 = .ok (.iload 4, 2) := by decide +kernel
theorem dX3_pane_102 : decode cX3_pane 102 = .ok (.iaload, 1) := by decide +kernel
theorem dX3_pane_103 : decode cX3_pane 103 = .ok (.ireturn, 1) := by decide +kernel
theorem dX3_pane_104 : decode cX3_pane 104 = .ok (.aload_n 0, 1) := by decide +kernel
theorem dX3_pane_105 : decode cX3_pane 105 = .ok (.getfield 10, 3) := by decide +kernel
theorem dX3_pane_108 : decode cX3_pane 108 = .ok (.getfield 84, 3) := by decide +kernel
theorem dX3_pane_111 : decode cX3_pane 111 = .ok (.iload 4, 2) := by decide +kernel
theorem dX3_pane_113 : decode cX3_pane 113 = .ok (.iaload, 1) := by decide +kernel
theorem dX3_pane_114 : decode cX3_pane 114 = .ok (.ireturn, 1) := by decide +kernel
theorem dX3_pane_115 : decode cX3_pane 115 = .ok (.aload_n 0, 1) := by decide +kernel
theorem dX3_pane_116 : decode cX3_pane 116 = .ok (.getfield 28, 3) := by decide +kernel
theorem dX3_pane_119 : decode cX3_pane 119 = .ok (.getfield 129, 3) := by decide +kernel
theorem dX3_pane_122 : decode cX3_pane 122 = .ok (.iload 4, 2) := by decide +kernel
theorem dX3_pane_124 : decode cX3_pane 124 = .ok (.iaload, 1) := by decide +kernel
theorem dX3_pane_125 : decode cX3_pane 125 = .ok (.ireturn, 1) := by decide +kernel
theorem dX3_pane_126 : decode cX3_pane 126 = .ok (.iconst (-1), 1) := by decide +kernel
theorem dX3_pane_127 : decode cX3_pane 127 = .ok (.ireturn, 1) := by decide +kernel
theorem dX3_stream_0 : decode cX3_stream 0 = .ok (.iload_n 1, 1) := by decide +kernel
theorem dX3_stream_1 : decode cX3_stream 1 = .ok (.tableswitch 99 0 6 #[43, 51, 59, 67, 75, 83, 91], 43) := by decide +kernel
theorem dX3_stream_44 : decode cX3_stream 44 = .ok (.aload_n 0, 1) := by decide +kernel
theorem dX3_stream_45 : decode cX3_stream 45 = .ok (.getfield 10, 3) := by decide +kernel
theorem dX3_stream_48 : decode cX3_stream 48 = .ok (.getfield 63, 3) := by decide +kernel
theorem dX3_stream_51 : decode cX3_stream 51 = .ok (.ireturn, 1) := by decide +kernel
theorem dX3_stream_52 : decode cX3_stream 52 = .ok (.aload_n 0, 1) := by decide +kernel
theorem dX3_stream_53 : decode cX3_stream 53 = .ok (.getfield 10, 3) := by decide +kernel
theorem dX3_stream_56 : decode cX3_stream 56 = .ok (.getfield 66, 3) := by decide +kernel
theorem dX3_stream_59 : decode cX3_stream 59 = .ok (.ireturn, 1) := by decide +kernel
theorem dX3_stream_60 : decode cX3_stream 60 = .ok (.aload_n 0, 1) := by decide +kernel
theorem dX3_stream_61 : decode cX3_stream 61 = .ok (.getfield 28, 3) := by decide +kernel
theorem dX3_stream_64 : decode cX3_stream 64 = .ok (.getfield 132, 3) := by decide +kernel
theorem dX3_stream_67 : decode cX3_stream 67 = .ok (.ireturn, 1) := by decide +kernel
theorem dX3_stream_68 : decode cX3_stream 68 = .ok (.aload_n 0, 1) := by decide +kernel
theorem dX3_stream_69 : decode cX3_stream 69 = .ok (.getfield 28, 3) := by decide +kernel
theorem dX3_stream_72 : decode cX3_stream 72 = .ok (.getfield 135, 3) := by decide +kernel
theorem dX3_stream_75 : decode cX3_stream 75 = .ok (.ireturn, 1) := by decide +kernel
theorem dX3_stream_76 : decode cX3_stream 76 = .ok (.aload_n 0, 1) := by decide +kernel
theorem dX3_stream_77 : decode cX3_stream 77 = .ok (.getfield 28, 3) := by decide +kernel
theorem dX3_stream_80 : decode cX3_stream 80 = .ok (.getfield 138, 3) := by decide +kernel
theorem dX3_stream_83 : decode cX3_stream 83 = .ok (.ireturn, 1) := by decide +kernel
theorem dX3_stream_84 : decode cX3_stream 84 = .ok (.aload_n 0, 1) := by decide +kernel
theorem dX3_stream_85 : decode cX3_stream 85 = .ok (.getfield 28, 3) := by decide +kernel
theorem dX3_stream_88 : decode cX3_stream 88 = .ok (.getfield 141, 3) := by decide +kernel
theorem dX3_stream_91 : decode cX3_stream 91 = .ok (.ireturn, 1) := by decide +kernel
theorem dX3_stream_92 : decode cX3_stream 92 = .ok (.aload_n 0, 1) := by decide +kernel
theorem dX3_stream_93 : decode cX3_stream 93 = .ok (.getfield 28, 3) := by decide +kernel
theorem dX3_stream_96 : decode cX3_stream 96 = .ok (.getfield 144, 3) := by decide +kernel
theorem dX3_stream_99 : decode cX3_stream 99 = .ok (.ireturn, 1) := by decide +kernel
theorem dX3_stream_100 : decode cX3_stream 100 = .ok (.bipush (-100), 2) := by decide +kernel
theorem dX3_stream_102 : decode cX3_stream 102 = .ok (.ireturn, 1) := by decide +kernel
theorem dX3_broken_0 : decode cX3_broken 0 = .ok (.iload_n 1, 1) := by decide +kernel
theorem dX3_broken_1 : decode cX3_broken 1 = .ok (.iconst (-1), 1) := by decide +kernel
theorem dX3_broken_2 : decode cX3_broken 2 = .ok (.if_icmp .ne 15, 3) := by decide +kernel
theorem dX3_broken_5 : decode cX3_broken 5 = .ok (.iload_n 2, 1) := by decide +kernel
theorem dX3_broken_6 : decode cX3_broken 6 = .ok (.ifCond .ne 11, 3) := by decide +kernel
theorem dX3_broken_9 : decode cX3_broken 9 = .ok (.aload_n 0, 1) := by decide +kernel
theorem dX3_broken_10 : decode cX3_broken 10 = .ok (.getfield 19, 3) := by decide +kernel
theorem dX3_broken_13 : decode cX3_broken 13 = .ok (.getfield 147, 3) := by decide +kernel
theorem dX3_broken_16 : decode cX3_broken 16 = .ok (.ireturn, 1) := by decide +kernel
theorem dX3_broken_17 : decode cX3_broken 17 = .ok (.iload_n 1, 1) := by decide +kernel
theorem dX3_broken_18 : decode cX3_broken 18 = .ok (.ifCond .lt 12, 3) := by decide +kernel
theorem dX3_broken_21 : decode cX3_broken 21 = .ok (.iload_n 2, 1) := by decide +kernel
theorem dX3_broken_22 : decode cX3_broken 22 = .ok (.iconst 0, 1) := by decide +kernel
theorem dX3_broken_23 : decode cX3_broken 23 = .ok (.iconst 2, 1) := by decide +kernel
theorem dX3_broken_24 : decode cX3_broken 24 = .ok (.invokestatic 36, 3) := by decide +kernel
theorem dX3_broken_27 : decode cX3_broken 27 = .ok (.ifCond .ne 5, 3) := by decide +kernel
theorem dX3_broken_30 : decode cX3_broken 30 = .ok (.iconst (-1), 1) := by decide +kernel
theorem dX3_broken_31 : decode cX3_broken 31 = .ok (.ireturn, 1) := by decide +kernel
theorem dX3_broken_32 : decode cX3_broken 32 = .ok (.iload_n 1, 1) := by decide +kernel
theorem dX3_broken_33 : decode cX3_broken 33 = .ok (.aload_n 0, 1) := by decide +kernel
theorem dX3_broken_34 : decode cX3_broken 34 = .ok (.getfield 19, 3) := by decide +kernel
theorem dX3_broken_37 : decode cX3_broken 37 = .ok (.getfield 150, 3) := by decide +kernel
theorem dX3_broken_40 : decode cX3_broken 40 = .ok (.if_icmp .lt 6, 3) := by decide +kernel
theorem dX3_broken_43 : decode cX3_broken 43 = .ok (.bipush (-4), 2) := by decide +kernel
theorem dX3_broken_45 : decode cX3_broken 45 = .ok (.ireturn, 1) := by decide +kernel
theorem dX3_broken_46 : decode cX3_broken 46 = .ok (.iload_n 2, 1) := by decide +kernel
theorem dX3_broken_47 : decode cX3_broken 47 = .ok (.lookupswitch 45 #[(0, 25), (1, 35)], 25) := by decide +kernel
theorem dX3_broken_72 : decode cX3_broken 72 = .ok (.aload_n 0, 1) := by decide +kernel
theorem dX3_broken_73 : decode cX3_broken 73 = .ok (.getfield 19, 3) := by decide +kernel
theorem dX3_broken_76 : decode cX3_broken 76 = .ok (.getfield 153, 3) := by decide +kernel
theorem dX3_broken_79 : decode cX3_broken 79 = .ok (.iload_n 1, 1) := by decide +kernel
theorem dX3_broken_80 : decode cX3_broken 80 = .ok (.iaload, 1) := by decide +kernel
theorem dX3_broken_81 : decode cX3_broken 81 = .ok (.ireturn, 1) := by decide +kernel
theorem dX3_broken_82 : decode cX3_broken 82 = .ok (.aload_n 0, 1) := by decide +kernel
theorem dX3_broken_83 : decode cX3_broken 83 = .ok (.getfield 19, 3) := by decide +kernel
theorem dX3_broken_86 : decode cX3_broken 86 = .ok (.getfield 156, 3) := by decide +kernel
theorem dX3_broken_89 : decode cX3_broken 89 = .ok (.iload_n 1, 1) := by decide +kernel
theorem dX3_broken_90 : decode cX3_broken 90 = .ok (.iaload, 1) := by decide +kernel
theorem dX3_broken_91 : decode cX3_broken 91 = .ok (.ireturn, 1) := by decide +kernel
theorem dX3_broken_92 : decode cX3_broken 92 = .ok (.aload_n 0, 1) := by decide +kernel
theorem dX3_broken_93 : decode cX3_broken 93 = .ok (.getfield 19, 3) := by decide +kernel
theorem dX3_broken_96 : decode cX3_broken 96 = .ok (.getfield 159, 3) := by decide +kernel
theorem dX3_broken_99 : decode cX3_broken 99 = .ok (.iload_n 1, 1) := by decide +kernel
theorem dX3_broken_100 : decode cX3_broken 100 = .ok (.iaload, 1) := by decide +kernel
theorem dX3_broken_101 : decode cX3_broken 101 = .ok (.ireturn, 1) := by decide +kernel
theorem dX3_farm_0 : decode cX3_farm 0 = .ok (.iload_n 1, 1) := by decide +kernel
theorem dX3_farm_1 : decode cX3_farm 1 = .ok (.iconst 0, 1) := by decide +kernel
theorem dX3_farm_2 : decode cX3_farm 2 = .ok (.iconst 3, 1) := by decide +kernel
theorem dX3_farm_3 : decode cX3_farm 3 = .ok (.invokestatic 36, 3) := by decide +kernel
theorem dX3_farm_6 : decode cX3_farm 6 = .ok (.ifCond .ne 5, 3) := by decide +kernel
theorem dX3_farm_9 : decode cX3_farm 9 = .ok (.iconst (-1), 1) := by decide +kernel
theorem dX3_farm_10 : decode cX3_farm 10 = .ok (.ireturn, 1) := by decide +kernel
theorem dX3_farm_11 : decode cX3_farm 11 = .ok (.iload_n 2, 1) := by decide +kernel
theorem dX3_farm_12 : decode cX3_farm 12 = .ok (.tableswitch 90 0 3 #[32, 48, 64, 80], 32) := by decide +kernel
theorem dX3_farm_44 : decode cX3_farm 44 = .ok (.aload_n 0, 1) := by decide +kernel
theorem dX3_farm_45 : decode cX3_farm 45 = .ok (.getfield 28, 3) := by decide +kernel
theorem dX3_farm_48 : decode cX3_farm 48 = .ok (.aload_n 0, 1) := by decide +kernel
theorem dX3_farm_49 : decode cX3_farm 49 = .ok (.getfield 28, 3) := by decide +kernel
theorem dX3_farm_52 : decode cX3_farm 52 = .ok (.getfield 117, 3) := by decide +kernel
theorem dX3_farm_55 : decode cX3_farm 55 = .ok (.iload_n 1, 1) := by decide +kernel
theorem dX3_farm_56 : decode cX3_farm 56 = .ok (.invokevirtual 162, 3) := by decide +kernel
theorem dX3_farm_59 : decode cX3_farm 59 = .ok (.ireturn, 1) := by decide +kernel
theorem dX3_farm_60 : decode cX3_farm 60 = .ok (.aload_n 0, 1) := by decide +kernel
theorem dX3_farm_61 : decode cX3_farm 61 = .ok (.getfield 28, 3) := by decide +kernel
theorem dX3_farm_64 : decode cX3_farm 64 = .ok (.aload_n 0, 1) := by decide +kernel
theorem dX3_farm_65 : decode cX3_farm 65 = .ok (.getfield 28, 3) := by decide +kernel
theorem dX3_farm_68 : decode cX3_farm 68 = .ok (.getfield 129, 3) := by decide +kernel
theorem dX3_farm_71 : decode cX3_farm 71 = .ok (.iload_n 1, 1) := by decide +kernel
theorem dX3_farm_72 : decode cX3_farm 72 = .ok (.invokevirtual 162, 3) := by decide +kernel
theorem dX3_farm_75 : decode cX3_farm 75 = .ok (.ireturn, 1) := by decide +kernel
theorem dX3_farm_76 : decode cX3_farm 76 = .ok (.aload_n 0, 1) := by decide +kernel
theorem dX3_farm_77 : decode cX3_farm 77 = .ok (.getfield 28, 3) := by decide +kernel
theorem dX3_farm_80 : decode cX3_farm 80 = .ok (.aload_n 0, 1) := by decide +kernel
theorem dX3_farm_81 : decode cX3_farm 81 = .ok (.getfield 28, 3) := by decide +kernel
theorem dX3_farm_84 : decode cX3_farm 84 = .ok (.getfield 123, 3) := by decide +kernel
theorem dX3_farm_87 : decode cX3_farm 87 = .ok (.iload_n 1, 1) := by decide +kernel
theorem dX3_farm_88 : decode cX3_farm 88 = .ok (.invokevirtual 162, 3) := by decide +kernel
theorem dX3_farm_91 : decode cX3_farm 91 = .ok (.ireturn, 1) := by decide +kernel
theorem dX3_farm_92 : decode cX3_farm 92 = .ok (.aload_n 0, 1) := by decide +kernel
theorem dX3_farm_93 : decode cX3_farm 93 = .ok (.getfield 19, 3) := by decide +kernel
theorem dX3_farm_96 : decode cX3_farm 96 = .ok (.getfield 166, 3) := by decide +kernel
theorem dX3_farm_99 : decode cX3_farm 99 = .ok (.iload_n 1, 1) := by decide +kernel
theorem dX3_farm_100 : decode cX3_farm 100 = .ok (.iaload, 1) := by decide +kernel
theorem dX3_farm_101 : decode cX3_farm 101 = .ok (.ireturn, 1) := by decide +kernel
theorem dX3_farm_102 : decode cX3_farm 102 = .ok (.iconst (-1), 1) := by decide +kernel
theorem dX3_farm_103 : decode cX3_farm 103 = .ok (.ireturn, 1) := by decide +kernel
theorem dX3_without_0 : decode cX3_without 0 = .ok (.aload_n 0, 1) := by decide +kernel
theorem dX3_without_1 : decode cX3_without 1 = .ok (.getfield 10, 3) := by decide +kernel
theorem dX3_without_4 : decode cX3_without 4 = .ok (.iload_n 1, 1) := by decide +kernel
theorem dX3_without_5 : decode cX3_without 5 = .ok (.invokevirtual 55, 3) := by decide +kernel
theorem dX3_without_8 : decode cX3_without 8 = .ok (.ifCond .eq 12, 3) := by decide +kernel
theorem dX3_without_11 : decode cX3_without 11 = .ok (.iload_n 2, 1) := by decide +kernel
theorem dX3_without_12 : decode cX3_without 12 = .ok (.iconst 0, 1) := by decide +kernel
theorem dX3_without_13 : decode cX3_without 13 = .ok (.iconst 5, 1) := by decide +kernel
theorem dX3_without_14 : decode cX3_without 14 = .ok (.invokestatic 36, 3) := by decide +kernel
theorem dX3_without_17 : decode cX3_without 17 = .ok (.ifCond .ne 5, 3) := by decide +kernel
theorem dX3_without_20 : decode cX3_without 20 = .ok (.iconst (-1), 1) := by decide +kernel
theorem dX3_without_21 : decode cX3_without 21 = .ok (.ireturn, 1) := by decide +kernel
theorem dX3_without_22 : decode cX3_without 22 = .ok (.aload_n 0, 1) := by decide +kernel
theorem dX3_without_23 : decode cX3_without 23 = .ok (.getfield 32, 3) := by decide +kernel
theorem dX3_without_26 : decode cX3_without 26 = .ok (.iload_n 1, 1) := by decide +kernel
theorem dX3_without_27 : decode cX3_without 27 = .ok (.aaload, 1) := by decide +kernel
theorem dX3_without_28 : decode cX3_without 28 = .ok (.astore_n 3, 1) := by decide +kernel
theorem dX3_without_29 : decode cX3_without 29 = .ok (.iload_n 2, 1) := by decide +kernel
theorem dX3_without_30 : decode cX3_without 30 = .ok (.lookupswitch 36 #[(0, 26), (1, 31)], 26) := by decide +kernel
theorem dX3_without_56 : decode cX3_without 56 = .ok (.aload_n 3, 1) := by decide +kernel
theorem dX3_without_57 : decode cX3_without 57 = .ok (.getfield 138, 3) := by decide +kernel
theorem dX3_without_60 : decode cX3_without 60 = .ok (.ireturn, 1) := by decide +kernel
theorem dX3_without_61 : decode cX3_without 61 = .ok (.aload_n 3, 1) := by decide +kernel
theorem dX3_without_62 : decode cX3_without 62 = .ok (.getfield 144, 3) := by decide +kernel
theorem dX3_without_65 : decode cX3_without 65 = .ok (.ireturn, 1) := by decide +kernel
theorem dX3_without_66 : decode cX3_without 66 = .ok (.aload_n 3, 1) := by decide +kernel
theorem dX3_without_67 : decode cX3_without 67 = .ok (.aload_n 3, 1) := by decide +kernel
theorem dX3_without_68 : decode cX3_without 68 = .ok (.getfield 117, 3) := by decide +kernel
theorem dX3_without_71 : decode cX3_without 71 = .ok (.iload_n 2, 1) := by decide +kernel
theorem dX3_without_72 : decode cX3_without 72 = .ok (.iconst 2, 1) := by decide +kernel
theorem dX3_without_73 : decode cX3_without 73 = .ok (.isub, 1) := by decide +kernel
theorem dX3_without_74 : decode cX3_without 74 = .ok (.invokevirtual 162, 3) := by decide +kernel
theorem dX3_without_77 : decode cX3_without 77 = .ok (.ireturn, 1) := by decide +kernel
theorem dX3_count_0 : decode cX3_count 0 = .ok (.iload_n 1, 1) := by decide +kernel
theorem dX3_count_1 : decode cX3_count 1 = .ok (.tableswitch 45 0 2 #[27, 35, 40], 27) := by decide +kernel
theorem dX3_count_28 : decode cX3_count 28 = .ok (.aload_n 0, 1) := by decide +kernel
theorem dX3_count_29 : decode cX3_count 29 = .ok (.getfield 10, 3) := by decide +kernel
theorem dX3_count_32 : decode cX3_count 32 = .ok (.getfield 40, 3) := by decide +kernel
theorem dX3_count_35 : decode cX3_count 35 = .ok (.ireturn, 1) := by decide +kernel
theorem dX3_count_36 : decode cX3_count 36 = .ok (.aload_n 0, 1) := by decide +kernel
theorem dX3_count_37 : decode cX3_count 37 = .ok (.getfield 96, 3) := by decide +kernel
theorem dX3_count_40 : decode cX3_count 40 = .ok (.ireturn, 1) := by decide +kernel
theorem dX3_count_41 : decode cX3_count 41 = .ok (.aload_n 0, 1) := by decide +kernel
theorem dX3_count_42 : decode cX3_count 42 = .ok (.getfield 48, 3) := by decide +kernel
theorem dX3_count_45 : decode cX3_count 45 = .ok (.ireturn, 1) := by decide +kernel
theorem dX3_count_46 : decode cX3_count 46 = .ok (.iconst (-1), 1) := by decide +kernel
theorem dX3_count_47 : decode cX3_count 47 = .ok (.ireturn, 1) := by decide +kernel
theorem dX3_isWithin_0 : decode cX3_isWithin 0 = .ok (.iload_n 0, 1) := by decide +kernel
theorem dX3_isWithin_1 : decode cX3_isWithin 1 = .ok (.iload_n 1, 1) := by decide +kernel
theorem dX3_isWithin_2 : decode cX3_isWithin 2 = .ok (.if_icmp .lt 12, 3) := by decide +kernel
theorem dX3_isWithin_5 : decode cX3_isWithin 5 = .ok (.iload_n 0, 1) := by decide +kernel
theorem dX3_isWithin_6 : decode cX3_isWithin 6 = .ok (.iload_n 2, 1) := by decide +kernel
theorem dX3_isWithin_7 : decode cX3_isWithin 7 = .ok (.if_icmp .gt 7, 3) := by decide +kernel
theorem dX3_isWithin_10 : decode cX3_isWithin 10 = .ok (.iconst 1, 1) := by decide +kernel
theorem dX3_isWithin_11 : decode cX3_isWithin 11 = .ok (.goto 4, 3) := by decide +kernel
theorem dX3_isWithin_14 : decode cX3_isWithin 14 = .ok (.iconst 0, 1) := by decide +kernel
theorem dX3_isWithin_15 : decode cX3_isWithin 15 = .ok (.ireturn, 1) := by decide +kernel
theorem dX3_placeOf_0 : decode cX3_placeOf 0 = .ok (.iload_n 0, 1) := by decide +kernel
theorem dX3_placeOf_1 : decode cX3_placeOf 1 = .ok (.iconst 4, 1) := by decide +kernel
theorem dX3_placeOf_2 : decode cX3_placeOf 2 = .ok (.imul, 1) := by decide +kernel
theorem dX3_placeOf_3 : decode cX3_placeOf 3 = .ok (.iload_n 1, 1) := by decide +kernel
theorem dX3_placeOf_4 : decode cX3_placeOf 4 = .ok (.iadd, 1) := by decide +kernel
theorem dX3_placeOf_5 : decode cX3_placeOf 5 = .ok (.ireturn, 1) := by decide +kernel
theorem dX3_hasAllDeeds_0 : decode cX3_hasAllDeeds 0 = .ok (.aload_n 0, 1) := by decide +kernel
theorem dX3_hasAllDeeds_1 : decode cX3_hasAllDeeds 1 = .ok (.getfield 48, 3) := by decide +kernel
theorem dX3_hasAllDeeds_4 : decode cX3_hasAllDeeds 4 = .ok (.bipush 90, 2) := by decide +kernel
theorem dX3_hasAllDeeds_6 : decode cX3_hasAllDeeds 6 = .ok (.if_icmp .lt 7, 3) := by decide +kernel
theorem dX3_hasAllDeeds_9 : decode cX3_hasAllDeeds 9 = .ok (.iconst 1, 1) := by decide +kernel
theorem dX3_hasAllDeeds_10 : decode cX3_hasAllDeeds 10 = .ok (.goto 4, 3) := by decide +kernel
theorem dX3_hasAllDeeds_13 : decode cX3_hasAllDeeds 13 = .ok (.iconst 0, 1) := by decide +kernel
theorem dX3_hasAllDeeds_14 : decode cX3_hasAllDeeds 14 = .ok (.ireturn, 1) := by decide +kernel
theorem dX3_advance_0 : decode cX3_advance 0 = .ok (.aload_n 0, 1) := by decide +kernel
theorem dX3_advance_1 : decode cX3_advance 1 = .ok (.getfield 28, 3) := by decide +kernel
theorem dX3_advance_4 : decode cX3_advance 4 = .ok (.aload_n 0, 1) := by decide +kernel
theorem dX3_advance_5 : decode cX3_advance 5 = .ok (.getfield 96, 3) := by decide +kernel
theorem dX3_advance_8 : decode cX3_advance 8 = .ok (.invokevirtual 169, 3) := by decide +kernel
theorem dX3_advance_11 : decode cX3_advance 11 = .ok (.aload_n 0, 1) := by decide +kernel
theorem dX3_advance_12 : decode cX3_advance 12 = .ok (.invokevirtual 173, 3) := by decide +kernel
theorem dX3_advance_15 : decode cX3_advance 15 = .ok (.iconst 0, 1) := by decide +kernel
theorem dX3_advance_16 : decode cX3_advance 16 = .ok (.istore_n 1, 1) := by decide +kernel
theorem dX3_advance_17 : decode cX3_advance 17 = .ok (.iload_n 1, 1) := by decide +kernel
theorem dX3_advance_18 : decode cX3_advance 18 = .ok (.bipush 6, 2) := by decide +kernel
theorem dX3_advance_20 : decode cX3_advance 20 = .ok (.if_icmp .ge 22, 3) := by decide +kernel
theorem dX3_advance_23 : decode cX3_advance 23 = .ok (.aload_n 0, 1) := by decide +kernel
theorem dX3_advance_24 : decode cX3_advance 24 = .ok (.getfield 32, 3) := by decide +kernel
theorem dX3_advance_27 : decode cX3_advance 27 = .ok (.iload_n 1, 1) := by decide +kernel
theorem dX3_advance_28 : decode cX3_advance 28 = .ok (.aaload, 1) := by decide +kernel
theorem dX3_advance_29 : decode cX3_advance 29 = .ok (.aload_n 0, 1) := by decide +kernel
theorem dX3_advance_30 : decode cX3_advance 30 = .ok (.getfield 96, 3) := by decide +kernel
theorem dX3_advance_33 : decode cX3_advance 33 = .ok (.invokevirtual 169, 3) := by decide +kernel
theorem dX3_advance_36 : decode cX3_advance 36 = .ok (.iinc 1 1, 3) := by decide +kernel
theorem dX3_advance_39 : decode cX3_advance 39 = .ok (.goto (-22), 3) := by decide +kernel
theorem dX3_advance_42 : decode cX3_advance 42 = .ok (.aload_n 0, 1) := by decide +kernel
theorem dX3_advance_43 : decode cX3_advance 43 = .ok (.dup, 1) := by decide +kernel
theorem dX3_advance_44 : decode cX3_advance 44 = .ok (.getfield 96, 3) := by decide +kernel
theorem dX3_advance_47 : decode cX3_advance 47 = .ok (.iconst 1, 1) := by decide +kernel
theorem dX3_advance_48 : decode cX3_advance 48 = .ok (.iadd, 1) := by decide +kernel
theorem dX3_advance_49 : decode cX3_advance 49 = .ok (.putfield 96, 3) := by decide +kernel
theorem dX3_advance_52 : decode cX3_advance 52 = .ok (.return_, 1) := by decide +kernel
theorem dX3_judgeHour_0 : decode cX3_judgeHour 0 = .ok (.iconst 0, 1) := by decide +kernel
theorem dX3_judgeHour_1 : decode cX3_judgeHour 1 = .ok (.istore_n 1, 1) := by decide +kernel
theorem dX3_judgeHour_2 : decode cX3_judgeHour 2 = .ok (.iconst 0, 1) := by decide +kernel
theorem dX3_judgeHour_3 : decode cX3_judgeHour 3 = .ok (.istore_n 2, 1) := by decide +kernel
theorem dX3_judgeHour_4 : decode cX3_judgeHour 4 = .ok (.iconst 0, 1) := by decide +kernel
theorem dX3_judgeHour_5 : decode cX3_judgeHour 5 = .ok (.istore_n 3, 1) := by decide +kernel
theorem dX3_judgeHour_6 : decode cX3_judgeHour 6 = .ok (.iload_n 3, 1) := by decide +kernel
theorem dX3_judgeHour_7 : decode cX3_judgeHour 7 = .ok (.aload_n 0, 1) := by decide +kernel
theorem dX3_judgeHour_8 : decode cX3_judgeHour 8 = .ok (.getfield 10, 3) := by decide +kernel
theorem dX3_judgeHour_11 : decode cX3_judgeHour 11 = .ok (.getfield 40, 3) := by decide +kernel
theorem dX3_judgeHour_14 : decode cX3_judgeHour 14 = .ok (.if_icmp .ge 69, 3) := by decide +kernel
theorem dX3_judgeHour_17 : decode cX3_judgeHour 17 = .ok (.aload_n 0, 1) := by decide +kernel
theorem dX3_judgeHour_18 : decode cX3_judgeHour 18 = .ok (.getfield 28, 3) := by decide +kernel
theorem dX3_judgeHour_21 : decode cX3_judgeHour 21 = .ok (.getfield 114, 3) := by decide +kernel
theorem dX3_judgeHour_24 : decode cX3_judgeHour 24 = .ok (.iload_n 3, 1) := by decide +kernel
theorem dX3_judgeHour_25 : decode cX3_judgeHour 25 = .ok (.iaload, 1) := by decide +kernel
theorem dX3_judgeHour_26 : decode cX3_judgeHour 26 = .ok (.ifCond .le 51, 3) := by decide +kernel
theorem dX3_judgeHour_29 : decode cX3_judgeHour 29 = .ok (.iload_n 1, 1) := by decide +kernel
theorem dX3_judgeHour_30 : decode cX3_judgeHour 30 = .ok (.iconst 1, 1) := by decide +kernel
theorem dX3_judgeHour_31 : decode cX3_judgeHour 31 = .ok (.iload_n 3, 1) := by decide +kernel
theorem dX3_judgeHour_32 : decode cX3_judgeHour 32 = .ok (.ishl, 1) := by decide +kernel
theorem dX3_judgeHour_33 : decode cX3_judgeHour 33 = .ok (.ior, 1) := by decide +kernel
theorem dX3_judgeHour_34 : decode cX3_judgeHour 34 = .ok (.istore_n 1, 1) := by decide +kernel
theorem dX3_judgeHour_35 : decode cX3_judgeHour 35 = .ok (.aload_n 0, 1) := by decide +kernel
theorem dX3_judgeHour_36 : decode cX3_judgeHour 36 = .ok (.getfield 10, 3) := by decide +kernel
theorem dX3_judgeHour_39 : decode cX3_judgeHour 39 = .ok (.iload_n 3, 1) := by decide +kernel
theorem dX3_judgeHour_40 : decode cX3_judgeHour 40 = .ok (.aload_n 0, 1) := by decide +kernel
theorem dX3_judgeHour_41 : decode cX3_judgeHour 41 = .ok (.getfield 96, 3) := by decide +kernel
theorem dX3_judgeHour_44 : decode cX3_judgeHour 44 = .ok (.invokevirtual 176, 3) := by decide +kernel
theorem dX3_judgeHour_47 : decode cX3_judgeHour 47 = .ok (.ifCond .eq 30, 3) := by decide +kernel
theorem dX3_judgeHour_50 : decode cX3_judgeHour 50 = .ok (.iload_n 2, 1) := by decide +kernel
theorem dX3_judgeHour_51 : decode cX3_judgeHour 51 = .ok (.iconst 1, 1) := by decide +kernel
theorem dX3_judgeHour_52 : decode cX3_judgeHour 52 = .ok (.iload_n 3, 1) := by decide +kernel
theorem dX3_judgeHour_53 : decode cX3_judgeHour 53 = .ok (.ishl, 1) := by decide +kernel
theorem dX3_judgeHour_54 : decode cX3_judgeHour 54 = .ok (.ior, 1) := by decide +kernel
theorem dX3_judgeHour_55 : decode cX3_judgeHour 55 = .ok (.istore_n 2, 1) := by decide +kernel
theorem dX3_judgeHour_56 : decode cX3_judgeHour 56 = .ok (.aload_n 0, 1) := by decide +kernel
theorem dX3_judgeHour_57 : decode cX3_judgeHour 57 = .ok (.getfield 19, 3) := by decide +kernel
theorem dX3_judgeHour_60 : decode cX3_judgeHour 60 = .ok (.aload_n 0, 1) := by decide +kernel
theorem dX3_judgeHour_61 : decode cX3_judgeHour 61 = .ok (.getfield 96, 3) := by decide +kernel
theorem dX3_judgeHour_64 : decode cX3_judgeHour 64 = .ok (.iload_n 3, 1) := by decide +kernel
theorem dX3_judgeHour_65 : decode cX3_judgeHour 65 = .ok (.aload_n 0, 1) := by decide +kernel
theorem dX3_judgeHour_66 : decode cX3_judgeHour 66 = .ok (.getfield 10, 3) := by decide +kernel
theorem dX3_judgeHour_69 : decode cX3_judgeHour 69 = .ok (.getfield 102, 3) := by decide +kernel
theorem dX3_judgeHour_72 : decode cX3_judgeHour 72 = .ok (.iload_n 3, 1) := by decide +kernel
theorem dX3_judgeHour_73 : decode cX3_judgeHour 73 = .ok (.iaload, 1) := by decide +kernel
theorem dX3_judgeHour_74 : decode cX3_judgeHour 74 = .ok (.invokevirtual 179, 3) := by decide +kernel
theorem dX3_judgeHour_77 : decode cX3_judgeHour 77 = .ok (.iinc 3 1, 3) := by decide +kernel
theorem dX3_judgeHour_80 : decode cX3_judgeHour 80 = .ok (.goto (-74), 3) := by decide +kernel
theorem dX3_judgeHour_83 : decode cX3_judgeHour 83 = .ok (.aload_n 0, 1) := by decide +kernel
theorem dX3_judgeHour_84 : decode cX3_judgeHour 84 = .ok (.getfield 28, 3) := by decide +kernel
theorem dX3_judgeHour_87 : decode cX3_judgeHour 87 = .ok (.aload_n 0, 1) := by decide +kernel
theorem dX3_judgeHour_88 : decode cX3_judgeHour 88 = .ok (.getfield 96, 3) := by decide +kernel
theorem dX3_judgeHour_91 : decode cX3_judgeHour 91 = .ok (.invokevirtual 183, 3) := by decide +kernel
theorem dX3_judgeHour_94 : decode cX3_judgeHour 94 = .ok (.ifCond .eq 24, 3) := by decide +kernel
theorem dX3_judgeHour_97 : decode cX3_judgeHour 97 = .ok (.aload_n 0, 1) := by decide +kernel
theorem dX3_judgeHour_98 : decode cX3_judgeHour 98 = .ok (.getfield 19, 3) := by decide +kernel
theorem dX3_judgeHour_101 : decode cX3_judgeHour 101 = .ok (.aload_n 0, 1) := by decide +kernel
theorem dX3_judgeHour_102 : decode cX3_judgeHour 102 = .ok (.getfield 96, 3) := by decide +kernel
theorem dX3_judgeHour_105 : decode cX3_judgeHour 105 = .ok (.iconst 2, 1) := by decide +kernel
theorem dX3_judgeHour_106 : decode cX3_judgeHour 106 = .ok (.iload_n 2, 1) := by decide +kernel
theorem dX3_judgeHour_107 : decode cX3_judgeHour 107 = .ok (.ifCond .eq 7, 3) := by decide +kernel
theorem dX3_judgeHour_110 : decode cX3_judgeHour 110 = .ok (.iload_n 2, 1) := by decide +kernel
theorem dX3_judgeHour_111 : decode cX3_judgeHour 111 = .ok (.goto 4, 3) := by decide +kernel
theorem dX3_judgeHour_114 : decode cX3_judgeHour 114 = .ok (.iload_n 1, 1) := by decide +kernel
theorem dX3_judgeHour_115 : decode cX3_judgeHour 115 = .ok (.invokevirtual 186, 3) := by decide +kernel
theorem dX3_judgeHour_118 : decode cX3_judgeHour 118 = .ok (.return_, 1) := by decide +kernel
theorem dX4_init_0 : decode cX4_init 0 = .ok (.aload_n 0, 1) := by decide +kernel
theorem dX4_init_1 : decode cX4_init 1 = .ok (.invokespecial 1, 3) := by decide +kernel
theorem dX4_init_4 : decode cX4_init 4 = .ok (.aload_n 0, 1) := by decide +kernel
theorem dX4_init_5 : decode cX4_init 5 = .ok (.bipush 100, 2) := by decide +kernel
theorem dX4_init_7 : decode cX4_init 7 = .ok (.putfield 7, 3) := by decide +kernel
theorem dX4_init_10 : decode cX4_init 10 = .ok (.aload_n 0, 1) := by decide +kernel
theorem dX4_init_11 : decode cX4_init 11 = .ok (.iconst 5, 1) := by decide +kernel
theorem dX4_init_12 : decode cX4_init 12 = .ok (.putfield 13, 3) := by decide +kernel
theorem dX4_init_15 : decode cX4_init 15 = .ok (.aload_n 0, 1) := by decide +kernel
theorem dX4_init_16 : decode cX4_init 16 = .ok (.bipush 6, 2) := by decide +kernel
theorem dX4_init_18 : decode cX4_init 18 = .ok (.newarray .int, 2) := by decide +kernel
theorem dX4_init_20 : decode cX4_init 20 = .ok (.putfield 16, 3) := by decide +kernel
theorem dX4_init_23 : decode cX4_init 23 = .ok (.aload_n 0, 1) := by decide +kernel
theorem dX4_init_24 : decode cX4_init 24 = .ok (.bipush 6, 2) := by decide +kernel
theorem dX4_init_26 : decode cX4_init 26 = .ok (.newarray .int, 2) := by decide +kernel
theorem dX4_init_28 : decode cX4_init 28 = .ok (.putfield 20, 3) := by decide +kernel
theorem dX4_init_31 : decode cX4_init 31 = .ok (.aload_n 0, 1) := by decide +kernel
theorem dX4_init_32 : decode cX4_init 32 = .ok (.bipush 6, 2) := by decide +kernel
theorem dX4_init_34 : decode cX4_init 34 = .ok (.newarray .int, 2) := by decide +kernel
theorem dX4_init_36 : decode cX4_init 36 = .ok (.putfield 23, 3) := by decide +kernel
theorem dX4_init_39 : decode cX4_init 39 = .ok (.aload_n 0, 1) := by decide +kernel
theorem dX4_init_40 : decode cX4_init 40 = .ok (.bipush 6, 2) := by decide +kernel
theorem dX4_init_42 : decode cX4_init 42 = .ok (.newarray .int, 2) := by decide +kernel
theorem dX4_init_44 : decode cX4_init 44 = .ok (.putfield 26, 3) := by decide +kernel
theorem dX4_init_47 : decode cX4_init 47 = .ok (.aload_n 0, 1) := by decide +kernel
theorem dX4_init_48 : decode cX4_init 48 = .ok (.bipush 24, 2) := by decide +kernel
theorem dX4_init_50 : decode cX4_init 50 = .ok (.newarray .int, 2) := by decide +kernel
theorem dX4_init_52 : decode cX4_init 52 = .ok (.putfield 29, 3) := by decide +kernel
theorem dX4_init_55 : decode cX4_init 55 = .ok (.aload_n 0, 1) := by decide +kernel
theorem dX4_init_56 : decode cX4_init 56 = .ok (.bipush 42, 2) := by decide +kernel
theorem dX4_init_58 : decode cX4_init 58 = .ok (.newarray .int, 2) := by decide +kernel
theorem dX4_init_60 : decode cX4_init 60 = .ok (.putfield 32, 3) := by decide +kernel
theorem dX4_init_63 : decode cX4_init 63 = .ok (.aload_n 0, 1) := by decide +kernel
theorem dX4_init_64 : decode cX4_init 64 = .ok (.bipush 42, 2) := by decide +kernel
theorem dX4_init_66 : decode cX4_init 66 = .ok (.newarray .int, 2) := by decide +kernel
theorem dX4_init_68 : decode cX4_init 68 = .ok (.putfield 35, 3) := by decide +kernel
theorem dX4_init_71 : decode cX4_init 71 = .ok (.aload_n 0, 1) := by decide +kernel
theorem dX4_init_72 : decode cX4_init 72 = .ok (.sipush 168, 3) := by decide +kernel
theorem dX4_init_75 : decode cX4_init 75 = .ok (.newarray .int, 2) := by decide +kernel
theorem dX4_init_77 : decode cX4_init 77 = .ok (.putfield 38, 3) := by decide +kernel
theorem dX4_init_80 : decode cX4_init 80 = .ok (.aload_n 0, 1) := by decide +kernel
theorem dX4_init_81 : decode cX4_init 81 = .ok (.sipush 168, 3) := by decide +kernel
theorem dX4_init_84 : decode cX4_init 84 = .ok (.newarray .int, 2) := by decide +kernel
theorem dX4_init_86 : decode cX4_init 86 = .ok (.putfield 41, 3) := by decide +kernel
theorem dX4_init_89 : decode cX4_init 89 = .ok (.aload_n 0, 1) := by decide +kernel
theorem dX4_init_90 : decode cX4_init 90 = .ok (.sipush 168, 3) := by decide +kernel
theorem dX4_init_93 : decode cX4_init 93 = .ok (.newarray .int, 2) := by decide +kernel
theorem dX4_init_95 : decode cX4_init 95 = .ok (.putfield 44, 3) := by decide +kernel
theorem dX4_init_98 : decode cX4_init 98 = .ok (.aload_n 0, 1) := by decide +kernel
theorem dX4_init_99 : decode cX4_init 99 = .ok (.sipush 168, 3) := by decide +kernel
theorem dX4_init_102 : decode cX4_init 102 = .ok (.newarray .int, 2) := by decide +kernel
theorem dX4_init_104 : decode cX4_init 104 = .ok (.putfield 47, 3) := by decide +kernel
theorem dX4_init_107 : decode cX4_init 107 = .ok (.aload_n 0, 1) := by decide +kernel
theorem dX4_init_108 : decode cX4_init 108 = .ok (.sipush 168, 3) := by decide +kernel
theorem dX4_init_111 : decode cX4_init 111 = .ok (.newarray .int, 2) := by decide +kernel
theorem dX4_init_113 : decode cX4_init 113 = .ok (.putfield 50, 3) := by decide +kernel
theorem dX4_init_116 : decode cX4_init 116 = .ok (.aload_n 0, 1) := by decide +kernel
theorem dX4_init_117 : decode cX4_init 117 = .ok (.bipush 7, 2) := by decide +kernel
theorem dX4_init_119 : decode cX4_init 119 = .ok (.newarray .int, 2) := by decide +kernel
theorem dX4_init_121 : decode cX4_init 121 = .ok (.putfield 53, 3) := by decide +kernel
theorem dX4_init_124 : decode cX4_init 124 = .ok (.aload_n 0, 1) := by decide +kernel
theorem dX4_init_125 : decode cX4_init 125 = .ok (.bipush 7, 2) := by decide +kernel
theorem dX4_init_127 : decode cX4_init 127 = .ok (.newarray .int, 2) := by decide +kernel
theorem dX4_init_129 : decode cX4_init 129 = .ok (.putfield 56, 3) := by decide +kernel
theorem dX4_init_132 : decode cX4_init 132 = .ok (.aload_n 0, 1) := by decide +kernel
theorem dX4_init_133 : decode cX4_init 133 = .ok (.bipush 7, 2) := by decide +kernel
theorem dX4_init_135 : decode cX4_init 135 = .ok (.newarray .int, 2) := by decide +kernel
theorem dX4_init_137 : decode cX4_init 137 = .ok (.putfield 59, 3) := by decide +kernel
theorem dX4_init_140 : decode cX4_init 140 = .ok (.aload_n 0, 1) := by decide +kernel
theorem dX4_init_141 : decode cX4_init 141 = .ok (.bipush 60, 2) := by decide +kernel
theorem dX4_init_143 : decode cX4_init 143 = .ok (.newarray .int, 2) := by decide +kernel
theorem dX4_init_145 : decode cX4_init 145 = .ok (.putfield 62, 3) := by decide +kernel
theorem dX4_init_148 : decode cX4_init 148 = .ok (.aload_n 0, 1) := by decide +kernel
theorem dX4_init_149 : decode cX4_init 149 = .ok (.bipush 60, 2) := by decide +kernel
theorem dX4_init_151 : decode cX4_init 151 = .ok (.newarray .int, 2) := by decide +kernel
theorem dX4_init_153 : decode cX4_init 153 = .ok (.putfield 65, 3) := by decide +kernel
theorem dX4_init_156 : decode cX4_init 156 = .ok (.aload_n 0, 1) := by decide +kernel
theorem dX4_init_157 : decode cX4_init 157 = .ok (.bipush 60, 2) := by decide +kernel
theorem dX4_init_159 : decode cX4_init 159 = .ok (.newarray .int, 2) := by decide +kernel
theorem dX4_init_161 : decode cX4_init 161 = .ok (.putfield 68, 3) := by decide +kernel
theorem dX4_init_164 : decode cX4_init 164 = .ok (.aload_n 0, 1) := by decide +kernel
theorem dX4_init_165 : decode cX4_init 165 = .ok (.iconst 4, 1) := by decide +kernel
theorem dX4_init_166 : decode cX4_init 166 = .ok (.newarray .int, 2) := by decide +kernel
theorem dX4_init_168 : decode cX4_init 168 = .ok (.putfield 71, 3) := by decide +kernel
theorem dX4_init_171 : decode cX4_init 171 = .ok (.return_, 1) := by decide +kernel
theorem dX4_in_0 : decode cX4_in 0 = .ok (.iload_n 0, 1) := by decide +kernel
theorem dX4_in_1 : decode cX4_in 1 = .ok (.iload_n 1, 1) := by decide +kernel
theorem dX4_in_2 : decode cX4_in 2 = .ok (.if_icmp .lt 12, 3) := by decide +kernel
theorem dX4_in_5 : decode cX4_in 5 = .ok (.iload_n 0, 1) := by decide +kernel
theorem dX4_in_6 : decode cX4_in 6 = .ok (.iload_n 2, 1) := by decide +kernel
theorem dX4_in_7 : decode cX4_in 7 = .ok (.if_icmp .gt 7, 3) := by decide +kernel
theorem dX4_in_10 : decode cX4_in 10 = .ok (.iconst 1, 1) := by decide +kernel
theorem dX4_in_11 : decode cX4_in 11 = .ok (.goto 4, 3) := by decide +kernel
theorem dX4_in_14 : decode cX4_in 14 = .ok (.iconst 0, 1) := by decide +kernel
theorem dX4_in_15 : decode cX4_in 15 = .ok (.ireturn, 1) := by decide +kernel
theorem dX4_isHatch_0 : decode cX4_isHatch 0 = .ok (.iload_n 1, 1) := by decide +kernel
theorem dX4_isHatch_1 : decode cX4_isHatch 1 = .ok (.iconst 0, 1) := by decide +kernel
theorem dX4_isHatch_2 : decode cX4_isHatch 2 = .ok (.aload_n 0, 1) := by decide +kernel
theorem dX4_isHatch_3 : decode cX4_isHatch 3 = .ok (.getfield 74, 3) := by decide +kernel
theorem dX4_isHatch_6 : decode cX4_isHatch 6 = .ok (.iconst 1, 1) := by decide +kernel
theorem dX4_isHatch_7 : decode cX4_isHatch 7 = .ok (.isub, 1) := by decide +kernel
theorem dX4_isHatch_8 : decode cX4_isHatch 8 = .ok (.invokestatic 77, 3) := by decide +kernel
theorem dX4_isHatch_11 : decode cX4_isHatch 11 = .ok (.ireturn, 1) := by decide +kernel
theorem dX4_isFull_0 : decode cX4_isFull 0 = .ok (.aload_n 0, 1) := by decide +kernel
theorem dX4_isFull_1 : decode cX4_isFull 1 = .ok (.getfield 81, 3) := by decide +kernel
theorem dX4_isFull_4 : decode cX4_isFull 4 = .ok (.bipush 90, 2) := by decide +kernel
theorem dX4_isFull_6 : decode cX4_isFull 6 = .ok (.if_icmp .ne 7, 3) := by decide +kernel
theorem dX4_isFull_9 : decode cX4_isFull 9 = .ok (.iconst 1, 1) := by decide +kernel
theorem dX4_isFull_10 : decode cX4_isFull 10 = .ok (.goto 4, 3) := by decide +kernel
theorem dX4_isFull_13 : decode cX4_isFull 13 = .ok (.iconst 0, 1) := by decide +kernel
theorem dX4_isFull_14 : decode cX4_isFull 14 = .ok (.ireturn, 1) := by decide +kernel
theorem dX4_hatch_0 : decode cX4_hatch 0 = .ok (.iload_n 1, 1) := by decide +kernel
theorem dX4_hatch_1 : decode cX4_hatch 1 = .ok (.iconst 0, 1) := by decide +kernel
theorem dX4_hatch_2 : decode cX4_hatch 2 = .ok (.iconst 3, 1) := by decide +kernel
theorem dX4_hatch_3 : decode cX4_hatch 3 = .ok (.invokestatic 77, 3) := by decide +kernel
theorem dX4_hatch_6 : decode cX4_hatch 6 = .ok (.ifCond .eq 23, 3) := by decide +kernel
theorem dX4_hatch_9 : decode cX4_hatch 9 = .ok (.iload_n 2, 1) := by decide +kernel
theorem dX4_hatch_10 : decode cX4_hatch 10 = .ok (.iconst 1, 1) := by decide +kernel
theorem dX4_hatch_11 : decode cX4_hatch 11 = .ok (.sipush 200, 3) := by decide +kernel
theorem dX4_hatch_14 : decode cX4_hatch 14 = .ok (.invokestatic 77, 3) := by decide +kernel
theorem dX4_hatch_17 : decode cX4_hatch 17 = .ok (.ifCond .eq 12, 3) := by decide +kernel
theorem dX4_hatch_20 : decode cX4_hatch 20 = .ok (.iload_n 3, 1) := by decide +kernel
theorem dX4_hatch_21 : decode cX4_hatch 21 = .ok (.iconst 1, 1) := by decide +kernel
theorem dX4_hatch_22 : decode cX4_hatch 22 = .ok (.iconst 4, 1) := by decide +kernel
theorem dX4_hatch_23 : decode cX4_hatch 23 = .ok (.invokestatic 77, 3) := by decide +kernel
theorem dX4_hatch_26 : decode cX4_hatch 26 = .ok (.ifCond .ne 5, 3) := by decide +kernel
theorem dX4_hatch_29 : decode cX4_hatch 29 = .ok (.iconst (-1), 1) := by decide +kernel
theorem dX4_hatch_30 : decode cX4_hatch 30 = .ok (.ireturn, 1) := by decide +kernel
theorem dX4_hatch_31 : decode cX4_hatch 31 = .ok (.aload_n 0, 1) := by decide +kernel
theorem dX4_hatch_32 : decode cX4_hatch 32 = .ok (.getfield 74, 3) := by decide +kernel
theorem dX4_hatch_35 : decode cX4_hatch 35 = .ok (.bipush 6, 2) := by decide +kernel
theorem dX4_hatch_37 : decode cX4_hatch 37 = .ok (.if_icmp .eq 10, 3) := by decide +kernel
theorem dX4_hatch_40 : decode cX4_hatch 40 = .ok (.aload_n 0, 1) := by decide +kernel
theorem dX4_hatch_41 : decode cX4_hatch 41 = .ok (.invokevirtual 84, 3) := by decide +kernel
theorem dX4_hatch_44 : decode cX4_hatch 44 = .ok (.ifCond .eq 6, 3) := by decide +kernel
theorem dX4_hatch_47 : decode cX4_hatch 47 = .ok (.bipush (-3), 2) := by decide +kernel
theorem dX4_hatch_49 : decode cX4_hatch 49 = .ok (.ireturn, 1) := by decide +kernel
theorem dX4_hatch_50 : decode cX4_hatch 50 = .ok (.aload_n 0, 1) := by decide +kernel
theorem dX4_hatch_51 : decode cX4_hatch 51 = .ok (.getfield 16, 3) := by decide +kernel
theorem dX4_hatch_54 : decode cX4_hatch 54 = .ok (.aload_n 0, 1) := by decide +kernel
theorem dX4_hatch_55 : decode cX4_hatch 55 = .ok (.getfield 74, 3) := by decide +kernel
theorem dX4_hatch_58 : decode cX4_hatch 58 = .ok (.iload_n 1, 1) := by decide +kernel
theorem dX4_hatch_59 : decode cX4_hatch 59 = .ok (.iastore, 1) := by decide +kernel
theorem dX4_hatch_60 : decode cX4_hatch 60 = .ok (.aload_n 0, 1) := by decide +kernel
theorem dX4_hatch_61 : decode cX4_hatch 61 = .ok (.getfield 20, 3) := by decide +kernel
theorem dX4_hatch_64 : decode cX4_hatch 64 = .ok (.aload_n 0, 1) := by decide +kernel
theorem dX4_hatch_65 : decode cX4_hatch 65 = .ok (.getfield 74, 3) := by decide +kernel
theorem dX4_hatch_68 : decode cX4_hatch 68 = .ok (.iload_n 2, 1) := by decide +kernel
theorem dX4_hatch_69 : decode cX4_hatch 69 = .ok (.iastore, 1) := by decide +kernel
theorem dX4_hatch_70 : decode cX4_hatch 70 = .ok (.aload_n 0, 1) := by decide +kernel
theorem dX4_hatch_71 : decode cX4_hatch 71 = .ok (.getfield 23, 3) := by decide +kernel
theorem dX4_hatch_74 : decode cX4_hatch 74 = .ok (.aload_n 0, 1) := by decide +kernel
theorem dX4_hatch_75 : decode cX4_hatch 75 = .ok (.getfield 74, 3) := by decide +kernel
theorem dX4_hatch_78 : decode cX4_hatch 78 = .ok (.iload_n 3, 1) := by decide +kernel
theorem dX4_hatch_79 : decode cX4_hatch 79 = .ok (.iastore, 1) := by decide +kernel
theorem dX4_hatch_80 : decode cX4_hatch 80 = .ok (.aload_n 0, 1) := by decide +kernel
theorem dX4_hatch_81 : decode cX4_hatch 81 = .ok (.dup, 1) := by decide +kernel
theorem dX4_hatch_82 : decode cX4_hatch 82 = .ok (.getfield 81, 3) := by decide +kernel
theorem dX4_hatch_85 : decode cX4_hatch 85 = .ok (.iconst 1, 1) := by decide +kernel
theorem dX4_hatch_86 : decode cX4_hatch 86 = .ok (.iadd, 1) := by decide +kernel
theorem dX4_hatch_87 : decode cX4_hatch 87 = .ok (.putfield 81, 3) := by decide +kernel
theorem dX4_hatch_90 : decode cX4_hatch 90 = .ok (.aload_n 0, 1) := by decide +kernel
theorem dX4_hatch_91 : decode cX4_hatch 91 = .ok (.dup, 1) := by decide +kernel
theorem dX4_hatch_92 : decode cX4_hatch 92 = .ok (.getfield 74, 3) := by decide +kernel
theorem dX4_hatch_95 : decode cX4_hatch 95 = .ok (.iconst 1, 1) := by decide +kernel
theorem dX4_hatch_96 : decode cX4_hatch 96 = .ok (.iadd, 1) := by decide +kernel
theorem dX4_hatch_97 : decode cX4_hatch 97 = .ok (.putfield 74, 3) := by decide +kernel
theorem dX4_hatch_100 : decode cX4_hatch 100 = .ok (.aload_n 0, 1) := by decide +kernel
theorem dX4_hatch_101 : decode cX4_hatch 101 = .ok (.getfield 74, 3) := by decide +kernel
theorem dX4_hatch_104 : decode cX4_hatch 104 = .ok (.iconst 1, 1) := by decide +kernel
theorem dX4_hatch_105 : decode cX4_hatch 105 = .ok (.isub, 1) := by decide +kernel
theorem dX4_hatch_106 : decode cX4_hatch 106 = .ok (.ireturn, 1) := by decide +kernel
theorem dX4_open_0 : decode cX4_open 0 = .ok (.aload_n 0, 1) := by decide +kernel
theorem dX4_open_1 : decode cX4_open 1 = .ok (.iload_n 1, 1) := by decide +kernel
theorem dX4_open_2 : decode cX4_open 2 = .ok (.invokevirtual 88, 3) := by decide +kernel
theorem dX4_open_5 : decode cX4_open 5 = .ok (.ifCond .eq 12, 3) := by decide +kernel
theorem dX4_open_8 : decode cX4_open 8 = .ok (.iload_n 2, 1) := by decide +kernel
theorem dX4_open_9 : decode cX4_open 9 = .ok (.iconst 0, 1) := by decide +kernel
theorem dX4_open_10 : decode cX4_open 10 = .ok (.iconst 4, 1) := by decide +kernel
theorem dX4_open_11 : decode cX4_open 11 = .ok (.invokestatic 77, 3) := by decide +kernel
theorem dX4_open_14 : decode cX4_open 14 = .ok (.ifCond .ne 5, 3) := by decide +kernel
theorem dX4_open_17 : decode cX4_open 17 = .ok (.iconst (-1), 1) := by decide +kernel
theorem dX4_open_18 : decode cX4_open 18 = .ok (.ireturn, 1) := by decide +kernel
theorem dX4_open_19 : decode cX4_open 19 = .ok (.aload_n 0, 1) := by decide +kernel
theorem dX4_open_20 : decode cX4_open 20 = .ok (.invokevirtual 84, 3) := by decide +kernel
theorem dX4_open_23 : decode cX4_open 23 = .ok (.ifCond .eq 6, 3) := by decide +kernel
theorem dX4_open_26 : decode cX4_open 26 = .ok (.bipush (-3), 2) := by decide +kernel
theorem dX4_open_28 : decode cX4_open 28 = .ok (.ireturn, 1) := by decide +kernel
theorem dX4_open_29 : decode cX4_open 29 = .ok (.aload_n 0, 1) := by decide +kernel
theorem dX4_open_30 : decode cX4_open 30 = .ok (.dup, 1) := by decide +kernel
theorem dX4_open_31 : decode cX4_open 31 = .ok (.getfield 81, 3) := by decide +kernel
theorem dX4_open_34 : decode cX4_open 34 = .ok (.iconst 1, 1) := by decide +kernel
theorem dX4_open_35 : decode cX4_open 35 = .ok (.iadd, 1) := by decide +kernel
theorem dX4_open_36 : decode cX4_open 36 = .ok (.putfield 81, 3) := by decide +kernel
theorem dX4_open_39 : decode cX4_open 39 = .ok (.aload_n 0, 1) := by decide +kernel
theorem dX4_open_40 : decode cX4_open 40 = .ok (.getfield 26, 3) := by decide +kernel
theorem dX4_open_43 : decode cX4_open 43 = .ok (.iload_n 1, 1) := by decide +kernel
theorem dX4_open_44 : decode cX4_open 44 = .ok (.iaload, 1) := by decide +kernel
theorem dX4_open_45 : decode cX4_open 45 = .ok (.istore_n 3, 1) := by decide +kernel
theorem dX4_open_46 : decode cX4_open 46 = .ok (.aload_n 0, 1) := by decide +kernel
theorem dX4_open_47 : decode cX4_open 47 = .ok (.getfield 26, 3) := by decide +kernel
theorem dX4_open_50 : decode cX4_open 50 = .ok (.iload_n 1, 1) := by decide +kernel
theorem dX4_open_51 : decode cX4_open 51 = .ok (.iload_n 2, 1) := by decide +kernel
theorem dX4_open_52 : decode cX4_open 52 = .ok (.iastore, 1) := by decide +kernel
theorem dX4_open_53 : decode cX4_open 53 = .ok (.iload_n 3, 1) := by decide +kernel
theorem dX4_open_54 : decode cX4_open 54 = .ok (.ireturn, 1) := by decide +kernel
theorem dX4_flow_0 : decode cX4_flow 0 = .ok (.iload_n 1, 1) := by decide +kernel
theorem dX4_flow_1 : decode cX4_flow 1 = .ok (.iconst 0, 1) := by decide +kernel
theorem dX4_flow_2 : decode cX4_flow 2 = .ok (.sipush 1000, 3) := by decide +kernel
theorem dX4_flow_5 : decode cX4_flow 5 = .ok (.invokestatic 77, 3) := by decide +kernel
theorem dX4_flow_8 : decode cX4_flow 8 = .ok (.ifCond .ne 5, 3) := by decide +kernel
theorem dX4_flow_11 : decode cX4_flow 11 = .ok (.iconst (-1), 1) := by decide +kernel
theorem dX4_flow_12 : decode cX4_flow 12 = .ok (.ireturn, 1) := by decide +kernel
theorem dX4_flow_13 : decode cX4_flow 13 = .ok (.aload_n 0, 1) := by decide +kernel
theorem dX4_flow_14 : decode cX4_flow 14 = .ok (.invokevirtual 84, 3) := by decide +kernel
theorem dX4_flow_17 : decode cX4_flow 17 = .ok (.ifCond .eq 6, 3) := by decide +kernel
