theorem dX4_grows_185 : decode cX4_grows 185 = .ok (.iaload, 1) := by decide +kernel
theorem dX4_grows_186 : decode cX4_grows 186 = .ok (.iload 6, 2) := by decide +kernel
theorem dX4_grows_188 : decode cX4_grows 188 = .ok (.isub, 1) := by decide +kernel
theorem dX4_grows_189 : decode cX4_grows 189 = .ok (.iastore, 1) := by decide +kernel
theorem dX4_grows_190 : decode cX4_grows 190 = .ok (.aload_n 0, 1) := by decide +kernel
theorem dX4_grows_191 : decode cX4_grows 191 = .ok (.getfield 50, 3) := by decide +kernel
theorem dX4_grows_194 : decode cX4_grows 194 = .ok (.iload_n 1, 1) := by decide +kernel
theorem dX4_grows_195 : decode cX4_grows 195 = .ok (.dup2, 1) := by decide +kernel
theorem dX4_grows_196 : decode cX4_grows 196 = .ok (.iaload, 1) := by decide +kernel
theorem dX4_grows_197 : decode cX4_grows 197 = .ok (.iload 6, 2) := by decide +kernel
theorem dX4_grows_199 : decode cX4_grows 199 = .ok (.iadd, 1) := by decide +kernel
theorem dX4_grows_200 : decode cX4_grows 200 = .ok (.iastore, 1) := by decide +kernel
theorem dX4_grows_201 : decode cX4_grows 201 = .ok (.return_, 1) := by decide +kernel
theorem dX4_breaks_0 : decode cX4_breaks 0 = .ok (.aload_n 0, 1) := by decide +kernel
theorem dX4_breaks_1 : decode cX4_breaks 1 = .ok (.getfield 116, 3) := by decide +kernel
theorem dX4_breaks_4 : decode cX4_breaks 4 = .ok (.bipush 60, 2) := by decide +kernel
theorem dX4_breaks_6 : decode cX4_breaks 6 = .ok (.if_icmp .ge 36, 3) := by decide +kernel
theorem dX4_breaks_9 : decode cX4_breaks 9 = .ok (.aload_n 0, 1) := by decide +kernel
theorem dX4_breaks_10 : decode cX4_breaks 10 = .ok (.getfield 62, 3) := by decide +kernel
theorem dX4_breaks_13 : decode cX4_breaks 13 = .ok (.aload_n 0, 1) := by decide +kernel
theorem dX4_breaks_14 : decode cX4_breaks 14 = .ok (.getfield 116, 3) := by decide +kernel
theorem dX4_breaks_17 : decode cX4_breaks 17 = .ok (.aload_n 0, 1) := by decide +kernel
theorem dX4_breaks_18 : decode cX4_breaks 18 = .ok (.getfield 113, 3) := by decide +kernel
theorem dX4_breaks_21 : decode cX4_breaks 21 = .ok (.iastore, 1) := by decide +kernel
theorem dX4_breaks_22 : decode cX4_breaks 22 = .ok (.aload_n 0, 1) := by decide +kernel
theorem dX4_breaks_23 : decode cX4_breaks 23 = .ok (.getfield 65, 3) := by decide +kernel
theorem dX4_breaks_26 : decode cX4_breaks 26 = .ok (.aload_n 0, 1) := by decide +kernel
theorem dX4_breaks_27 : decode cX4_breaks 27 = .ok (.getfield 116, 3) := by decide +kernel
theorem dX4_breaks_30 : decode cX4_breaks 30 = .ok (.iload_n 1, 1) := by decide +kernel
theorem dX4_breaks_31 : decode cX4_breaks 31 = .ok (.iastore, 1) := by decide +kernel
theorem dX4_breaks_32 : decode cX4_breaks 32 = .ok (.aload_n 0, 1) := by decide +kernel
theorem dX4_breaks_33 : decode cX4_breaks 33 = .ok (.getfield 68, 3) := by decide +kernel
theorem dX4_breaks_36 : decode cX4_breaks 36 = .ok (.aload_n 0, 1) := by decide +kernel
theorem dX4_breaks_37 : decode cX4_breaks 37 = .ok (.getfield 116, 3) := by decide +kernel
theorem dX4_breaks_40 : decode cX4_breaks 40 = .ok (.iload_n 2, 1) := by decide +kernel
theorem dX4_breaks_41 : decode cX4_breaks 41 = .ok (.iastore, 1) := by decide +kernel
theorem dX4_breaks_42 : decode cX4_breaks 42 = .ok (.aload_n 0, 1) := by decide +kernel
theorem dX4_breaks_43 : decode cX4_breaks 43 = .ok (.dup, 1) := by decide +kernel
theorem dX4_breaks_44 : decode cX4_breaks 44 = .ok (.getfield 116, 3) := by decide +kernel
theorem dX4_breaks_47 : decode cX4_breaks 47 = .ok (.iconst 1, 1) := by decide +kernel
theorem dX4_breaks_48 : decode cX4_breaks 48 = .ok (.iadd, 1) := by decide +kernel
theorem dX4_breaks_49 : decode cX4_breaks 49 = .ok (.putfield 116, 3) := by decide +kernel
theorem dX4_breaks_52 : decode cX4_breaks 52 = .ok (.return_, 1) := by decide +kernel
theorem dX4_judges_0 : decode cX4_judges 0 = .ok (.aload_n 0, 1) := by decide +kernel
theorem dX4_judges_1 : decode cX4_judges 1 = .ok (.getfield 7, 3) := by decide +kernel
theorem dX4_judges_4 : decode cX4_judges 4 = .ok (.sipush 400, 3) := by decide +kernel
theorem dX4_judges_7 : decode cX4_judges 7 = .ok (.if_icmp .le 4, 3) := by decide +kernel
theorem dX4_judges_10 : decode cX4_judges 10 = .ok (.return_, 1) := by decide +kernel
theorem dX4_judges_11 : decode cX4_judges 11 = .ok (.iconst 0, 1) := by decide +kernel
theorem dX4_judges_12 : decode cX4_judges 12 = .ok (.istore_n 1, 1) := by decide +kernel
theorem dX4_judges_13 : decode cX4_judges 13 = .ok (.iconst 0, 1) := by decide +kernel
theorem dX4_judges_14 : decode cX4_judges 14 = .ok (.istore_n 2, 1) := by decide +kernel
theorem dX4_judges_15 : decode cX4_judges 15 = .ok (.iconst 0, 1) := by decide +kernel
theorem dX4_judges_16 : decode cX4_judges 16 = .ok (.istore_n 3, 1) := by decide +kernel
theorem dX4_judges_17 : decode cX4_judges 17 = .ok (.iload_n 3, 1) := by decide +kernel
theorem dX4_judges_18 : decode cX4_judges 18 = .ok (.aload_n 0, 1) := by decide +kernel
theorem dX4_judges_19 : decode cX4_judges 19 = .ok (.getfield 74, 3) := by decide +kernel
theorem dX4_judges_22 : decode cX4_judges 22 = .ok (.if_icmp .ge 97, 3) := by decide +kernel
theorem dX4_judges_25 : decode cX4_judges 25 = .ok (.aload_n 0, 1) := by decide +kernel
theorem dX4_judges_26 : decode cX4_judges 26 = .ok (.getfield 35, 3) := by decide +kernel
theorem dX4_judges_29 : decode cX4_judges 29 = .ok (.iload_n 3, 1) := by decide +kernel
theorem dX4_judges_30 : decode cX4_judges 30 = .ok (.iaload, 1) := by decide +kernel
theorem dX4_judges_31 : decode cX4_judges 31 = .ok (.ifCond .le 7, 3) := by decide +kernel
theorem dX4_judges_34 : decode cX4_judges 34 = .ok (.iconst 1, 1) := by decide +kernel
theorem dX4_judges_35 : decode cX4_judges 35 = .ok (.goto 4, 3) := by decide +kernel
theorem dX4_judges_38 : decode cX4_judges 38 = .ok (.iconst 0, 1) := by decide +kernel
theorem dX4_judges_39 : decode cX4_judges 39 = .ok (.istore 4, 2) := by decide +kernel
theorem dX4_judges_41 : decode cX4_judges 41 = .ok (.iload_n 2, 1) := by decide +kernel
theorem dX4_judges_42 : decode cX4_judges 42 = .ok (.iload 4, 2) := by decide +kernel
theorem dX4_judges_44 : decode cX4_judges 44 = .ok (.ifCond .eq 9, 3) := by decide +kernel
theorem dX4_judges_47 : decode cX4_judges 47 = .ok (.iconst 1, 1) := by decide +kernel
theorem dX4_judges_48 : decode cX4_judges 48 = .ok (.iload_n 3, 1) := by decide +kernel
theorem dX4_judges_49 : decode cX4_judges 49 = .ok (.ishl, 1) := by decide +kernel
theorem dX4_judges_50 : decode cX4_judges 50 = .ok (.goto 4, 3) := by decide +kernel
theorem dX4_judges_53 : decode cX4_judges 53 = .ok (.iconst 0, 1) := by decide +kernel
theorem dX4_judges_54 : decode cX4_judges 54 = .ok (.ior, 1) := by decide +kernel
theorem dX4_judges_55 : decode cX4_judges 55 = .ok (.istore_n 2, 1) := by decide +kernel
theorem dX4_judges_56 : decode cX4_judges 56 = .ok (.iload 4, 2) := by decide +kernel
theorem dX4_judges_58 : decode cX4_judges 58 = .ok (.ifCond .eq 55, 3) := by decide +kernel
theorem dX4_judges_61 : decode cX4_judges 61 = .ok (.aload_n 0, 1) := by decide +kernel
theorem dX4_judges_62 : decode cX4_judges 62 = .ok (.getfield 113, 3) := by decide +kernel
theorem dX4_judges_65 : decode cX4_judges 65 = .ok (.bipush 24, 2) := by decide +kernel
theorem dX4_judges_67 : decode cX4_judges 67 = .ok (.idiv, 1) := by decide +kernel
theorem dX4_judges_68 : decode cX4_judges 68 = .ok (.iconst 4, 1) := by decide +kernel
theorem dX4_judges_69 : decode cX4_judges 69 = .ok (.irem, 1) := by decide +kernel
theorem dX4_judges_70 : decode cX4_judges 70 = .ok (.aload_n 0, 1) := by decide +kernel
theorem dX4_judges_71 : decode cX4_judges 71 = .ok (.getfield 16, 3) := by decide +kernel
theorem dX4_judges_74 : decode cX4_judges 74 = .ok (.iload_n 3, 1) := by decide +kernel
theorem dX4_judges_75 : decode cX4_judges 75 = .ok (.iaload, 1) := by decide +kernel
theorem dX4_judges_76 : decode cX4_judges 76 = .ok (.if_icmp .eq 37, 3) := by decide +kernel
theorem dX4_judges_79 : decode cX4_judges 79 = .ok (.aload_n 0, 1) := by decide +kernel
theorem dX4_judges_80 : decode cX4_judges 80 = .ok (.getfield 13, 3) := by decide +kernel
theorem dX4_judges_83 : decode cX4_judges 83 = .ok (.ifCond .lt 30, 3) := by decide +kernel
theorem dX4_judges_86 : decode cX4_judges 86 = .ok (.iload_n 1, 1) := by decide +kernel
theorem dX4_judges_87 : decode cX4_judges 87 = .ok (.iconst 1, 1) := by decide +kernel
theorem dX4_judges_88 : decode cX4_judges 88 = .ok (.iload_n 3, 1) := by decide +kernel
theorem dX4_judges_89 : decode cX4_judges 89 = .ok (.ishl, 1) := by decide +kernel
theorem dX4_judges_90 : decode cX4_judges 90 = .ok (.ior, 1) := by decide +kernel
theorem dX4_judges_91 : decode cX4_judges 91 = .ok (.istore_n 1, 1) := by decide +kernel
theorem dX4_judges_92 : decode cX4_judges 92 = .ok (.aload_n 0, 1) := by decide +kernel
theorem dX4_judges_93 : decode cX4_judges 93 = .ok (.getfield 71, 3) := by decide +kernel
theorem dX4_judges_96 : decode cX4_judges 96 = .ok (.aload_n 0, 1) := by decide +kernel
theorem dX4_judges_97 : decode cX4_judges 97 = .ok (.getfield 16, 3) := by decide +kernel
theorem dX4_judges_100 : decode cX4_judges 100 = .ok (.iload_n 3, 1) := by decide +kernel
theorem dX4_judges_101 : decode cX4_judges 101 = .ok (.iaload, 1) := by decide +kernel
theorem dX4_judges_102 : decode cX4_judges 102 = .ok (.dup2, 1) := by decide +kernel
theorem dX4_judges_103 : decode cX4_judges 103 = .ok (.iaload, 1) := by decide +kernel
theorem dX4_judges_104 : decode cX4_judges 104 = .ok (.iconst 1, 1) := by decide +kernel
theorem dX4_judges_105 : decode cX4_judges 105 = .ok (.iadd, 1) := by decide +kernel
theorem dX4_judges_106 : decode cX4_judges 106 = .ok (.iastore, 1) := by decide +kernel
theorem dX4_judges_107 : decode cX4_judges 107 = .ok (.aload_n 0, 1) := by decide +kernel
theorem dX4_judges_108 : decode cX4_judges 108 = .ok (.iconst 1, 1) := by decide +kernel
theorem dX4_judges_109 : decode cX4_judges 109 = .ok (.iload_n 3, 1) := by decide +kernel
theorem dX4_judges_110 : decode cX4_judges 110 = .ok (.invokevirtual 119, 3) := by decide +kernel
theorem dX4_judges_113 : decode cX4_judges 113 = .ok (.iinc 3 1, 3) := by decide +kernel
theorem dX4_judges_116 : decode cX4_judges 116 = .ok (.goto (-99), 3) := by decide +kernel
theorem dX4_judges_119 : decode cX4_judges 119 = .ok (.aload_n 0, 1) := by decide +kernel
theorem dX4_judges_120 : decode cX4_judges 120 = .ok (.getfield 113, 3) := by decide +kernel
theorem dX4_judges_123 : decode cX4_judges 123 = .ok (.bipush 24, 2) := by decide +kernel
theorem dX4_judges_125 : decode cX4_judges 125 = .ok (.irem, 1) := by decide +kernel
theorem dX4_judges_126 : decode cX4_judges 126 = .ok (.aload_n 0, 1) := by decide +kernel
theorem dX4_judges_127 : decode cX4_judges 127 = .ok (.getfield 99, 3) := by decide +kernel
theorem dX4_judges_130 : decode cX4_judges 130 = .ok (.if_icmp .lt 44, 3) := by decide +kernel
theorem dX4_judges_133 : decode cX4_judges 133 = .ok (.aload_n 0, 1) := by decide +kernel
theorem dX4_judges_134 : decode cX4_judges 134 = .ok (.getfield 113, 3) := by decide +kernel
theorem dX4_judges_137 : decode cX4_judges 137 = .ok (.bipush 24, 2) := by decide +kernel
theorem dX4_judges_139 : decode cX4_judges 139 = .ok (.irem, 1) := by decide +kernel
theorem dX4_judges_140 : decode cX4_judges 140 = .ok (.aload_n 0, 1) := by decide +kernel
theorem dX4_judges_141 : decode cX4_judges 141 = .ok (.getfield 102, 3) := by decide +kernel
theorem dX4_judges_144 : decode cX4_judges 144 = .ok (.if_icmp .ge 30, 3) := by decide +kernel
theorem dX4_judges_147 : decode cX4_judges 147 = .ok (.aload_n 0, 1) := by decide +kernel
theorem dX4_judges_148 : decode cX4_judges 148 = .ok (.getfield 56, 3) := by decide +kernel
theorem dX4_judges_151 : decode cX4_judges 151 = .ok (.iconst 0, 1) := by decide +kernel
theorem dX4_judges_152 : decode cX4_judges 152 = .ok (.iaload, 1) := by decide +kernel
theorem dX4_judges_153 : decode cX4_judges 153 = .ok (.aload_n 0, 1) := by decide +kernel
theorem dX4_judges_154 : decode cX4_judges 154 = .ok (.getfield 96, 3) := by decide +kernel
theorem dX4_judges_157 : decode cX4_judges 157 = .ok (.if_icmp .ge 17, 3) := by decide +kernel
theorem dX4_judges_160 : decode cX4_judges 160 = .ok (.aload_n 0, 1) := by decide +kernel
theorem dX4_judges_161 : decode cX4_judges 161 = .ok (.iconst 2, 1) := by decide +kernel
theorem dX4_judges_162 : decode cX4_judges 162 = .ok (.iload_n 1, 1) := by decide +kernel
theorem dX4_judges_163 : decode cX4_judges 163 = .ok (.ifCond .le 7, 3) := by decide +kernel
theorem dX4_judges_166 : decode cX4_judges 166 = .ok (.iload_n 1, 1) := by decide +kernel
theorem dX4_judges_167 : decode cX4_judges 167 = .ok (.goto 4, 3) := by decide +kernel
theorem dX4_judges_170 : decode cX4_judges 170 = .ok (.iload_n 2, 1) := by decide +kernel
theorem dX4_judges_171 : decode cX4_judges 171 = .ok (.invokevirtual 119, 3) := by decide +kernel
theorem dX4_judges_174 : decode cX4_judges 174 = .ok (.return_, 1) := by decide +kernel
theorem dX4_hours_0 : decode cX4_hours 0 = .ok (.iload_n 1, 1) := by decide +kernel
theorem dX4_hours_1 : decode cX4_hours 1 = .ok (.iconst 1, 1) := by decide +kernel
theorem dX4_hours_2 : decode cX4_hours 2 = .ok (.sipush 200, 3) := by decide +kernel
theorem dX4_hours_5 : decode cX4_hours 5 = .ok (.invokestatic 77, 3) := by decide +kernel
theorem dX4_hours_8 : decode cX4_hours 8 = .ok (.ifCond .ne 5, 3) := by decide +kernel
theorem dX4_hours_11 : decode cX4_hours 11 = .ok (.iconst (-1), 1) := by decide +kernel
theorem dX4_hours_12 : decode cX4_hours 12 = .ok (.ireturn, 1) := by decide +kernel
theorem dX4_hours_13 : decode cX4_hours 13 = .ok (.aload_n 0, 1) := by decide +kernel
theorem dX4_hours_14 : decode cX4_hours 14 = .ok (.getfield 113, 3) := by decide +kernel
theorem dX4_hours_17 : decode cX4_hours 17 = .ok (.iload_n 1, 1) := by decide +kernel
theorem dX4_hours_18 : decode cX4_hours 18 = .ok (.iadd, 1) := by decide +kernel
theorem dX4_hours_19 : decode cX4_hours 19 = .ok (.sipush 2400, 3) := by decide +kernel
theorem dX4_hours_22 : decode cX4_hours 22 = .ok (.if_icmp .le 6, 3) := by decide +kernel
theorem dX4_hours_25 : decode cX4_hours 25 = .ok (.bipush (-3), 2) := by decide +kernel
theorem dX4_hours_27 : decode cX4_hours 27 = .ok (.ireturn, 1) := by decide +kernel
theorem dX4_hours_28 : decode cX4_hours 28 = .ok (.iconst 0, 1) := by decide +kernel
theorem dX4_hours_29 : decode cX4_hours 29 = .ok (.istore_n 2, 1) := by decide +kernel
theorem dX4_hours_30 : decode cX4_hours 30 = .ok (.iload_n 2, 1) := by decide +kernel
theorem dX4_hours_31 : decode cX4_hours 31 = .ok (.iload_n 1, 1) := by decide +kernel
theorem dX4_hours_32 : decode cX4_hours 32 = .ok (.if_icmp .ge 55, 3) := by decide +kernel
theorem dX4_hours_35 : decode cX4_hours 35 = .ok (.aload_n 0, 1) := by decide +kernel
theorem dX4_hours_36 : decode cX4_hours 36 = .ok (.dup, 1) := by decide +kernel
theorem dX4_hours_37 : decode cX4_hours 37 = .ok (.getfield 123, 3) := by decide +kernel
theorem dX4_hours_40 : decode cX4_hours 40 = .ok (.aload_n 0, 1) := by decide +kernel
theorem dX4_hours_41 : decode cX4_hours 41 = .ok (.getfield 7, 3) := by decide +kernel
theorem dX4_hours_44 : decode cX4_hours 44 = .ok (.iadd, 1) := by decide +kernel
theorem dX4_hours_45 : decode cX4_hours 45 = .ok (.putfield 123, 3) := by decide +kernel
theorem dX4_hours_48 : decode cX4_hours 48 = .ok (.iconst 0, 1) := by decide +kernel
theorem dX4_hours_49 : decode cX4_hours 49 = .ok (.istore_n 3, 1) := by decide +kernel
theorem dX4_hours_50 : decode cX4_hours 50 = .ok (.iload_n 3, 1) := by decide +kernel
theorem dX4_hours_51 : decode cX4_hours 51 = .ok (.bipush 7, 2) := by decide +kernel
theorem dX4_hours_53 : decode cX4_hours 53 = .ok (.if_icmp .ge 14, 3) := by decide +kernel
theorem dX4_hours_56 : decode cX4_hours 56 = .ok (.aload_n 0, 1) := by decide +kernel
theorem dX4_hours_57 : decode cX4_hours 57 = .ok (.iload_n 3, 1) := by decide +kernel
theorem dX4_hours_58 : decode cX4_hours 58 = .ok (.invokevirtual 126, 3) := by decide +kernel
theorem dX4_hours_61 : decode cX4_hours 61 = .ok (.iinc 3 1, 3) := by decide +kernel
theorem dX4_hours_64 : decode cX4_hours 64 = .ok (.goto (-14), 3) := by decide +kernel
theorem dX4_hours_67 : decode cX4_hours 67 = .ok (.aload_n 0, 1) := by decide +kernel
theorem dX4_hours_68 : decode cX4_hours 68 = .ok (.invokevirtual 130, 3) := by decide +kernel
theorem dX4_hours_71 : decode cX4_hours 71 = .ok (.aload_n 0, 1) := by decide +kernel
theorem dX4_hours_72 : decode cX4_hours 72 = .ok (.dup, 1) := by decide +kernel
theorem dX4_hours_73 : decode cX4_hours 73 = .ok (.getfield 113, 3) := by decide +kernel
theorem dX4_hours_76 : decode cX4_hours 76 = .ok (.iconst 1, 1) := by decide +kernel
theorem dX4_hours_77 : decode cX4_hours 77 = .ok (.iadd, 1) := by decide +kernel
theorem dX4_hours_78 : decode cX4_hours 78 = .ok (.putfield 113, 3) := by decide +kernel
theorem dX4_hours_81 : decode cX4_hours 81 = .ok (.iinc 2 1, 3) := by decide +kernel
theorem dX4_hours_84 : decode cX4_hours 84 = .ok (.goto (-54), 3) := by decide +kernel
theorem dX4_hours_87 : decode cX4_hours 87 = .ok (.aload_n 0, 1) := by decide +kernel
theorem dX4_hours_88 : decode cX4_hours 88 = .ok (.getfield 113, 3) := by decide +kernel
theorem dX4_hours_91 : decode cX4_hours 91 = .ok (.ireturn, 1) := by decide +kernel
theorem dX4_told_0 : decode cX4_told 0 = .ok (.aload_n 0, 1) := by decide +kernel
theorem dX4_told_1 : decode cX4_told 1 = .ok (.iload_n 1, 1) := by decide +kernel
theorem dX4_told_2 : decode cX4_told 2 = .ok (.invokevirtual 88, 3) := by decide +kernel
theorem dX4_told_5 : decode cX4_told 5 = .ok (.ifCond .eq 13, 3) := by decide +kernel
theorem dX4_told_8 : decode cX4_told 8 = .ok (.iload_n 2, 1) := by decide +kernel
theorem dX4_told_9 : decode cX4_told 9 = .ok (.iconst 0, 1) := by decide +kernel
theorem dX4_told_10 : decode cX4_told 10 = .ok (.bipush 7, 2) := by decide +kernel
theorem dX4_told_12 : decode cX4_told 12 = .ok (.invokestatic 77, 3) := by decide +kernel
theorem dX4_told_15 : decode cX4_told 15 = .ok (.ifCond .ne 5, 3) := by decide +kernel
theorem dX4_told_18 : decode cX4_told 18 = .ok (.iconst (-1), 1) := by decide +kernel
theorem dX4_told_19 : decode cX4_told 19 = .ok (.ireturn, 1) := by decide +kernel
theorem dX4_told_20 : decode cX4_told 20 = .ok (.iload_n 2, 1) := by decide +kernel
theorem dX4_told_21 : decode cX4_told 21 = .ok (.tableswitch 95 0 6 #[43, 50, 57, 64, 71, 81, 88], 43) := by decide +kernel
theorem dX4_told_64 : decode cX4_told 64 = .ok (.aload_n 0, 1) := by decide +kernel
theorem dX4_told_65 : decode cX4_told 65 = .ok (.getfield 16, 3) := by decide +kernel
theorem dX4_told_68 : decode cX4_told 68 = .ok (.iload_n 1, 1) := by decide +kernel
theorem dX4_told_69 : decode cX4_told 69 = .ok (.iaload, 1) := by decide +kernel
theorem dX4_told_70 : decode cX4_told 70 = .ok (.ireturn, 1) := by decide +kernel
theorem dX4_told_71 : decode cX4_told 71 = .ok (.aload_n 0, 1) := by decide +kernel
theorem dX4_told_72 : decode cX4_told 72 = .ok (.getfield 20, 3) := by decide +kernel
theorem dX4_told_75 : decode cX4_told 75 = .ok (.iload_n 1, 1) := by decide +kernel
theorem dX4_told_76 : decode cX4_told 76 = .ok (.iaload, 1) := by decide +kernel
theorem dX4_told_77 : decode cX4_told 77 = .ok (.ireturn, 1) := by decide +kernel
theorem dX4_told_78 : decode cX4_told 78 = .ok (.aload_n 0, 1) := by decide +kernel
theorem dX4_told_79 : decode cX4_told 79 = .ok (.getfield 23, 3) := by decide +kernel
theorem dX4_told_82 : decode cX4_told 82 = .ok (.iload_n 1, 1) := by decide +kernel
theorem dX4_told_83 : decode cX4_told 83 = .ok (.iaload, 1) := by decide +kernel
theorem dX4_told_84 : decode cX4_told 84 = .ok (.ireturn, 1) := by decide +kernel
theorem dX4_told_85 : decode cX4_told 85 = .ok (.aload_n 0, 1) := by decide +kernel
theorem dX4_told_86 : decode cX4_told 86 = .ok (.getfield 26, 3) := by decide +kernel
theorem dX4_told_89 : decode cX4_told 89 = .ok (.iload_n 1, 1) := by decide +kernel
theorem dX4_told_90 : decode cX4_told 90 = .ok (.iaload, 1) := by decide +kernel
theorem dX4_told_91 : decode cX4_told 91 = .ok (.ireturn, 1) := by decide +kernel
theorem dX4_told_92 : decode cX4_told 92 = .ok (.aload_n 0, 1) := by decide +kernel
theorem dX4_told_93 : decode cX4_told 93 = .ok (.getfield 32, 3) := by decide +kernel
theorem dX4_told_96 : decode cX4_told 96 = .ok (.iload_n 1, 1) := by decide +kernel
theorem dX4_told_97 : decode cX4_told 97 = .ok (.iaload, 1) := by decide +kernel
theorem dX4_told_98 : decode cX4_told 98 = .ok (.bipush 100, 2) := by decide +kernel
theorem dX4_told_100 : decode cX4_told 100 = .ok (.idiv, 1) := by decide +kernel
theorem dX4_told_101 : decode cX4_told 101 = .ok (.ireturn, 1) := by decide +kernel
theorem dX4_told_102 : decode cX4_told 102 = .ok (.aload_n 0, 1) := by decide +kernel
theorem dX4_told_103 : decode cX4_told 103 = .ok (.getfield 32, 3) := by decide +kernel
theorem dX4_told_106 : decode cX4_told 106 = .ok (.iload_n 1, 1) := by decide +kernel
theorem dX4_told_107 : decode cX4_told 107 = .ok (.iaload, 1) := by decide +kernel
theorem dX4_told_108 : decode cX4_told 108 = .ok (.ireturn, 1) := by decide +kernel
theorem dX4_told_109 : decode cX4_told 109 = .ok (.aload_n 0, 1) := by decide +kernel
theorem dX4_told_110 : decode cX4_told 110 = .ok (.iconst 0, 1) := by decide +kernel
theorem dX4_told_111 : decode cX4_told 111 = .ok (.iload_n 1, 1) := by decide +kernel
theorem dX4_told_112 : decode cX4_told 112 = .ok (.invokevirtual 105, 3) := by decide +kernel
theorem dX4_told_115 : decode cX4_told 115 = .ok (.ireturn, 1) := by decide +kernel
theorem dX4_told_116 : decode cX4_told 116 = .ok (.aload_n 0, 1) := by decide +kernel
theorem dX4_told_117 : decode cX4_told 117 = .ok (.getfield 35, 3) := by decide +kernel
theorem dX4_told_120 : decode cX4_told 120 = .ok (.iload_n 1, 1) := by decide +kernel
theorem dX4_told_121 : decode cX4_told 121 = .ok (.iaload, 1) := by decide +kernel
theorem dX4_told_122 : decode cX4_told 122 = .ok (.ireturn, 1) := by decide +kernel
theorem dX4_pane_0 : decode cX4_pane 0 = .ok (.aload_n 0, 1) := by decide +kernel
theorem dX4_pane_1 : decode cX4_pane 1 = .ok (.iload_n 1, 1) := by decide +kernel
theorem dX4_pane_2 : decode cX4_pane 2 = .ok (.iload_n 2, 1) := by decide +kernel
theorem dX4_pane_3 : decode cX4_pane 3 = .ok (.invokevirtual 92, 3) := by decide +kernel
theorem dX4_pane_6 : decode cX4_pane 6 = .ok (.ifCond .eq 12, 3) := by decide +kernel
theorem dX4_pane_9 : decode cX4_pane 9 = .ok (.iload_n 3, 1) := by decide +kernel
theorem dX4_pane_10 : decode cX4_pane 10 = .ok (.iconst 0, 1) := by decide +kernel
theorem dX4_pane_11 : decode cX4_pane 11 = .ok (.iconst 5, 1) := by decide +kernel
theorem dX4_pane_12 : decode cX4_pane 12 = .ok (.invokestatic 77, 3) := by decide +kernel
theorem dX4_pane_15 : decode cX4_pane 15 = .ok (.ifCond .ne 5, 3) := by decide +kernel
theorem dX4_pane_18 : decode cX4_pane 18 = .ok (.iconst (-1), 1) := by decide +kernel
theorem dX4_pane_19 : decode cX4_pane 19 = .ok (.ireturn, 1) := by decide +kernel
theorem dX4_pane_20 : decode cX4_pane 20 = .ok (.iconst 4, 1) := by decide +kernel
theorem dX4_pane_21 : decode cX4_pane 21 = .ok (.iload_n 1, 1) := by decide +kernel
theorem dX4_pane_22 : decode cX4_pane 22 = .ok (.imul, 1) := by decide +kernel
theorem dX4_pane_23 : decode cX4_pane 23 = .ok (.iload_n 2, 1) := by decide +kernel
theorem dX4_pane_24 : decode cX4_pane 24 = .ok (.iadd, 1) := by decide +kernel
theorem dX4_pane_25 : decode cX4_pane 25 = .ok (.istore 4, 2) := by decide +kernel
theorem dX4_pane_27 : decode cX4_pane 27 = .ok (.iload_n 3, 1) := by decide +kernel
theorem dX4_pane_28 : decode cX4_pane 28 = .ok (.tableswitch 76 0 4 #[36, 44, 52, 60, 68], 36) := by decide +kernel
theorem dX4_pane_64 : decode cX4_pane 64 = .ok (.aload_n 0, 1) := by decide +kernel
theorem dX4_pane_65 : decode cX4_pane 65 = .ok (.getfield 38, 3) := by decide +kernel
theorem dX4_pane_68 : decode cX4_pane 68 = .ok (.iload 4, 2) := by decide +kernel
theorem dX4_pane_70 : decode cX4_pane 70 = .ok (.iaload, 1) := by decide +kernel
theorem dX4_pane_71 : decode cX4_pane 71 = .ok (.ireturn, 1) := by decide +kernel
theorem dX4_pane_72 : decode cX4_pane 72 = .ok (.aload_n 0, 1) := by decide +kernel
theorem dX4_pane_73 : decode cX4_pane 73 = .ok (.getfield 41, 3) := by decide +kernel
theorem dX4_pane_76 : decode cX4_pane 76 = .ok (.iload 4, 2) := by decide +kernel
theorem dX4_pane_78 : decode cX4_pane 78 = .ok (.iaload, 1) := by decide +kernel
theorem dX4_pane_79 : decode cX4_pane 79 = .ok (.ireturn, 1) := by decide +kernel
theorem dX4_pane_80 : decode cX4_pane 80 = .ok (.aload_n 0, 1) := by decide +kernel
theorem dX4_pane_81 : decode cX4_pane 81 = .ok (.getfield 44, 3) := by decide +kernel
theorem dX4_pane_84 : decode cX4_pane 84 = .ok (.iload 4, 2) := by decide +kernel
theorem dX4_pane_86 : decode cX4_pane 86 = .ok (.iaload, 1) := by decide +kernel
theorem dX4_pane_87 : decode cX4_pane 87 = .ok (.ireturn, 1) := by decide +kernel
theorem dX4_pane_88 : decode cX4_pane 88 = .ok (.aload_n 0, 1) := by decide +kernel
theorem dX4_pane_89 : decode cX4_pane 89 = .ok (.getfield 47, 3) := by decide +kernel
theorem dX4_pane_92 : decode cX4_pane 92 = .ok (.iload 4, 2) := by decide +kernel
theorem dX4_pane_94 : decode cX4_pane 94 = .ok (.iaload, 1) := by decide +kernel
theorem dX4_pane_95 : decode cX4_pane 95 = .ok (.ireturn, 1) := by decide +kernel
theorem dX4_pane_96 : decode cX4_pane 96 = .ok (.aload_n 0, 1) := by decide +kernel
theorem dX4_pane_97 : decode cX4_pane 97 = .ok (.getfield 29, 3) := by decide +kernel
theorem dX4_pane_100 : decode cX4_pane 100 = .ok (.iload 4, 2) := by decide +kernel
theorem dX4_pane_102 : decode cX4_pane 102 = .ok (.iaload, 1) := by decide +kernel
theorem dX4_pane_103 : decode cX4_pane 103 = .ok (.ireturn, 1) := by decide +kernel
theorem dX4_pane_104 : decode cX4_pane 104 = .ok (.aload_n 0, 1) := by decide +kernel
theorem dX4_pane_105 : decode cX4_pane 105 = .ok (.getfield 50, 3) := by decide +kernel
theorem dX4_pane_108 : decode cX4_pane 108 = .ok (.iload 4, 2) := by decide +kernel
theorem dX4_pane_110 : decode cX4_pane 110 = .ok (.iaload, 1) := by decide +kernel
theorem dX4_pane_111 : decode cX4_pane 111 = .ok (.ireturn, 1) := by decide +kernel
theorem dX4_sum_0 : decode cX4_sum 0 = .ok (.iconst 0, 1) := by decide +kernel
theorem dX4_sum_1 : decode cX4_sum 1 = .ok (.istore_n 3, 1) := by decide +kernel
theorem dX4_sum_2 : decode cX4_sum 2 = .ok (.iconst 0, 1) := by decide +kernel
theorem dX4_sum_3 : decode cX4_sum 3 = .ok (.istore 4, 2) := by decide +kernel
theorem dX4_sum_5 : decode cX4_sum 5 = .ok (.iload 4, 2) := by decide +kernel
theorem dX4_sum_7 : decode cX4_sum 7 = .ok (.bipush 24, 2) := by decide +kernel
theorem dX4_sum_9 : decode cX4_sum 9 = .ok (.if_icmp .ge 21, 3) := by decide +kernel
theorem dX4_sum_12 : decode cX4_sum 12 = .ok (.iload_n 3, 1) := by decide +kernel
theorem dX4_sum_13 : decode cX4_sum 13 = .ok (.aload_n 1, 1) := by decide +kernel
theorem dX4_sum_14 : decode cX4_sum 14 = .ok (.bipush 24, 2) := by decide +kernel
theorem dX4_sum_16 : decode cX4_sum 16 = .ok (.iload_n 2, 1) := by decide +kernel
theorem dX4_sum_17 : decode cX4_sum 17 = .ok (.imul, 1) := by decide +kernel
theorem dX4_sum_18 : decode cX4_sum 18 = .ok (.iload 4, 2) := by decide +kernel
theorem dX4_sum_20 : decode cX4_sum 20 = .ok (.iadd, 1) := by decide +kernel
theorem dX4_sum_21 : decode cX4_sum 21 = .ok (.iaload, 1) := by decide +kernel
theorem dX4_sum_22 : decode cX4_sum 22 = .ok (.iadd, 1) := by decide +kernel
theorem dX4_sum_23 : decode cX4_sum 23 = .ok (.istore_n 3, 1) := by decide +kernel
theorem dX4_sum_24 : decode cX4_sum 24 = .ok (.iinc 4 1, 3) := by decide +kernel
theorem dX4_sum_27 : decode cX4_sum 27 = .ok (.goto (-22), 3) := by decide +kernel
theorem dX4_sum_30 : decode cX4_sum 30 = .ok (.iload_n 3, 1) := by decide +kernel
theorem dX4_sum_31 : decode cX4_sum 31 = .ok (.ireturn, 1) := by decide +kernel
theorem dX4_stream_0 : decode cX4_stream 0 = .ok (.iload_n 1, 1) := by decide +kernel
theorem dX4_stream_1 : decode cX4_stream 1 = .ok (.tableswitch 89 0 6 #[43, 48, 53, 58, 68, 75, 82], 43) := by decide +kernel
theorem dX4_stream_44 : decode cX4_stream 44 = .ok (.aload_n 0, 1) := by decide +kernel
theorem dX4_stream_45 : decode cX4_stream 45 = .ok (.getfield 7, 3) := by decide +kernel
theorem dX4_stream_48 : decode cX4_stream 48 = .ok (.ireturn, 1) := by decide +kernel
theorem dX4_stream_49 : decode cX4_stream 49 = .ok (.aload_n 0, 1) := by decide +kernel
theorem dX4_stream_50 : decode cX4_stream 50 = .ok (.getfield 13, 3) := by decide +kernel
theorem dX4_stream_53 : decode cX4_stream 53 = .ok (.ireturn, 1) := by decide +kernel
theorem dX4_stream_54 : decode cX4_stream 54 = .ok (.aload_n 0, 1) := by decide +kernel
theorem dX4_stream_55 : decode cX4_stream 55 = .ok (.getfield 123, 3) := by decide +kernel
theorem dX4_stream_58 : decode cX4_stream 58 = .ok (.ireturn, 1) := by decide +kernel
theorem dX4_stream_59 : decode cX4_stream 59 = .ok (.aload_n 0, 1) := by decide +kernel
theorem dX4_stream_60 : decode cX4_stream 60 = .ok (.aload_n 0, 1) := by decide +kernel
theorem dX4_stream_61 : decode cX4_stream 61 = .ok (.getfield 47, 3) := by decide +kernel
theorem dX4_stream_64 : decode cX4_stream 64 = .ok (.iconst 0, 1) := by decide +kernel
theorem dX4_stream_65 : decode cX4_stream 65 = .ok (.invokevirtual 133, 3) := by decide +kernel
theorem dX4_stream_68 : decode cX4_stream 68 = .ok (.ireturn, 1) := by decide +kernel
theorem dX4_stream_69 : decode cX4_stream 69 = .ok (.aload_n 0, 1) := by decide +kernel
theorem dX4_stream_70 : decode cX4_stream 70 = .ok (.getfield 53, 3) := by decide +kernel
theorem dX4_stream_73 : decode cX4_stream 73 = .ok (.iconst 0, 1) := by decide +kernel
theorem dX4_stream_74 : decode cX4_stream 74 = .ok (.iaload, 1) := by decide +kernel
theorem dX4_stream_75 : decode cX4_stream 75 = .ok (.ireturn, 1) := by decide +kernel
theorem dX4_stream_76 : decode cX4_stream 76 = .ok (.aload_n 0, 1) := by decide +kernel
theorem dX4_stream_77 : decode cX4_stream 77 = .ok (.getfield 56, 3) := by decide +kernel
theorem dX4_stream_80 : decode cX4_stream 80 = .ok (.iconst 0, 1) := by decide +kernel
theorem dX4_stream_81 : decode cX4_stream 81 = .ok (.iaload, 1) := by decide +kernel
theorem dX4_stream_82 : decode cX4_stream 82 = .ok (.ireturn, 1) := by decide +kernel
theorem dX4_stream_83 : decode cX4_stream 83 = .ok (.aload_n 0, 1) := by decide +kernel
theorem dX4_stream_84 : decode cX4_stream 84 = .ok (.getfield 59, 3) := by decide +kernel
theorem dX4_stream_87 : decode cX4_stream 87 = .ok (.iconst 0, 1) := by decide +kernel
theorem dX4_stream_88 : decode cX4_stream 88 = .ok (.iaload, 1) := by decide +kernel
theorem dX4_stream_89 : decode cX4_stream 89 = .ok (.ireturn, 1) := by decide +kernel
theorem dX4_stream_90 : decode cX4_stream 90 = .ok (.bipush (-100), 2) := by decide +kernel
theorem dX4_stream_92 : decode cX4_stream 92 = .ok (.ireturn, 1) := by decide +kernel
theorem dX4_broken_0 : decode cX4_broken 0 = .ok (.iload_n 1, 1) := by decide +kernel
theorem dX4_broken_1 : decode cX4_broken 1 = .ok (.iconst (-1), 1) := by decide +kernel
theorem dX4_broken_2 : decode cX4_broken 2 = .ok (.if_icmp .ne 12, 3) := by decide +kernel
theorem dX4_broken_5 : decode cX4_broken 5 = .ok (.iload_n 2, 1) := by decide +kernel
theorem dX4_broken_6 : decode cX4_broken 6 = .ok (.ifCond .ne 8, 3) := by decide +kernel
theorem dX4_broken_9 : decode cX4_broken 9 = .ok (.aload_n 0, 1) := by decide +kernel
theorem dX4_broken_10 : decode cX4_broken 10 = .ok (.getfield 116, 3) := by decide +kernel
theorem dX4_broken_13 : decode cX4_broken 13 = .ok (.ireturn, 1) := by decide +kernel
theorem dX4_broken_14 : decode cX4_broken 14 = .ok (.iload_n 1, 1) := by decide +kernel
theorem dX4_broken_15 : decode cX4_broken 15 = .ok (.ifCond .lt 12, 3) := by decide +kernel
theorem dX4_broken_18 : decode cX4_broken 18 = .ok (.iload_n 2, 1) := by decide +kernel
theorem dX4_broken_19 : decode cX4_broken 19 = .ok (.iconst 0, 1) := by decide +kernel
theorem dX4_broken_20 : decode cX4_broken 20 = .ok (.iconst 2, 1) := by decide +kernel
theorem dX4_broken_21 : decode cX4_broken 21 = .ok (.invokestatic 77, 3) := by decide +kernel
theorem dX4_broken_24 : decode cX4_broken 24 = .ok (.ifCond .ne 5, 3) := by decide +kernel
theorem dX4_broken_27 : decode cX4_broken 27 = .ok (.iconst (-1), 1) := by decide +kernel
theorem dX4_broken_28 : decode cX4_broken 28 = .ok (.ireturn, 1) := by decide +kernel
theorem dX4_broken_29 : decode cX4_broken 29 = .ok (.iload_n 1, 1) := by decide +kernel
theorem dX4_broken_30 : decode cX4_broken 30 = .ok (.aload_n 0, 1) := by decide +kernel
theorem dX4_broken_31 : decode cX4_broken 31 = .ok (.getfield 116, 3) := by decide +kernel
theorem dX4_broken_34 : decode cX4_broken 34 = .ok (.if_icmp .ge 9, 3) := by decide +kernel
theorem dX4_broken_37 : decode cX4_broken 37 = .ok (.iload_n 1, 1) := by decide +kernel
theorem dX4_broken_38 : decode cX4_broken 38 = .ok (.bipush 60, 2) := by decide +kernel
theorem dX4_broken_40 : decode cX4_broken 40 = .ok (.if_icmp .lt 6, 3) := by decide +kernel
theorem dX4_broken_43 : decode cX4_broken 43 = .ok (.bipush (-4), 2) := by decide +kernel
theorem dX4_broken_45 : decode cX4_broken 45 = .ok (.ireturn, 1) := by decide +kernel
theorem dX4_broken_46 : decode cX4_broken 46 = .ok (.iload_n 2, 1) := by decide +kernel
theorem dX4_broken_47 : decode cX4_broken 47 = .ok (.ifCond .ne 12, 3) := by decide +kernel
theorem dX4_broken_50 : decode cX4_broken 50 = .ok (.aload_n 0, 1) := by decide +kernel
theorem dX4_broken_51 : decode cX4_broken 51 = .ok (.getfield 62, 3) := by decide +kernel
theorem dX4_broken_54 : decode cX4_broken 54 = .ok (.iload_n 1, 1) := by decide +kernel
theorem dX4_broken_55 : decode cX4_broken 55 = .ok (.iaload, 1) := by decide +kernel
theorem dX4_broken_56 : decode cX4_broken 56 = .ok (.goto 23, 3) := by decide +kernel
theorem dX4_broken_59 : decode cX4_broken 59 = .ok (.iload_n 2, 1) := by decide +kernel
theorem dX4_broken_60 : decode cX4_broken 60 = .ok (.iconst 1, 1) := by decide +kernel
theorem dX4_broken_61 : decode cX4_broken 61 = .ok (.if_icmp .ne 12, 3) := by decide +kernel
theorem dX4_broken_64 : decode cX4_broken 64 = .ok (.aload_n 0, 1) := by decide +kernel
theorem dX4_broken_65 : decode cX4_broken 65 = .ok (.getfield 65, 3) := by decide +kernel
theorem dX4_broken_68 : decode cX4_broken 68 = .ok (.iload_n 1, 1) := by decide +kernel
theorem dX4_broken_69 : decode cX4_broken 69 = .ok (.iaload, 1) := by decide +kernel
theorem dX4_broken_70 : decode cX4_broken 70 = .ok (.goto 9, 3) := by decide +kernel
theorem dX4_broken_73 : decode cX4_broken 73 = .ok (.aload_n 0, 1) := by decide +kernel
theorem dX4_broken_74 : decode cX4_broken 74 = .ok (.getfield 68, 3) := by decide +kernel
theorem dX4_broken_77 : decode cX4_broken 77 = .ok (.iload_n 1, 1) := by decide +kernel
theorem dX4_broken_78 : decode cX4_broken 78 = .ok (.iaload, 1) := by decide +kernel
theorem dX4_broken_79 : decode cX4_broken 79 = .ok (.ireturn, 1) := by decide +kernel
theorem dX4_ofFarm_0 : decode cX4_ofFarm 0 = .ok (.iconst 0, 1) := by decide +kernel
theorem dX4_ofFarm_1 : decode cX4_ofFarm 1 = .ok (.istore 4, 2) := by decide +kernel
theorem dX4_ofFarm_3 : decode cX4_ofFarm 3 = .ok (.iconst 0, 1) := by decide +kernel
theorem dX4_ofFarm_4 : decode cX4_ofFarm 4 = .ok (.istore 5, 2) := by decide +kernel
theorem dX4_ofFarm_6 : decode cX4_ofFarm 6 = .ok (.iload 5, 2) := by decide +kernel
theorem dX4_ofFarm_8 : decode cX4_ofFarm 8 = .ok (.aload_n 0, 1) := by decide +kernel
theorem dX4_ofFarm_9 : decode cX4_ofFarm 9 = .ok (.getfield 74, 3) := by decide +kernel
theorem dX4_ofFarm_12 : decode cX4_ofFarm 12 = .ok (.if_icmp .ge 58, 3) := by decide +kernel
theorem dX4_ofFarm_15 : decode cX4_ofFarm 15 = .ok (.iconst 0, 1) := by decide +kernel
theorem dX4_ofFarm_16 : decode cX4_ofFarm 16 = .ok (.istore 6, 2) := by decide +kernel
theorem dX4_ofFarm_18 : decode cX4_ofFarm 18 = .ok (.iload 6, 2) := by decide +kernel
theorem dX4_ofFarm_20 : decode cX4_ofFarm 20 = .ok (.iconst 4, 1) := by decide +kernel
theorem dX4_ofFarm_21 : decode cX4_ofFarm 21 = .ok (.if_icmp .ge 43, 3) := by decide +kernel
theorem dX4_ofFarm_24 : decode cX4_ofFarm 24 = .ok (.iload 4, 2) := by decide +kernel
theorem dX4_ofFarm_26 : decode cX4_ofFarm 26 = .ok (.aload_n 0, 1) := by decide +kernel
theorem dX4_ofFarm_27 : decode cX4_ofFarm 27 = .ok (.getfield 16, 3) := by decide +kernel
theorem dX4_ofFarm_30 : decode cX4_ofFarm 30 = .ok (.iload 5, 2) := by decide +kernel
theorem dX4_ofFarm_32 : decode cX4_ofFarm 32 = .ok (.iaload, 1) := by decide +kernel
theorem dX4_ofFarm_33 : decode cX4_ofFarm 33 = .ok (.iload_n 3, 1) := by decide +kernel
theorem dX4_ofFarm_34 : decode cX4_ofFarm 34 = .ok (.if_icmp .ne 20, 3) := by decide +kernel
theorem dX4_ofFarm_37 : decode cX4_ofFarm 37 = .ok (.aload_n 1, 1) := by decide +kernel
theorem dX4_ofFarm_38 : decode cX4_ofFarm 38 = .ok (.bipush 24, 2) := by decide +kernel
theorem dX4_ofFarm_40 : decode cX4_ofFarm 40 = .ok (.iload_n 2, 1) := by decide +kernel
theorem dX4_ofFarm_41 : decode cX4_ofFarm 41 = .ok (.imul, 1) := by decide +kernel
theorem dX4_ofFarm_42 : decode cX4_ofFarm 42 = .ok (.iconst 4, 1) := by decide +kernel
theorem dX4_ofFarm_43 : decode cX4_ofFarm 43 = .ok (.iload 5, 2) := by decide +kernel
theorem dX4_ofFarm_45 : decode cX4_ofFarm 45 = .ok (.imul, 1) := by decide +kernel
theorem dX4_ofFarm_46 : decode cX4_ofFarm 46 = .ok (.iadd, 1) := by decide +kernel
theorem dX4_ofFarm_47 : decode cX4_ofFarm 47 = .ok (.iload 6, 2) := by decide +kernel
theorem dX4_ofFarm_49 : decode cX4_ofFarm 49 = .ok (.iadd, 1) := by decide +kernel
theorem dX4_ofFarm_50 : decode cX4_ofFarm 50 = .ok (.iaload, 1) := by decide +kernel
theorem dX4_ofFarm_51 : decode cX4_ofFarm 51 = .ok (.goto 4, 3) := by decide +kernel
theorem dX4_ofFarm_54 : decode cX4_ofFarm 54 = .ok (.iconst 0, 1) := by decide +kernel
theorem dX4_ofFarm_55 : decode cX4_ofFarm 55 = .ok (.iadd, 1) := by decide +kernel
theorem dX4_ofFarm_56 : decode cX4_ofFarm 56 = .ok (.istore 4, 2) := by decide +kernel
theorem dX4_ofFarm_58 : decode cX4_ofFarm 58 = .ok (.iinc 6 1, 3) := by decide +kernel
theorem dX4_ofFarm_61 : decode cX4_ofFarm 61 = .ok (.goto (-43), 3) := by decide +kernel
theorem dX4_ofFarm_64 : decode cX4_ofFarm 64 = .ok (.iinc 5 1, 3) := by decide +kernel
theorem dX4_ofFarm_67 : decode cX4_ofFarm 67 = .ok (.goto (-61), 3) := by decide +kernel
theorem dX4_ofFarm_70 : decode cX4_ofFarm 70 = .ok (.iload 4, 2) := by decide +kernel
theorem dX4_ofFarm_72 : decode cX4_ofFarm 72 = .ok (.ireturn, 1) := by decide +kernel
theorem dX4_farm_0 : decode cX4_farm 0 = .ok (.iload_n 1, 1) := by decide +kernel
theorem dX4_farm_1 : decode cX4_farm 1 = .ok (.iconst 0, 1) := by decide +kernel
theorem dX4_farm_2 : decode cX4_farm 2 = .ok (.iconst 3, 1) := by decide +kernel
theorem dX4_farm_3 : decode cX4_farm 3 = .ok (.invokestatic 77, 3) := by decide +kernel
theorem dX4_farm_6 : decode cX4_farm 6 = .ok (.ifCond .eq 12, 3) := by decide +kernel
theorem dX4_farm_9 : decode cX4_farm 9 = .ok (.iload_n 2, 1) := by decide +kernel
theorem dX4_farm_10 : decode cX4_farm 10 = .ok (.iconst 0, 1) := by decide +kernel
theorem dX4_farm_11 : decode cX4_farm 11 = .ok (.iconst 3, 1) := by decide +kernel
theorem dX4_farm_12 : decode cX4_farm 12 = .ok (.invokestatic 77, 3) := by decide +kernel
theorem dX4_farm_15 : decode cX4_farm 15 = .ok (.ifCond .ne 5, 3) := by decide +kernel
theorem dX4_farm_18 : decode cX4_farm 18 = .ok (.iconst (-1), 1) := by decide +kernel
theorem dX4_farm_19 : decode cX4_farm 19 = .ok (.ireturn, 1) := by decide +kernel
theorem dX4_farm_20 : decode cX4_farm 20 = .ok (.iload_n 2, 1) := by decide +kernel
theorem dX4_farm_21 : decode cX4_farm 21 = .ok (.ifCond .ne 16, 3) := by decide +kernel
theorem dX4_farm_24 : decode cX4_farm 24 = .ok (.aload_n 0, 1) := by decide +kernel
theorem dX4_farm_25 : decode cX4_farm 25 = .ok (.aload_n 0, 1) := by decide +kernel
theorem dX4_farm_26 : decode cX4_farm 26 = .ok (.getfield 38, 3) := by decide +kernel
theorem dX4_farm_29 : decode cX4_farm 29 = .ok (.iconst 0, 1) := by decide +kernel
theorem dX4_farm_30 : decode cX4_farm 30 = .ok (.iload_n 1, 1) := by decide +kernel
theorem dX4_farm_31 : decode cX4_farm 31 = .ok (.invokevirtual 137, 3) := by decide +kernel
theorem dX4_farm_34 : decode cX4_farm 34 = .ok (.goto 45, 3) := by decide +kernel
theorem dX4_farm_37 : decode cX4_farm 37 = .ok (.iload_n 2, 1) := by decide +kernel
theorem dX4_farm_38 : decode cX4_farm 38 = .ok (.iconst 1, 1) := by decide +kernel
theorem dX4_farm_39 : decode cX4_farm 39 = .ok (.if_icmp .ne 16, 3) := by decide +kernel
theorem dX4_farm_42 : decode cX4_farm 42 = .ok (.aload_n 0, 1) := by decide +kernel
theorem dX4_farm_43 : decode cX4_farm 43 = .ok (.aload_n 0, 1) := by decide +kernel
theorem dX4_farm_44 : decode cX4_farm 44 = .ok (.getfield 50, 3) := by decide +kernel
theorem dX4_farm_47 : decode cX4_farm 47 = .ok (.iconst 0, 1) := by decide +kernel
theorem dX4_farm_48 : decode cX4_farm 48 = .ok (.iload_n 1, 1) := by decide +kernel
theorem dX4_farm_49 : decode cX4_farm 49 = .ok (.invokevirtual 137, 3) := by decide +kernel
theorem dX4_farm_52 : decode cX4_farm 52 = .ok (.goto 27, 3) := by decide +kernel
theorem dX4_farm_55 : decode cX4_farm 55 = .ok (.iload_n 2, 1) := by decide +kernel
theorem dX4_farm_56 : decode cX4_farm 56 = .ok (.iconst 2, 1) := by decide +kernel
theorem dX4_farm_57 : decode cX4_farm 57 = .ok (.if_icmp .ne 16, 3) := by decide +kernel
theorem dX4_farm_60 : decode cX4_farm 60 = .ok (.aload_n 0, 1) := by decide +kernel
theorem dX4_farm_61 : decode cX4_farm 61 = .ok (.aload_n 0, 1) := by decide +kernel
theorem dX4_farm_62 : decode cX4_farm 62 = .ok (.getfield 44, 3) := by decide +kernel
theorem dX4_farm_65 : decode cX4_farm 65 = .ok (.iconst 0, 1) := by decide +kernel
theorem dX4_farm_66 : decode cX4_farm 66 = .ok (.iload_n 1, 1) := by decide +kernel
theorem dX4_farm_67 : decode cX4_farm 67 = .ok (.invokevirtual 137, 3) := by decide +kernel
theorem dX4_farm_70 : decode cX4_farm 70 = .ok (.goto 9, 3) := by decide +kernel
theorem dX4_farm_73 : decode cX4_farm 73 = .ok (.aload_n 0, 1) := by decide +kernel
theorem dX4_farm_74 : decode cX4_farm 74 = .ok (.getfield 71, 3) := by decide +kernel
theorem dX4_farm_77 : decode cX4_farm 77 = .ok (.iload_n 1, 1) := by decide +kernel
theorem dX4_farm_78 : decode cX4_farm 78 = .ok (.iaload, 1) := by decide +kernel
theorem dX4_farm_79 : decode cX4_farm 79 = .ok (.ireturn, 1) := by decide +kernel
theorem dX4_without_0 : decode cX4_without 0 = .ok (.aload_n 0, 1) := by decide +kernel
theorem dX4_without_1 : decode cX4_without 1 = .ok (.iload_n 1, 1) := by decide +kernel
theorem dX4_without_2 : decode cX4_without 2 = .ok (.invokevirtual 88, 3) := by decide +kernel
theorem dX4_without_5 : decode cX4_without 5 = .ok (.ifCond .eq 12, 3) := by decide +kernel
theorem dX4_without_8 : decode cX4_without 8 = .ok (.iload_n 2, 1) := by decide +kernel
theorem dX4_without_9 : decode cX4_without 9 = .ok (.iconst 0, 1) := by decide +kernel
theorem dX4_without_10 : decode cX4_without 10 = .ok (.iconst 5, 1) := by decide +kernel
theorem dX4_without_11 : decode cX4_without 11 = .ok (.invokestatic 77, 3) := by decide +kernel
theorem dX4_without_14 : decode cX4_without 14 = .ok (.ifCond .ne 5, 3) := by decide +kernel
theorem dX4_without_17 : decode cX4_without 17 = .ok (.iconst (-1), 1) := by decide +kernel
theorem dX4_without_18 : decode cX4_without 18 = .ok (.ireturn, 1) := by decide +kernel
theorem dX4_without_19 : decode cX4_without 19 = .ok (.iload_n 2, 1) := by decide +kernel
theorem dX4_without_20 : decode cX4_without 20 = .ok (.ifCond .ne 14, 3) := by decide +kernel
theorem dX4_without_23 : decode cX4_without 23 = .ok (.aload_n 0, 1) := by decide +kernel
theorem dX4_without_24 : decode cX4_without 24 = .ok (.getfield 53, 3) := by decide +kernel
theorem dX4_without_27 : decode cX4_without 27 = .ok (.iload_n 1, 1) := by decide +kernel
theorem dX4_without_28 : decode cX4_without 28 = .ok (.iconst 1, 1) := by decide +kernel
theorem dX4_without_29 : decode cX4_without 29 = .ok (.iadd, 1) := by decide +kernel
theorem dX4_without_30 : decode cX4_without 30 = .ok (.iaload, 1) := by decide +kernel
theorem dX4_without_31 : decode cX4_without 31 = .ok (.goto 33, 3) := by decide +kernel
theorem dX4_without_34 : decode cX4_without 34 = .ok (.iload_n 2, 1) := by decide +kernel
theorem dX4_without_35 : decode cX4_without 35 = .ok (.iconst 1, 1) := by decide +kernel
theorem dX4_without_36 : decode cX4_without 36 = .ok (.if_icmp .ne 14, 3) := by decide +kernel
theorem dX4_without_39 : decode cX4_without 39 = .ok (.aload_n 0, 1) := by decide +kernel
theorem dX4_without_40 : decode cX4_without 40 = .ok (.getfield 59, 3) := by decide +kernel
theorem dX4_without_43 : decode cX4_without 43 = .ok (.iload_n 1, 1) := by decide +kernel
theorem dX4_without_44 : decode cX4_without 44 = .ok (.iconst 1, 1) := by decide +kernel
theorem dX4_without_45 : decode cX4_without 45 = .ok (.iadd, 1) := by decide +kernel
theorem dX4_without_46 : decode cX4_without 46 = .ok (.iaload, 1) := by decide +kernel
theorem dX4_without_47 : decode cX4_without 47 = .ok (.goto 17, 3) := by decide +kernel
theorem dX4_without_50 : decode cX4_without 50 = .ok (.aload_n 0, 1) := by decide +kernel
