theorem dX6_placed_23 : decode cX6_placed 23 = .ok (.aload_n 0, 1) := by decide +kernel
theorem dX6_placed_24 : decode cX6_placed 24 = .ok (.getfield 78, 3) := by decide +kernel
theorem dX6_placed_27 : decode cX6_placed 27 = .ok (.iload 4, 2) := by decide +kernel
theorem dX6_placed_29 : decode cX6_placed 29 = .ok (.iload 6, 2) := by decide +kernel
theorem dX6_placed_31 : decode cX6_placed 31 = .ok (.iadd, 1) := by decide +kernel
theorem dX6_placed_32 : decode cX6_placed 32 = .ok (.iaload, 1) := by decide +kernel
theorem dX6_placed_33 : decode cX6_placed 33 = .ok (.istore 7, 2) := by decide +kernel
theorem dX6_placed_35 : decode cX6_placed 35 = .ok (.iload 7, 2) := by decide +kernel
theorem dX6_placed_37 : decode cX6_placed 37 = .ok (.iload_n 2, 1) := by decide +kernel
theorem dX6_placed_38 : decode cX6_placed 38 = .ok (.if_icmp .eq 80, 3) := by decide +kernel
theorem dX6_placed_41 : decode cX6_placed 41 = .ok (.aload_n 0, 1) := by decide +kernel
theorem dX6_placed_42 : decode cX6_placed 42 = .ok (.getfield 108, 3) := by decide +kernel
theorem dX6_placed_45 : decode cX6_placed 45 = .ok (.iload 4, 2) := by decide +kernel
theorem dX6_placed_47 : decode cX6_placed 47 = .ok (.iload 7, 2) := by decide +kernel
theorem dX6_placed_49 : decode cX6_placed 49 = .ok (.iadd, 1) := by decide +kernel
theorem dX6_placed_50 : decode cX6_placed 50 = .ok (.iaload, 1) := by decide +kernel
theorem dX6_placed_51 : decode cX6_placed 51 = .ok (.ifCond .ge 6, 3) := by decide +kernel
theorem dX6_placed_54 : decode cX6_placed 54 = .ok (.goto 64, 3) := by decide +kernel
theorem dX6_placed_57 : decode cX6_placed 57 = .ok (.iload 5, 2) := by decide +kernel
theorem dX6_placed_59 : decode cX6_placed 59 = .ok (.iload_n 3, 1) := by decide +kernel
theorem dX6_placed_60 : decode cX6_placed 60 = .ok (.ifCond .eq 28, 3) := by decide +kernel
theorem dX6_placed_63 : decode cX6_placed 63 = .ok (.aload_n 0, 1) := by decide +kernel
theorem dX6_placed_64 : decode cX6_placed 64 = .ok (.getfield 111, 3) := by decide +kernel
theorem dX6_placed_67 : decode cX6_placed 67 = .ok (.iload 4, 2) := by decide +kernel
theorem dX6_placed_69 : decode cX6_placed 69 = .ok (.iload 7, 2) := by decide +kernel
theorem dX6_placed_71 : decode cX6_placed 71 = .ok (.iadd, 1) := by decide +kernel
theorem dX6_placed_72 : decode cX6_placed 72 = .ok (.iaload, 1) := by decide +kernel
theorem dX6_placed_73 : decode cX6_placed 73 = .ok (.aload_n 0, 1) := by decide +kernel
theorem dX6_placed_74 : decode cX6_placed 74 = .ok (.getfield 108, 3) := by decide +kernel
theorem dX6_placed_77 : decode cX6_placed 77 = .ok (.iload 4, 2) := by decide +kernel
theorem dX6_placed_79 : decode cX6_placed 79 = .ok (.iload_n 2, 1) := by decide +kernel
theorem dX6_placed_80 : decode cX6_placed 80 = .ok (.iadd, 1) := by decide +kernel
theorem dX6_placed_81 : decode cX6_placed 81 = .ok (.iaload, 1) := by decide +kernel
theorem dX6_placed_82 : decode cX6_placed 82 = .ok (.if_icmp .ge 32, 3) := by decide +kernel
theorem dX6_placed_85 : decode cX6_placed 85 = .ok (.goto 25, 3) := by decide +kernel
theorem dX6_placed_88 : decode cX6_placed 88 = .ok (.aload_n 0, 1) := by decide +kernel
theorem dX6_placed_89 : decode cX6_placed 89 = .ok (.getfield 108, 3) := by decide +kernel
theorem dX6_placed_92 : decode cX6_placed 92 = .ok (.iload 4, 2) := by decide +kernel
theorem dX6_placed_94 : decode cX6_placed 94 = .ok (.iload 7, 2) := by decide +kernel
theorem dX6_placed_96 : decode cX6_placed 96 = .ok (.iadd, 1) := by decide +kernel
theorem dX6_placed_97 : decode cX6_placed 97 = .ok (.iaload, 1) := by decide +kernel
theorem dX6_placed_98 : decode cX6_placed 98 = .ok (.aload_n 0, 1) := by decide +kernel
theorem dX6_placed_99 : decode cX6_placed 99 = .ok (.getfield 111, 3) := by decide +kernel
theorem dX6_placed_102 : decode cX6_placed 102 = .ok (.iload 4, 2) := by decide +kernel
theorem dX6_placed_104 : decode cX6_placed 104 = .ok (.iload_n 2, 1) := by decide +kernel
theorem dX6_placed_105 : decode cX6_placed 105 = .ok (.iadd, 1) := by decide +kernel
theorem dX6_placed_106 : decode cX6_placed 106 = .ok (.iaload, 1) := by decide +kernel
theorem dX6_placed_107 : decode cX6_placed 107 = .ok (.if_icmp .ge 7, 3) := by decide +kernel
theorem dX6_placed_110 : decode cX6_placed 110 = .ok (.iconst 1, 1) := by decide +kernel
theorem dX6_placed_111 : decode cX6_placed 111 = .ok (.goto 4, 3) := by decide +kernel
theorem dX6_placed_114 : decode cX6_placed 114 = .ok (.iconst 0, 1) := by decide +kernel
theorem dX6_placed_115 : decode cX6_placed 115 = .ok (.iadd, 1) := by decide +kernel
theorem dX6_placed_116 : decode cX6_placed 116 = .ok (.istore 5, 2) := by decide +kernel
theorem dX6_placed_118 : decode cX6_placed 118 = .ok (.iinc 6 1, 3) := by decide +kernel
theorem dX6_placed_121 : decode cX6_placed 121 = .ok (.goto (-109), 3) := by decide +kernel
theorem dX6_placed_124 : decode cX6_placed 124 = .ok (.iload 5, 2) := by decide +kernel
theorem dX6_placed_126 : decode cX6_placed 126 = .ok (.ireturn, 1) := by decide +kernel
theorem dX6_isDay_0 : decode cX6_isDay 0 = .ok (.iload_n 1, 1) := by decide +kernel
theorem dX6_isDay_1 : decode cX6_isDay 1 = .ok (.ifCond .lt 15, 3) := by decide +kernel
theorem dX6_isDay_4 : decode cX6_isDay 4 = .ok (.iload_n 1, 1) := by decide +kernel
theorem dX6_isDay_5 : decode cX6_isDay 5 = .ok (.aload_n 0, 1) := by decide +kernel
theorem dX6_isDay_6 : decode cX6_isDay 6 = .ok (.getfield 194, 3) := by decide +kernel
theorem dX6_isDay_9 : decode cX6_isDay 9 = .ok (.if_icmp .gt 7, 3) := by decide +kernel
theorem dX6_isDay_12 : decode cX6_isDay 12 = .ok (.iconst 1, 1) := by decide +kernel
theorem dX6_isDay_13 : decode cX6_isDay 13 = .ok (.goto 4, 3) := by decide +kernel
theorem dX6_isDay_16 : decode cX6_isDay 16 = .ok (.iconst 0, 1) := by decide +kernel
theorem dX6_isDay_17 : decode cX6_isDay 17 = .ok (.ireturn, 1) := by decide +kernel
theorem dX6_time_0 : decode cX6_time 0 = .ok (.aload_n 0, 1) := by decide +kernel
theorem dX6_time_1 : decode cX6_time 1 = .ok (.iconst 0, 1) := by decide +kernel
theorem dX6_time_2 : decode cX6_time 2 = .ok (.putfield 126, 3) := by decide +kernel
theorem dX6_time_5 : decode cX6_time 5 = .ok (.aload_n 0, 1) := by decide +kernel
theorem dX6_time_6 : decode cX6_time 6 = .ok (.iload_n 1, 1) := by decide +kernel
theorem dX6_time_7 : decode cX6_time 7 = .ok (.iload_n 2, 1) := by decide +kernel
theorem dX6_time_8 : decode cX6_time 8 = .ok (.invokevirtual 210, 3) := by decide +kernel
theorem dX6_time_11 : decode cX6_time 11 = .ok (.ifCond .eq 23, 3) := by decide +kernel
theorem dX6_time_14 : decode cX6_time 14 = .ok (.aload_n 0, 1) := by decide +kernel
theorem dX6_time_15 : decode cX6_time 15 = .ok (.iload_n 3, 1) := by decide +kernel
theorem dX6_time_16 : decode cX6_time 16 = .ok (.invokevirtual 241, 3) := by decide +kernel
theorem dX6_time_19 : decode cX6_time 19 = .ok (.ifCond .eq 15, 3) := by decide +kernel
theorem dX6_time_22 : decode cX6_time 22 = .ok (.iload 4, 2) := by decide +kernel
theorem dX6_time_24 : decode cX6_time 24 = .ok (.ifCond .lt 10, 3) := by decide +kernel
theorem dX6_time_27 : decode cX6_time 27 = .ok (.iload 4, 2) := by decide +kernel
theorem dX6_time_29 : decode cX6_time 29 = .ok (.bipush 7, 2) := by decide +kernel
theorem dX6_time_31 : decode cX6_time 31 = .ok (.if_icmp .le 6, 3) := by decide +kernel
theorem dX6_time_34 : decode cX6_time 34 = .ok (.bipush (-2), 2) := by decide +kernel
theorem dX6_time_36 : decode cX6_time 36 = .ok (.ireturn, 1) := by decide +kernel
theorem dX6_time_37 : decode cX6_time 37 = .ok (.aload_n 0, 1) := by decide +kernel
theorem dX6_time_38 : decode cX6_time 38 = .ok (.iload_n 1, 1) := by decide +kernel
theorem dX6_time_39 : decode cX6_time 39 = .ok (.iload_n 3, 1) := by decide +kernel
theorem dX6_time_40 : decode cX6_time 40 = .ok (.invokevirtual 244, 3) := by decide +kernel
theorem dX6_time_43 : decode cX6_time 43 = .ok (.bipush 16, 2) := by decide +kernel
theorem dX6_time_45 : decode cX6_time 45 = .ok (.iload_n 1, 1) := by decide +kernel
theorem dX6_time_46 : decode cX6_time 46 = .ok (.imul, 1) := by decide +kernel
theorem dX6_time_47 : decode cX6_time 47 = .ok (.iload_n 2, 1) := by decide +kernel
theorem dX6_time_48 : decode cX6_time 48 = .ok (.iadd, 1) := by decide +kernel
theorem dX6_time_49 : decode cX6_time 49 = .ok (.istore 5, 2) := by decide +kernel
theorem dX6_time_51 : decode cX6_time 51 = .ok (.iload 4, 2) := by decide +kernel
theorem dX6_time_53 : decode cX6_time 53 = .ok (.tableswitch 138 0 6 #[43, 51, 59, 67, 89, 111, 130], 43) := by decide +kernel
theorem dX6_time_96 : decode cX6_time 96 = .ok (.aload_n 0, 1) := by decide +kernel
theorem dX6_time_97 : decode cX6_time 97 = .ok (.getfield 105, 3) := by decide +kernel
theorem dX6_time_100 : decode cX6_time 100 = .ok (.iload 5, 2) := by decide +kernel
theorem dX6_time_102 : decode cX6_time 102 = .ok (.iaload, 1) := by decide +kernel
theorem dX6_time_103 : decode cX6_time 103 = .ok (.ireturn, 1) := by decide +kernel
theorem dX6_time_104 : decode cX6_time 104 = .ok (.aload_n 0, 1) := by decide +kernel
theorem dX6_time_105 : decode cX6_time 105 = .ok (.getfield 108, 3) := by decide +kernel
theorem dX6_time_108 : decode cX6_time 108 = .ok (.iload 5, 2) := by decide +kernel
theorem dX6_time_110 : decode cX6_time 110 = .ok (.iaload, 1) := by decide +kernel
theorem dX6_time_111 : decode cX6_time 111 = .ok (.ireturn, 1) := by decide +kernel
theorem dX6_time_112 : decode cX6_time 112 = .ok (.aload_n 0, 1) := by decide +kernel
theorem dX6_time_113 : decode cX6_time 113 = .ok (.getfield 111, 3) := by decide +kernel
theorem dX6_time_116 : decode cX6_time 116 = .ok (.iload 5, 2) := by decide +kernel
theorem dX6_time_118 : decode cX6_time 118 = .ok (.iaload, 1) := by decide +kernel
theorem dX6_time_119 : decode cX6_time 119 = .ok (.ireturn, 1) := by decide +kernel
theorem dX6_time_120 : decode cX6_time 120 = .ok (.aload_n 0, 1) := by decide +kernel
theorem dX6_time_121 : decode cX6_time 121 = .ok (.getfield 108, 3) := by decide +kernel
theorem dX6_time_124 : decode cX6_time 124 = .ok (.iload 5, 2) := by decide +kernel
theorem dX6_time_126 : decode cX6_time 126 = .ok (.iaload, 1) := by decide +kernel
theorem dX6_time_127 : decode cX6_time 127 = .ok (.ifCond .ge 7, 3) := by decide +kernel
theorem dX6_time_130 : decode cX6_time 130 = .ok (.iconst (-1), 1) := by decide +kernel
theorem dX6_time_131 : decode cX6_time 131 = .ok (.goto 10, 3) := by decide +kernel
theorem dX6_time_134 : decode cX6_time 134 = .ok (.aload_n 0, 1) := by decide +kernel
theorem dX6_time_135 : decode cX6_time 135 = .ok (.iload_n 1, 1) := by decide +kernel
theorem dX6_time_136 : decode cX6_time 136 = .ok (.iload_n 2, 1) := by decide +kernel
theorem dX6_time_137 : decode cX6_time 137 = .ok (.iconst 1, 1) := by decide +kernel
theorem dX6_time_138 : decode cX6_time 138 = .ok (.invokevirtual 248, 3) := by decide +kernel
theorem dX6_time_141 : decode cX6_time 141 = .ok (.ireturn, 1) := by decide +kernel
theorem dX6_time_142 : decode cX6_time 142 = .ok (.aload_n 0, 1) := by decide +kernel
theorem dX6_time_143 : decode cX6_time 143 = .ok (.getfield 108, 3) := by decide +kernel
theorem dX6_time_146 : decode cX6_time 146 = .ok (.iload 5, 2) := by decide +kernel
theorem dX6_time_148 : decode cX6_time 148 = .ok (.iaload, 1) := by decide +kernel
theorem dX6_time_149 : decode cX6_time 149 = .ok (.ifCond .ge 7, 3) := by decide +kernel
theorem dX6_time_152 : decode cX6_time 152 = .ok (.iconst (-1), 1) := by decide +kernel
theorem dX6_time_153 : decode cX6_time 153 = .ok (.goto 10, 3) := by decide +kernel
theorem dX6_time_156 : decode cX6_time 156 = .ok (.aload_n 0, 1) := by decide +kernel
theorem dX6_time_157 : decode cX6_time 157 = .ok (.iload_n 1, 1) := by decide +kernel
theorem dX6_time_158 : decode cX6_time 158 = .ok (.iload_n 2, 1) := by decide +kernel
theorem dX6_time_159 : decode cX6_time 159 = .ok (.iconst 0, 1) := by decide +kernel
theorem dX6_time_160 : decode cX6_time 160 = .ok (.invokevirtual 248, 3) := by decide +kernel
theorem dX6_time_163 : decode cX6_time 163 = .ok (.ireturn, 1) := by decide +kernel
theorem dX6_time_164 : decode cX6_time 164 = .ok (.aload_n 0, 1) := by decide +kernel
theorem dX6_time_165 : decode cX6_time 165 = .ok (.iload_n 1, 1) := by decide +kernel
theorem dX6_time_166 : decode cX6_time 166 = .ok (.iload_n 2, 1) := by decide +kernel
theorem dX6_time_167 : decode cX6_time 167 = .ok (.iconst 3, 1) := by decide +kernel
theorem dX6_time_168 : decode cX6_time 168 = .ok (.iconst 0, 1) := by decide +kernel
theorem dX6_time_169 : decode cX6_time 169 = .ok (.iload_n 3, 1) := by decide +kernel
theorem dX6_time_170 : decode cX6_time 170 = .ok (.invokevirtual 230, 3) := by decide +kernel
theorem dX6_time_173 : decode cX6_time 173 = .ok (.iconst 1, 1) := by decide +kernel
theorem dX6_time_174 : decode cX6_time 174 = .ok (.if_icmp .ne 7, 3) := by decide +kernel
theorem dX6_time_177 : decode cX6_time 177 = .ok (.iconst 1, 1) := by decide +kernel
theorem dX6_time_178 : decode cX6_time 178 = .ok (.goto 4, 3) := by decide +kernel
theorem dX6_time_181 : decode cX6_time 181 = .ok (.iconst 0, 1) := by decide +kernel
theorem dX6_time_182 : decode cX6_time 182 = .ok (.ireturn, 1) := by decide +kernel
theorem dX6_time_183 : decode cX6_time 183 = .ok (.aload_n 0, 1) := by decide +kernel
theorem dX6_time_184 : decode cX6_time 184 = .ok (.getfield 114, 3) := by decide +kernel
theorem dX6_time_187 : decode cX6_time 187 = .ok (.iload 5, 2) := by decide +kernel
theorem dX6_time_189 : decode cX6_time 189 = .ok (.iaload, 1) := by decide +kernel
theorem dX6_time_190 : decode cX6_time 190 = .ok (.ireturn, 1) := by decide +kernel
theorem dX6_time_191 : decode cX6_time 191 = .ok (.aload_n 0, 1) := by decide +kernel
theorem dX6_time_192 : decode cX6_time 192 = .ok (.getfield 117, 3) := by decide +kernel
theorem dX6_time_195 : decode cX6_time 195 = .ok (.iload 5, 2) := by decide +kernel
theorem dX6_time_197 : decode cX6_time 197 = .ok (.iaload, 1) := by decide +kernel
theorem dX6_time_198 : decode cX6_time 198 = .ok (.ireturn, 1) := by decide +kernel
theorem dX6_split_0 : decode cX6_split 0 = .ok (.aload_n 0, 1) := by decide +kernel
theorem dX6_split_1 : decode cX6_split 1 = .ok (.iconst 0, 1) := by decide +kernel
theorem dX6_split_2 : decode cX6_split 2 = .ok (.putfield 126, 3) := by decide +kernel
theorem dX6_split_5 : decode cX6_split 5 = .ok (.aload_n 0, 1) := by decide +kernel
theorem dX6_split_6 : decode cX6_split 6 = .ok (.iload_n 1, 1) := by decide +kernel
theorem dX6_split_7 : decode cX6_split 7 = .ok (.iload_n 2, 1) := by decide +kernel
theorem dX6_split_8 : decode cX6_split 8 = .ok (.invokevirtual 210, 3) := by decide +kernel
theorem dX6_split_11 : decode cX6_split 11 = .ok (.ifCond .eq 27, 3) := by decide +kernel
theorem dX6_split_14 : decode cX6_split 14 = .ok (.aload_n 0, 1) := by decide +kernel
theorem dX6_split_15 : decode cX6_split 15 = .ok (.iload 4, 2) := by decide +kernel
theorem dX6_split_17 : decode cX6_split 17 = .ok (.invokevirtual 241, 3) := by decide +kernel
theorem dX6_split_20 : decode cX6_split 20 = .ok (.ifCond .eq 18, 3) := by decide +kernel
theorem dX6_split_23 : decode cX6_split 23 = .ok (.iload_n 3, 1) := by decide +kernel
theorem dX6_split_24 : decode cX6_split 24 = .ok (.iconst 1, 1) := by decide +kernel
theorem dX6_split_25 : decode cX6_split 25 = .ok (.if_icmp .lt 13, 3) := by decide +kernel
theorem dX6_split_28 : decode cX6_split 28 = .ok (.iload_n 3, 1) := by decide +kernel
theorem dX6_split_29 : decode cX6_split 29 = .ok (.aload_n 0, 1) := by decide +kernel
theorem dX6_split_30 : decode cX6_split 30 = .ok (.getfield 48, 3) := by decide +kernel
theorem dX6_split_33 : decode cX6_split 33 = .ok (.iload_n 1, 1) := by decide +kernel
theorem dX6_split_34 : decode cX6_split 34 = .ok (.iaload, 1) := by decide +kernel
theorem dX6_split_35 : decode cX6_split 35 = .ok (.if_icmp .le 6, 3) := by decide +kernel
theorem dX6_split_38 : decode cX6_split 38 = .ok (.bipush (-2), 2) := by decide +kernel
theorem dX6_split_40 : decode cX6_split 40 = .ok (.ireturn, 1) := by decide +kernel
theorem dX6_split_41 : decode cX6_split 41 = .ok (.aload_n 0, 1) := by decide +kernel
theorem dX6_split_42 : decode cX6_split 42 = .ok (.iload_n 1, 1) := by decide +kernel
theorem dX6_split_43 : decode cX6_split 43 = .ok (.iload 4, 2) := by decide +kernel
theorem dX6_split_45 : decode cX6_split 45 = .ok (.invokevirtual 244, 3) := by decide +kernel
theorem dX6_split_48 : decode cX6_split 48 = .ok (.aload_n 0, 1) := by decide +kernel
theorem dX6_split_49 : decode cX6_split 49 = .ok (.iload_n 1, 1) := by decide +kernel
theorem dX6_split_50 : decode cX6_split 50 = .ok (.iload_n 2, 1) := by decide +kernel
theorem dX6_split_51 : decode cX6_split 51 = .ok (.iconst 0, 1) := by decide +kernel
theorem dX6_split_52 : decode cX6_split 52 = .ok (.iload_n 3, 1) := by decide +kernel
theorem dX6_split_53 : decode cX6_split 53 = .ok (.iload 4, 2) := by decide +kernel
theorem dX6_split_55 : decode cX6_split 55 = .ok (.invokevirtual 230, 3) := by decide +kernel
theorem dX6_split_58 : decode cX6_split 58 = .ok (.istore 5, 2) := by decide +kernel
theorem dX6_split_60 : decode cX6_split 60 = .ok (.aload_n 0, 1) := by decide +kernel
theorem dX6_split_61 : decode cX6_split 61 = .ok (.getfield 105, 3) := by decide +kernel
theorem dX6_split_64 : decode cX6_split 64 = .ok (.bipush 16, 2) := by decide +kernel
theorem dX6_split_66 : decode cX6_split 66 = .ok (.iload_n 1, 1) := by decide +kernel
theorem dX6_split_67 : decode cX6_split 67 = .ok (.imul, 1) := by decide +kernel
theorem dX6_split_68 : decode cX6_split 68 = .ok (.iload_n 2, 1) := by decide +kernel
theorem dX6_split_69 : decode cX6_split 69 = .ok (.iadd, 1) := by decide +kernel
theorem dX6_split_70 : decode cX6_split 70 = .ok (.iaload, 1) := by decide +kernel
theorem dX6_split_71 : decode cX6_split 71 = .ok (.istore 6, 2) := by decide +kernel
theorem dX6_split_73 : decode cX6_split 73 = .ok (.iload 5, 2) := by decide +kernel
theorem dX6_split_75 : decode cX6_split 75 = .ok (.ifCond .lt 15, 3) := by decide +kernel
theorem dX6_split_78 : decode cX6_split 78 = .ok (.iload 6, 2) := by decide +kernel
theorem dX6_split_80 : decode cX6_split 80 = .ok (.ifCond .lt 10, 3) := by decide +kernel
theorem dX6_split_83 : decode cX6_split 83 = .ok (.iload 5, 2) := by decide +kernel
theorem dX6_split_85 : decode cX6_split 85 = .ok (.iload 6, 2) := by decide +kernel
theorem dX6_split_87 : decode cX6_split 87 = .ok (.if_icmp .ge 7, 3) := by decide +kernel
theorem dX6_split_90 : decode cX6_split 90 = .ok (.iconst (-1), 1) := by decide +kernel
theorem dX6_split_91 : decode cX6_split 91 = .ok (.goto 8, 3) := by decide +kernel
theorem dX6_split_94 : decode cX6_split 94 = .ok (.iload 5, 2) := by decide +kernel
theorem dX6_split_96 : decode cX6_split 96 = .ok (.iload 6, 2) := by decide +kernel
theorem dX6_split_98 : decode cX6_split 98 = .ok (.isub, 1) := by decide +kernel
theorem dX6_split_99 : decode cX6_split 99 = .ok (.ireturn, 1) := by decide +kernel
theorem dX6_order_0 : decode cX6_order 0 = .ok (.aload_n 0, 1) := by decide +kernel
theorem dX6_order_1 : decode cX6_order 1 = .ok (.iconst 0, 1) := by decide +kernel
theorem dX6_order_2 : decode cX6_order 2 = .ok (.putfield 126, 3) := by decide +kernel
theorem dX6_order_5 : decode cX6_order 5 = .ok (.aload_n 0, 1) := by decide +kernel
theorem dX6_order_6 : decode cX6_order 6 = .ok (.iload_n 1, 1) := by decide +kernel
theorem dX6_order_7 : decode cX6_order 7 = .ok (.invokevirtual 203, 3) := by decide +kernel
theorem dX6_order_10 : decode cX6_order 10 = .ok (.ifCond .eq 11, 3) := by decide +kernel
theorem dX6_order_13 : decode cX6_order 13 = .ok (.aload_n 0, 1) := by decide +kernel
theorem dX6_order_14 : decode cX6_order 14 = .ok (.iload_n 2, 1) := by decide +kernel
theorem dX6_order_15 : decode cX6_order 15 = .ok (.invokevirtual 241, 3) := by decide +kernel
theorem dX6_order_18 : decode cX6_order 18 = .ok (.ifCond .ne 5, 3) := by decide +kernel
theorem dX6_order_21 : decode cX6_order 21 = .ok (.iconst (-1), 1) := by decide +kernel
theorem dX6_order_22 : decode cX6_order 22 = .ok (.ireturn, 1) := by decide +kernel
theorem dX6_order_23 : decode cX6_order 23 = .ok (.aload_n 0, 1) := by decide +kernel
theorem dX6_order_24 : decode cX6_order 24 = .ok (.iload_n 1, 1) := by decide +kernel
theorem dX6_order_25 : decode cX6_order 25 = .ok (.iload_n 2, 1) := by decide +kernel
theorem dX6_order_26 : decode cX6_order 26 = .ok (.invokevirtual 244, 3) := by decide +kernel
theorem dX6_order_29 : decode cX6_order 29 = .ok (.iconst 0, 1) := by decide +kernel
theorem dX6_order_30 : decode cX6_order 30 = .ok (.istore 4, 2) := by decide +kernel
theorem dX6_order_32 : decode cX6_order 32 = .ok (.iconst 0, 1) := by decide +kernel
theorem dX6_order_33 : decode cX6_order 33 = .ok (.istore 5, 2) := by decide +kernel
theorem dX6_order_35 : decode cX6_order 35 = .ok (.iload 5, 2) := by decide +kernel
theorem dX6_order_37 : decode cX6_order 37 = .ok (.aload_n 0, 1) := by decide +kernel
theorem dX6_order_38 : decode cX6_order 38 = .ok (.getfield 72, 3) := by decide +kernel
theorem dX6_order_41 : decode cX6_order 41 = .ok (.iload_n 1, 1) := by decide +kernel
theorem dX6_order_42 : decode cX6_order 42 = .ok (.iaload, 1) := by decide +kernel
theorem dX6_order_43 : decode cX6_order 43 = .ok (.if_icmp .ge 118, 3) := by decide +kernel
theorem dX6_order_46 : decode cX6_order 46 = .ok (.aload_n 0, 1) := by decide +kernel
theorem dX6_order_47 : decode cX6_order 47 = .ok (.getfield 78, 3) := by decide +kernel
theorem dX6_order_50 : decode cX6_order 50 = .ok (.bipush 16, 2) := by decide +kernel
theorem dX6_order_52 : decode cX6_order 52 = .ok (.iload_n 1, 1) := by decide +kernel
theorem dX6_order_53 : decode cX6_order 53 = .ok (.imul, 1) := by decide +kernel
theorem dX6_order_54 : decode cX6_order 54 = .ok (.iload 5, 2) := by decide +kernel
theorem dX6_order_56 : decode cX6_order 56 = .ok (.iadd, 1) := by decide +kernel
theorem dX6_order_57 : decode cX6_order 57 = .ok (.iaload, 1) := by decide +kernel
theorem dX6_order_58 : decode cX6_order 58 = .ok (.istore 6, 2) := by decide +kernel
theorem dX6_order_60 : decode cX6_order 60 = .ok (.aload_n 0, 1) := by decide +kernel
theorem dX6_order_61 : decode cX6_order 61 = .ok (.getfield 108, 3) := by decide +kernel
theorem dX6_order_64 : decode cX6_order 64 = .ok (.bipush 16, 2) := by decide +kernel
theorem dX6_order_66 : decode cX6_order 66 = .ok (.iload_n 1, 1) := by decide +kernel
theorem dX6_order_67 : decode cX6_order 67 = .ok (.imul, 1) := by decide +kernel
theorem dX6_order_68 : decode cX6_order 68 = .ok (.iload 6, 2) := by decide +kernel
theorem dX6_order_70 : decode cX6_order 70 = .ok (.iadd, 1) := by decide +kernel
theorem dX6_order_71 : decode cX6_order 71 = .ok (.iaload, 1) := by decide +kernel
theorem dX6_order_72 : decode cX6_order 72 = .ok (.ifCond .ge 6, 3) := by decide +kernel
theorem dX6_order_75 : decode cX6_order 75 = .ok (.goto 80, 3) := by decide +kernel
theorem dX6_order_78 : decode cX6_order 78 = .ok (.iload 4, 2) := by decide +kernel
theorem dX6_order_80 : decode cX6_order 80 = .ok (.istore 7, 2) := by decide +kernel
theorem dX6_order_82 : decode cX6_order 82 = .ok (.iload 7, 2) := by decide +kernel
theorem dX6_order_84 : decode cX6_order 84 = .ok (.ifCond .le 59, 3) := by decide +kernel
theorem dX6_order_87 : decode cX6_order 87 = .ok (.aload_n 0, 1) := by decide +kernel
theorem dX6_order_88 : decode cX6_order 88 = .ok (.getfield 108, 3) := by decide +kernel
theorem dX6_order_91 : decode cX6_order 91 = .ok (.bipush 16, 2) := by decide +kernel
theorem dX6_order_93 : decode cX6_order 93 = .ok (.iload_n 1, 1) := by decide +kernel
theorem dX6_order_94 : decode cX6_order 94 = .ok (.imul, 1) := by decide +kernel
theorem dX6_order_95 : decode cX6_order 95 = .ok (.aload_n 0, 1) := by decide +kernel
theorem dX6_order_96 : decode cX6_order 96 = .ok (.getfield 120, 3) := by decide +kernel
theorem dX6_order_99 : decode cX6_order 99 = .ok (.iload 7, 2) := by decide +kernel
theorem dX6_order_101 : decode cX6_order 101 = .ok (.iconst 1, 1) := by decide +kernel
theorem dX6_order_102 : decode cX6_order 102 = .ok (.isub, 1) := by decide +kernel
theorem dX6_order_103 : decode cX6_order 103 = .ok (.iaload, 1) := by decide +kernel
theorem dX6_order_104 : decode cX6_order 104 = .ok (.iadd, 1) := by decide +kernel
theorem dX6_order_105 : decode cX6_order 105 = .ok (.iaload, 1) := by decide +kernel
theorem dX6_order_106 : decode cX6_order 106 = .ok (.aload_n 0, 1) := by decide +kernel
theorem dX6_order_107 : decode cX6_order 107 = .ok (.getfield 108, 3) := by decide +kernel
theorem dX6_order_110 : decode cX6_order 110 = .ok (.bipush 16, 2) := by decide +kernel
theorem dX6_order_112 : decode cX6_order 112 = .ok (.iload_n 1, 1) := by decide +kernel
theorem dX6_order_113 : decode cX6_order 113 = .ok (.imul, 1) := by decide +kernel
theorem dX6_order_114 : decode cX6_order 114 = .ok (.iload 6, 2) := by decide +kernel
theorem dX6_order_116 : decode cX6_order 116 = .ok (.iadd, 1) := by decide +kernel
theorem dX6_order_117 : decode cX6_order 117 = .ok (.iaload, 1) := by decide +kernel
theorem dX6_order_118 : decode cX6_order 118 = .ok (.if_icmp .le 25, 3) := by decide +kernel
theorem dX6_order_121 : decode cX6_order 121 = .ok (.aload_n 0, 1) := by decide +kernel
theorem dX6_order_122 : decode cX6_order 122 = .ok (.getfield 120, 3) := by decide +kernel
theorem dX6_order_125 : decode cX6_order 125 = .ok (.iload 7, 2) := by decide +kernel
theorem dX6_order_127 : decode cX6_order 127 = .ok (.aload_n 0, 1) := by decide +kernel
theorem dX6_order_128 : decode cX6_order 128 = .ok (.getfield 120, 3) := by decide +kernel
theorem dX6_order_131 : decode cX6_order 131 = .ok (.iload 7, 2) := by decide +kernel
theorem dX6_order_133 : decode cX6_order 133 = .ok (.iconst 1, 1) := by decide +kernel
theorem dX6_order_134 : decode cX6_order 134 = .ok (.isub, 1) := by decide +kernel
theorem dX6_order_135 : decode cX6_order 135 = .ok (.iaload, 1) := by decide +kernel
theorem dX6_order_136 : decode cX6_order 136 = .ok (.iastore, 1) := by decide +kernel
theorem dX6_order_137 : decode cX6_order 137 = .ok (.iinc 7 (-1), 3) := by decide +kernel
theorem dX6_order_140 : decode cX6_order 140 = .ok (.goto (-58), 3) := by decide +kernel
theorem dX6_order_143 : decode cX6_order 143 = .ok (.aload_n 0, 1) := by decide +kernel
theorem dX6_order_144 : decode cX6_order 144 = .ok (.getfield 120, 3) := by decide +kernel
theorem dX6_order_147 : decode cX6_order 147 = .ok (.iload 7, 2) := by decide +kernel
theorem dX6_order_149 : decode cX6_order 149 = .ok (.iload 6, 2) := by decide +kernel
theorem dX6_order_151 : decode cX6_order 151 = .ok (.iastore, 1) := by decide +kernel
theorem dX6_order_152 : decode cX6_order 152 = .ok (.iinc 4 1, 3) := by decide +kernel
theorem dX6_order_155 : decode cX6_order 155 = .ok (.iinc 5 1, 3) := by decide +kernel
theorem dX6_order_158 : decode cX6_order 158 = .ok (.goto (-123), 3) := by decide +kernel
theorem dX6_order_161 : decode cX6_order 161 = .ok (.iload_n 3, 1) := by decide +kernel
theorem dX6_order_162 : decode cX6_order 162 = .ok (.ifCond .lt 9, 3) := by decide +kernel
theorem dX6_order_165 : decode cX6_order 165 = .ok (.iload_n 3, 1) := by decide +kernel
theorem dX6_order_166 : decode cX6_order 166 = .ok (.iload 4, 2) := by decide +kernel
theorem dX6_order_168 : decode cX6_order 168 = .ok (.if_icmp .lt 7, 3) := by decide +kernel
theorem dX6_order_171 : decode cX6_order 171 = .ok (.iconst (-1), 1) := by decide +kernel
theorem dX6_order_172 : decode cX6_order 172 = .ok (.goto 9, 3) := by decide +kernel
theorem dX6_order_175 : decode cX6_order 175 = .ok (.aload_n 0, 1) := by decide +kernel
theorem dX6_order_176 : decode cX6_order 176 = .ok (.getfield 120, 3) := by decide +kernel
theorem dX6_order_179 : decode cX6_order 179 = .ok (.iload_n 3, 1) := by decide +kernel
theorem dX6_order_180 : decode cX6_order 180 = .ok (.iaload, 1) := by decide +kernel
theorem dX6_order_181 : decode cX6_order 181 = .ok (.ireturn, 1) := by decide +kernel
theorem dX6_cup_0 : decode cX6_cup 0 = .ok (.aload_n 0, 1) := by decide +kernel
theorem dX6_cup_1 : decode cX6_cup 1 = .ok (.aload_n 0, 1) := by decide +kernel
theorem dX6_cup_2 : decode cX6_cup 2 = .ok (.getfield 200, 3) := by decide +kernel
theorem dX6_cup_5 : decode cX6_cup 5 = .ok (.iconst 1, 1) := by decide +kernel
theorem dX6_cup_6 : decode cX6_cup 6 = .ok (.isub, 1) := by decide +kernel
theorem dX6_cup_7 : decode cX6_cup 7 = .ok (.iload_n 1, 1) := by decide +kernel
theorem dX6_cup_8 : decode cX6_cup 8 = .ok (.invokevirtual 244, 3) := by decide +kernel
theorem dX6_cup_11 : decode cX6_cup 11 = .ok (.iconst 0, 1) := by decide +kernel
theorem dX6_cup_12 : decode cX6_cup 12 = .ok (.istore_n 2, 1) := by decide +kernel
theorem dX6_cup_13 : decode cX6_cup 13 = .ok (.iload_n 2, 1) := by decide +kernel
theorem dX6_cup_14 : decode cX6_cup 14 = .ok (.bipush 16, 2) := by decide +kernel
theorem dX6_cup_16 : decode cX6_cup 16 = .ok (.if_icmp .ge 16, 3) := by decide +kernel
theorem dX6_cup_19 : decode cX6_cup 19 = .ok (.aload_n 0, 1) := by decide +kernel
theorem dX6_cup_20 : decode cX6_cup 20 = .ok (.getfield 123, 3) := by decide +kernel
theorem dX6_cup_23 : decode cX6_cup 23 = .ok (.iload_n 2, 1) := by decide +kernel
theorem dX6_cup_24 : decode cX6_cup 24 = .ok (.iconst 0, 1) := by decide +kernel
theorem dX6_cup_25 : decode cX6_cup 25 = .ok (.iastore, 1) := by decide +kernel
theorem dX6_cup_26 : decode cX6_cup 26 = .ok (.iinc 2 1, 3) := by decide +kernel
theorem dX6_cup_29 : decode cX6_cup 29 = .ok (.goto (-16), 3) := by decide +kernel
theorem dX6_cup_32 : decode cX6_cup 32 = .ok (.iconst 0, 1) := by decide +kernel
theorem dX6_cup_33 : decode cX6_cup 33 = .ok (.istore_n 2, 1) := by decide +kernel
theorem dX6_cup_34 : decode cX6_cup 34 = .ok (.iload_n 2, 1) := by decide +kernel
theorem dX6_cup_35 : decode cX6_cup 35 = .ok (.aload_n 0, 1) := by decide +kernel
theorem dX6_cup_36 : decode cX6_cup 36 = .ok (.getfield 200, 3) := by decide +kernel
theorem dX6_cup_39 : decode cX6_cup 39 = .ok (.if_icmp .ge 92, 3) := by decide +kernel
theorem dX6_cup_42 : decode cX6_cup 42 = .ok (.iconst 0, 1) := by decide +kernel
theorem dX6_cup_43 : decode cX6_cup 43 = .ok (.istore_n 3, 1) := by decide +kernel
theorem dX6_cup_44 : decode cX6_cup 44 = .ok (.iload_n 3, 1) := by decide +kernel
theorem dX6_cup_45 : decode cX6_cup 45 = .ok (.aload_n 0, 1) := by decide +kernel
theorem dX6_cup_46 : decode cX6_cup 46 = .ok (.getfield 72, 3) := by decide +kernel
theorem dX6_cup_49 : decode cX6_cup 49 = .ok (.iload_n 2, 1) := by decide +kernel
theorem dX6_cup_50 : decode cX6_cup 50 = .ok (.iaload, 1) := by decide +kernel
theorem dX6_cup_51 : decode cX6_cup 51 = .ok (.if_icmp .ge 74, 3) := by decide +kernel
theorem dX6_cup_54 : decode cX6_cup 54 = .ok (.aload_n 0, 1) := by decide +kernel
theorem dX6_cup_55 : decode cX6_cup 55 = .ok (.getfield 78, 3) := by decide +kernel
theorem dX6_cup_58 : decode cX6_cup 58 = .ok (.bipush 16, 2) := by decide +kernel
theorem dX6_cup_60 : decode cX6_cup 60 = .ok (.iload_n 2, 1) := by decide +kernel
theorem dX6_cup_61 : decode cX6_cup 61 = .ok (.imul, 1) := by decide +kernel
theorem dX6_cup_62 : decode cX6_cup 62 = .ok (.iload_n 3, 1) := by decide +kernel
theorem dX6_cup_63 : decode cX6_cup 63 = .ok (.iadd, 1) := by decide +kernel
theorem dX6_cup_64 : decode cX6_cup 64 = .ok (.iaload, 1) := by decide +kernel
theorem dX6_cup_65 : decode cX6_cup 65 = .ok (.istore 4, 2) := by decide +kernel
theorem dX6_cup_67 : decode cX6_cup 67 = .ok (.aload_n 0, 1) := by decide +kernel
theorem dX6_cup_68 : decode cX6_cup 68 = .ok (.getfield 108, 3) := by decide +kernel
theorem dX6_cup_71 : decode cX6_cup 71 = .ok (.bipush 16, 2) := by decide +kernel
theorem dX6_cup_73 : decode cX6_cup 73 = .ok (.iload_n 2, 1) := by decide +kernel
theorem dX6_cup_74 : decode cX6_cup 74 = .ok (.imul, 1) := by decide +kernel
theorem dX6_cup_75 : decode cX6_cup 75 = .ok (.iload 4, 2) := by decide +kernel
theorem dX6_cup_77 : decode cX6_cup 77 = .ok (.iadd, 1) := by decide +kernel
theorem dX6_cup_78 : decode cX6_cup 78 = .ok (.iaload, 1) := by decide +kernel
theorem dX6_cup_79 : decode cX6_cup 79 = .ok (.ifCond .ge 6, 3) := by decide +kernel
theorem dX6_cup_82 : decode cX6_cup 82 = .ok (.goto 37, 3) := by decide +kernel
theorem dX6_cup_85 : decode cX6_cup 85 = .ok (.bipush 21, 2) := by decide +kernel
theorem dX6_cup_87 : decode cX6_cup 87 = .ok (.aload_n 0, 1) := by decide +kernel
theorem dX6_cup_88 : decode cX6_cup 88 = .ok (.iload_n 2, 1) := by decide +kernel
theorem dX6_cup_89 : decode cX6_cup 89 = .ok (.iload 4, 2) := by decide +kernel
theorem dX6_cup_91 : decode cX6_cup 91 = .ok (.iconst 0, 1) := by decide +kernel
theorem dX6_cup_92 : decode cX6_cup 92 = .ok (.invokevirtual 248, 3) := by decide +kernel
theorem dX6_cup_95 : decode cX6_cup 95 = .ok (.isub, 1) := by decide +kernel
theorem dX6_cup_96 : decode cX6_cup 96 = .ok (.istore 5, 2) := by decide +kernel
theorem dX6_cup_98 : decode cX6_cup 98 = .ok (.aload_n 0, 1) := by decide +kernel
theorem dX6_cup_99 : decode cX6_cup 99 = .ok (.getfield 123, 3) := by decide +kernel
theorem dX6_cup_102 : decode cX6_cup 102 = .ok (.iload 4, 2) := by decide +kernel
theorem dX6_cup_104 : decode cX6_cup 104 = .ok (.dup2, 1) := by decide +kernel
theorem dX6_cup_105 : decode cX6_cup 105 = .ok (.iaload, 1) := by decide +kernel
theorem dX6_cup_106 : decode cX6_cup 106 = .ok (.iload 5, 2) := by decide +kernel
theorem dX6_cup_108 : decode cX6_cup 108 = .ok (.ifCond .le 8, 3) := by decide +kernel
theorem dX6_cup_111 : decode cX6_cup 111 = .ok (.iload 5, 2) := by decide +kernel
theorem dX6_cup_113 : decode cX6_cup 113 = .ok (.goto 4, 3) := by decide +kernel
theorem dX6_cup_116 : decode cX6_cup 116 = .ok (.iconst 0, 1) := by decide +kernel
theorem dX6_cup_117 : decode cX6_cup 117 = .ok (.iadd, 1) := by decide +kernel
theorem dX6_cup_118 : decode cX6_cup 118 = .ok (.iastore, 1) := by decide +kernel
theorem dX6_cup_119 : decode cX6_cup 119 = .ok (.iinc 3 1, 3) := by decide +kernel
theorem dX6_cup_122 : decode cX6_cup 122 = .ok (.goto (-78), 3) := by decide +kernel
theorem dX6_cup_125 : decode cX6_cup 125 = .ok (.iinc 2 1, 3) := by decide +kernel
theorem dX6_cup_128 : decode cX6_cup 128 = .ok (.goto (-94), 3) := by decide +kernel
theorem dX6_cup_131 : decode cX6_cup 131 = .ok (.return_, 1) := by decide +kernel
theorem dX6_stands_0 : decode cX6_stands 0 = .ok (.iconst 1, 1) := by decide +kernel
theorem dX6_stands_1 : decode cX6_stands 1 = .ok (.istore_n 2, 1) := by decide +kernel
theorem dX6_stands_2 : decode cX6_stands 2 = .ok (.iconst 0, 1) := by decide +kernel
theorem dX6_stands_3 : decode cX6_stands 3 = .ok (.istore_n 3, 1) := by decide +kernel
theorem dX6_stands_4 : decode cX6_stands 4 = .ok (.iload_n 3, 1) := by decide +kernel
theorem dX6_stands_5 : decode cX6_stands 5 = .ok (.aload_n 0, 1) := by decide +kernel
theorem dX6_stands_6 : decode cX6_stands 6 = .ok (.getfield 197, 3) := by decide +kernel
theorem dX6_stands_9 : decode cX6_stands 9 = .ok (.if_icmp .ge 32, 3) := by decide +kernel
theorem dX6_stands_12 : decode cX6_stands 12 = .ok (.iload_n 2, 1) := by decide +kernel
theorem dX6_stands_13 : decode cX6_stands 13 = .ok (.aload_n 0, 1) := by decide +kernel
theorem dX6_stands_14 : decode cX6_stands 14 = .ok (.getfield 123, 3) := by decide +kernel
theorem dX6_stands_17 : decode cX6_stands 17 = .ok (.iload_n 3, 1) := by decide +kernel
theorem dX6_stands_18 : decode cX6_stands 18 = .ok (.iaload, 1) := by decide +kernel
theorem dX6_stands_19 : decode cX6_stands 19 = .ok (.aload_n 0, 1) := by decide +kernel
theorem dX6_stands_20 : decode cX6_stands 20 = .ok (.getfield 123, 3) := by decide +kernel
theorem dX6_stands_23 : decode cX6_stands 23 = .ok (.iload_n 1, 1) := by decide +kernel
theorem dX6_stands_24 : decode cX6_stands 24 = .ok (.iaload, 1) := by decide +kernel
theorem dX6_stands_25 : decode cX6_stands 25 = .ok (.if_icmp .le 7, 3) := by decide +kernel
theorem dX6_stands_28 : decode cX6_stands 28 = .ok (.iconst 1, 1) := by decide +kernel
theorem dX6_stands_29 : decode cX6_stands 29 = .ok (.goto 4, 3) := by decide +kernel
theorem dX6_stands_32 : decode cX6_stands 32 = .ok (.iconst 0, 1) := by decide +kernel
theorem dX6_stands_33 : decode cX6_stands 33 = .ok (.iadd, 1) := by decide +kernel
theorem dX6_stands_34 : decode cX6_stands 34 = .ok (.istore_n 2, 1) := by decide +kernel
theorem dX6_stands_35 : decode cX6_stands 35 = .ok (.iinc 3 1, 3) := by decide +kernel
theorem dX6_stands_38 : decode cX6_stands 38 = .ok (.goto (-34), 3) := by decide +kernel
theorem dX6_stands_41 : decode cX6_stands 41 = .ok (.iload_n 2, 1) := by decide +kernel
theorem dX6_stands_42 : decode cX6_stands 42 = .ok (.ireturn, 1) := by decide +kernel
theorem dX6_points_0 : decode cX6_points 0 = .ok (.aload_n 0, 1) := by decide +kernel
theorem dX6_points_1 : decode cX6_points 1 = .ok (.iconst 0, 1) := by decide +kernel
theorem dX6_points_2 : decode cX6_points 2 = .ok (.putfield 126, 3) := by decide +kernel
theorem dX6_points_5 : decode cX6_points 5 = .ok (.aload_n 0, 1) := by decide +kernel
theorem dX6_points_6 : decode cX6_points 6 = .ok (.iload_n 1, 1) := by decide +kernel
theorem dX6_points_7 : decode cX6_points 7 = .ok (.invokevirtual 206, 3) := by decide +kernel
theorem dX6_points_10 : decode cX6_points 10 = .ok (.ifCond .eq 11, 3) := by decide +kernel
theorem dX6_points_13 : decode cX6_points 13 = .ok (.aload_n 0, 1) := by decide +kernel
theorem dX6_points_14 : decode cX6_points 14 = .ok (.iload_n 2, 1) := by decide +kernel
theorem dX6_points_15 : decode cX6_points 15 = .ok (.invokevirtual 241, 3) := by decide +kernel
theorem dX6_points_18 : decode cX6_points 18 = .ok (.ifCond .ne 5, 3) := by decide +kernel
theorem dX6_points_21 : decode cX6_points 21 = .ok (.iconst (-1), 1) := by decide +kernel
theorem dX6_points_22 : decode cX6_points 22 = .ok (.ireturn, 1) := by decide +kernel
theorem dX6_points_23 : decode cX6_points 23 = .ok (.aload_n 0, 1) := by decide +kernel
theorem dX6_points_24 : decode cX6_points 24 = .ok (.iload_n 2, 1) := by decide +kernel
theorem dX6_points_25 : decode cX6_points 25 = .ok (.invokevirtual 252, 3) := by decide +kernel
theorem dX6_points_28 : decode cX6_points 28 = .ok (.aload_n 0, 1) := by decide +kernel
theorem dX6_points_29 : decode cX6_points 29 = .ok (.getfield 123, 3) := by decide +kernel
theorem dX6_points_32 : decode cX6_points 32 = .ok (.iload_n 1, 1) := by decide +kernel
theorem dX6_points_33 : decode cX6_points 33 = .ok (.iaload, 1) := by decide +kernel
theorem dX6_points_34 : decode cX6_points 34 = .ok (.ireturn, 1) := by decide +kernel
theorem dX6_standing_0 : decode cX6_standing 0 = .ok (.aload_n 0, 1) := by decide +kernel
theorem dX6_standing_1 : decode cX6_standing 1 = .ok (.iconst 0, 1) := by decide +kernel
theorem dX6_standing_2 : decode cX6_standing 2 = .ok (.putfield 126, 3) := by decide +kernel
theorem dX6_standing_5 : decode cX6_standing 5 = .ok (.aload_n 0, 1) := by decide +kernel
theorem dX6_standing_6 : decode cX6_standing 6 = .ok (.iload_n 1, 1) := by decide +kernel
theorem dX6_standing_7 : decode cX6_standing 7 = .ok (.invokevirtual 206, 3) := by decide +kernel
theorem dX6_standing_10 : decode cX6_standing 10 = .ok (.ifCond .eq 11, 3) := by decide +kernel
theorem dX6_standing_13 : decode cX6_standing 13 = .ok (.aload_n 0, 1) := by decide +kernel
theorem dX6_standing_14 : decode cX6_standing 14 = .ok (.iload_n 2, 1) := by decide +kernel
theorem dX6_standing_15 : decode cX6_standing 15 = .ok (.invokevirtual 241, 3) := by decide +kernel
theorem dX6_standing_18 : decode cX6_standing 18 = .ok (.ifCond .ne 5, 3) := by decide +kernel
theorem dX6_standing_21 : decode cX6_standing 21 = .ok (.iconst (-1), 1) := by decide +kernel
theorem dX6_standing_22 : decode cX6_standing 22 = .ok (.ireturn, 1) := by decide +kernel
theorem dX6_standing_23 : decode cX6_standing 23 = .ok (.aload_n 0, 1) := by decide +kernel
theorem dX6_standing_24 : decode cX6_standing 24 = .ok (.iload_n 2, 1) := by decide +kernel
theorem dX6_standing_25 : decode cX6_standing 25 = .ok (.invokevirtual 252, 3) := by decide +kernel
theorem dX6_standing_28 : decode cX6_standing 28 = .ok (.aload_n 0, 1) := by decide +kernel
theorem dX6_standing_29 : decode cX6_standing 29 = .ok (.iload_n 1, 1) := by decide +kernel
theorem dX6_standing_30 : decode cX6_standing 30 = .ok (.invokevirtual 256, 3) := by decide +kernel
theorem dX6_standing_33 : decode cX6_standing 33 = .ok (.ireturn, 1) := by decide +kernel
theorem dX6_starters_0 : decode cX6_starters 0 = .ok (.aload_n 0, 1) := by decide +kernel
theorem dX6_starters_1 : decode cX6_starters 1 = .ok (.iconst 0, 1) := by decide +kernel
theorem dX6_starters_2 : decode cX6_starters 2 = .ok (.putfield 126, 3) := by decide +kernel
theorem dX6_starters_5 : decode cX6_starters 5 = .ok (.iload_n 1, 1) := by decide +kernel
theorem dX6_starters_6 : decode cX6_starters 6 = .ok (.ifCond .lt 17, 3) := by decide +kernel
theorem dX6_starters_9 : decode cX6_starters 9 = .ok (.iload_n 1, 1) := by decide +kernel
theorem dX6_starters_10 : decode cX6_starters 10 = .ok (.bipush 7, 2) := by decide +kernel
theorem dX6_starters_12 : decode cX6_starters 12 = .ok (.if_icmp .gt 11, 3) := by decide +kernel
theorem dX6_starters_15 : decode cX6_starters 15 = .ok (.aload_n 0, 1) := by decide +kernel
theorem dX6_starters_16 : decode cX6_starters 16 = .ok (.iload_n 2, 1) := by decide +kernel
theorem dX6_starters_17 : decode cX6_starters 17 = .ok (.invokevirtual 241, 3) := by decide +kernel
theorem dX6_starters_20 : decode cX6_starters 20 = .ok (.ifCond .ne 5, 3) := by decide +kernel
theorem dX6_starters_23 : decode cX6_starters 23 = .ok (.iconst (-1), 1) := by decide +kernel
theorem dX6_starters_24 : decode cX6_starters 24 = .ok (.ireturn, 1) := by decide +kernel
theorem dX6_starters_25 : decode cX6_starters 25 = .ok (.aload_n 0, 1) := by decide +kernel
theorem dX6_starters_26 : decode cX6_starters 26 = .ok (.iload_n 2, 1) := by decide +kernel
theorem dX6_starters_27 : decode cX6_starters 27 = .ok (.invokevirtual 252, 3) := by decide +kernel
theorem dX6_starters_30 : decode cX6_starters 30 = .ok (.iconst 2, 1) := by decide +kernel
theorem dX6_starters_31 : decode cX6_starters 31 = .ok (.istore_n 3, 1) := by decide +kernel
theorem dX6_starters_32 : decode cX6_starters 32 = .ok (.iconst 0, 1) := by decide +kernel
theorem dX6_starters_33 : decode cX6_starters 33 = .ok (.istore 4, 2) := by decide +kernel
theorem dX6_starters_35 : decode cX6_starters 35 = .ok (.iload 4, 2) := by decide +kernel
theorem dX6_starters_37 : decode cX6_starters 37 = .ok (.aload_n 0, 1) := by decide +kernel
theorem dX6_starters_38 : decode cX6_starters 38 = .ok (.getfield 197, 3) := by decide +kernel
theorem dX6_starters_41 : decode cX6_starters 41 = .ok (.if_icmp .ge 48, 3) := by decide +kernel
theorem dX6_starters_44 : decode cX6_starters 44 = .ok (.iload_n 3, 1) := by decide +kernel
theorem dX6_starters_45 : decode cX6_starters 45 = .ok (.aload_n 0, 1) := by decide +kernel
theorem dX6_starters_46 : decode cX6_starters 46 = .ok (.getfield 42, 3) := by decide +kernel
theorem dX6_starters_49 : decode cX6_starters 49 = .ok (.iload 4, 2) := by decide +kernel
theorem dX6_starters_51 : decode cX6_starters 51 = .ok (.iaload, 1) := by decide +kernel
theorem dX6_starters_52 : decode cX6_starters 52 = .ok (.iload_n 1, 1) := by decide +kernel
theorem dX6_starters_53 : decode cX6_starters 53 = .ok (.if_icmp .ne 27, 3) := by decide +kernel
theorem dX6_starters_56 : decode cX6_starters 56 = .ok (.aload_n 0, 1) := by decide +kernel
theorem dX6_starters_57 : decode cX6_starters 57 = .ok (.getfield 123, 3) := by decide +kernel
theorem dX6_starters_60 : decode cX6_starters 60 = .ok (.iload 4, 2) := by decide +kernel
theorem dX6_starters_62 : decode cX6_starters 62 = .ok (.iaload, 1) := by decide +kernel
theorem dX6_starters_63 : decode cX6_starters 63 = .ok (.ifCond .le 17, 3) := by decide +kernel
theorem dX6_starters_66 : decode cX6_starters 66 = .ok (.aload_n 0, 1) := by decide +kernel
theorem dX6_starters_67 : decode cX6_starters 67 = .ok (.iload 4, 2) := by decide +kernel
theorem dX6_starters_69 : decode cX6_starters 69 = .ok (.invokevirtual 256, 3) := by decide +kernel
theorem dX6_starters_72 : decode cX6_starters 72 = .ok (.iconst 5, 1) := by decide +kernel
theorem dX6_starters_73 : decode cX6_starters 73 = .ok (.if_icmp .gt 7, 3) := by decide +kernel
theorem dX6_starters_76 : decode cX6_starters 76 = .ok (.iconst 1, 1) := by decide +kernel
theorem dX6_starters_77 : decode cX6_starters 77 = .ok (.goto 4, 3) := by decide +kernel
theorem dX6_starters_80 : decode cX6_starters 80 = .ok (.iconst 0, 1) := by decide +kernel
theorem dX6_starters_81 : decode cX6_starters 81 = .ok (.iadd, 1) := by decide +kernel
theorem dX6_starters_82 : decode cX6_starters 82 = .ok (.istore_n 3, 1) := by decide +kernel
theorem dX6_starters_83 : decode cX6_starters 83 = .ok (.iinc 4 1, 3) := by decide +kernel
theorem dX6_starters_86 : decode cX6_starters 86 = .ok (.goto (-51), 3) := by decide +kernel
theorem dX6_starters_89 : decode cX6_starters 89 = .ok (.iload_n 3, 1) := by decide +kernel
theorem dX6_starters_90 : decode cX6_starters 90 = .ok (.iconst 4, 1) := by decide +kernel
theorem dX6_starters_91 : decode cX6_starters 91 = .ok (.if_icmp .le 7, 3) := by decide +kernel
theorem dX6_starters_94 : decode cX6_starters 94 = .ok (.iconst 4, 1) := by decide +kernel
theorem dX6_starters_95 : decode cX6_starters 95 = .ok (.goto 4, 3) := by decide +kernel
theorem dX6_starters_98 : decode cX6_starters 98 = .ok (.iload_n 3, 1) := by decide +kernel
theorem dX6_starters_99 : decode cX6_starters 99 = .ok (.ireturn, 1) := by decide +kernel
theorem dX6_count_0 : decode cX6_count 0 = .ok (.aload_n 0, 1) := by decide +kernel
theorem dX6_count_1 : decode cX6_count 1 = .ok (.iconst 0, 1) := by decide +kernel
theorem dX6_count_2 : decode cX6_count 2 = .ok (.putfield 126, 3) := by decide +kernel
theorem dX6_count_5 : decode cX6_count 5 = .ok (.iload_n 1, 1) := by decide +kernel
theorem dX6_count_6 : decode cX6_count 6 = .ok (.tableswitch 59 0 4 #[34, 39, 44, 49, 54], 34) := by decide +kernel
theorem dX6_count_40 : decode cX6_count 40 = .ok (.aload_n 0, 1) := by decide +kernel
theorem dX6_count_41 : decode cX6_count 41 = .ok (.getfield 194, 3) := by decide +kernel
theorem dX6_count_44 : decode cX6_count 44 = .ok (.ireturn, 1) := by decide +kernel
theorem dX6_count_45 : decode cX6_count 45 = .ok (.aload_n 0, 1) := by decide +kernel
theorem dX6_count_46 : decode cX6_count 46 = .ok (.getfield 191, 3) := by decide +kernel
theorem dX6_count_49 : decode cX6_count 49 = .ok (.ireturn, 1) := by decide +kernel
theorem dX6_count_50 : decode cX6_count 50 = .ok (.aload_n 0, 1) := by decide +kernel
theorem dX6_count_51 : decode cX6_count 51 = .ok (.getfield 197, 3) := by decide +kernel
theorem dX6_count_54 : decode cX6_count 54 = .ok (.ireturn, 1) := by decide +kernel
theorem dX6_count_55 : decode cX6_count 55 = .ok (.aload_n 0, 1) := by decide +kernel
theorem dX6_count_56 : decode cX6_count 56 = .ok (.getfield 200, 3) := by decide +kernel
theorem dX6_count_59 : decode cX6_count 59 = .ok (.ireturn, 1) := by decide +kernel
theorem dX6_count_60 : decode cX6_count 60 = .ok (.aload_n 0, 1) := by decide +kernel
theorem dX6_count_61 : decode cX6_count 61 = .ok (.getfield 217, 3) := by decide +kernel
theorem dX6_count_64 : decode cX6_count 64 = .ok (.ireturn, 1) := by decide +kernel
theorem dX6_count_65 : decode cX6_count 65 = .ok (.iconst (-1), 1) := by decide +kernel
theorem dX6_count_66 : decode cX6_count 66 = .ok (.ireturn, 1) := by decide +kernel
theorem dJ6_bitCount_0f7a4_0 : decode cJ6_bitCount_0f7a4 0 = .ok (.iload_n 0, 1) := by decide +kernel
theorem dJ6_bitCount_0f7a4_1 : decode cJ6_bitCount_0f7a4 1 = .ok (.iload_n 0, 1) := by decide +kernel
theorem dJ6_bitCount_0f7a4_2 : decode cJ6_bitCount_0f7a4 2 = .ok (.iconst 1, 1) := by decide +kernel
theorem dJ6_bitCount_0f7a4_3 : decode cJ6_bitCount_0f7a4 3 = .ok (.iushr, 1) := by decide +kernel
theorem dJ6_bitCount_0f7a4_4 : decode cJ6_bitCount_0f7a4 4 = .ok (.ldc_w 265, 3) := by decide +kernel
theorem dJ6_bitCount_0f7a4_7 : decode cJ6_bitCount_0f7a4 7 = .ok (.iand, 1) := by decide +kernel
theorem dJ6_bitCount_0f7a4_8 : decode cJ6_bitCount_0f7a4 8 = .ok (.isub, 1) := by decide +kernel
theorem dJ6_bitCount_0f7a4_9 : decode cJ6_bitCount_0f7a4 9 = .ok (.istore_n 0, 1) := by decide +kernel
theorem dJ6_bitCount_0f7a4_10 : decode cJ6_bitCount_0f7a4 10 = .ok (.iload_n 0, 1) := by decide +kernel
theorem dJ6_bitCount_0f7a4_11 : decode cJ6_bitCount_0f7a4 11 = .ok (.ldc_w 266, 3) := by decide +kernel
theorem dJ6_bitCount_0f7a4_14 : decode cJ6_bitCount_0f7a4 14 = .ok (.iand, 1) := by decide +kernel
theorem dJ6_bitCount_0f7a4_15 : decode cJ6_bitCount_0f7a4 15 = .ok (.iload_n 0, 1) := by decide +kernel
theorem dJ6_bitCount_0f7a4_16 : decode cJ6_bitCount_0f7a4 16 = .ok (.iconst 2, 1) := by decide +kernel
theorem dJ6_bitCount_0f7a4_17 : decode cJ6_bitCount_0f7a4 17 = .ok (.iushr, 1) := by decide +kernel
theorem dJ6_bitCount_0f7a4_18 : decode cJ6_bitCount_0f7a4 18 = .ok (.ldc_w 266, 3) := by decide +kernel
theorem dJ6_bitCount_0f7a4_21 : decode cJ6_bitCount_0f7a4 21 = .ok (.iand, 1) := by decide +kernel
theorem dJ6_bitCount_0f7a4_22 : decode cJ6_bitCount_0f7a4 22 = .ok (.iadd, 1) := by decide +kernel
theorem dJ6_bitCount_0f7a4_23 : decode cJ6_bitCount_0f7a4 23 = .ok (.istore_n 0, 1) := by decide +kernel
theorem dJ6_bitCount_0f7a4_24 : decode cJ6_bitCount_0f7a4 24 = .ok (.iload_n 0, 1) := by decide +kernel
theorem dJ6_bitCount_0f7a4_25 : decode cJ6_bitCount_0f7a4 25 = .ok (.iload_n 0, 1) := by decide +kernel
theorem dJ6_bitCount_0f7a4_26 : decode cJ6_bitCount_0f7a4 26 = .ok (.iconst 4, 1) := by decide +kernel
theorem dJ6_bitCount_0f7a4_27 : decode cJ6_bitCount_0f7a4 27 = .ok (.iushr, 1) := by decide +kernel
theorem dJ6_bitCount_0f7a4_28 : decode cJ6_bitCount_0f7a4 28 = .ok (.iadd, 1) := by decide +kernel
theorem dJ6_bitCount_0f7a4_29 : decode cJ6_bitCount_0f7a4 29 = .ok (.ldc_w 267, 3) := by decide +kernel
theorem dJ6_bitCount_0f7a4_32 : decode cJ6_bitCount_0f7a4 32 = .ok (.iand, 1) := by decide +kernel
theorem dJ6_bitCount_0f7a4_33 : decode cJ6_bitCount_0f7a4 33 = .ok (.istore_n 0, 1) := by decide +kernel
theorem dJ6_bitCount_0f7a4_34 : decode cJ6_bitCount_0f7a4 34 = .ok (.iload_n 0, 1) := by decide +kernel
theorem dJ6_bitCount_0f7a4_35 : decode cJ6_bitCount_0f7a4 35 = .ok (.iload_n 0, 1) := by decide +kernel
theorem dJ6_bitCount_0f7a4_36 : decode cJ6_bitCount_0f7a4 36 = .ok (.bipush 8, 2) := by decide +kernel
theorem dJ6_bitCount_0f7a4_38 : decode cJ6_bitCount_0f7a4 38 = .ok (.iushr, 1) := by decide +kernel
theorem dJ6_bitCount_0f7a4_39 : decode cJ6_bitCount_0f7a4 39 = .ok (.iadd, 1) := by decide +kernel
theorem dJ6_bitCount_0f7a4_40 : decode cJ6_bitCount_0f7a4 40 = .ok (.istore_n 0, 1) := by decide +kernel
theorem dJ6_bitCount_0f7a4_41 : decode cJ6_bitCount_0f7a4 41 = .ok (.iload_n 0, 1) := by decide +kernel
theorem dJ6_bitCount_0f7a4_42 : decode cJ6_bitCount_0f7a4 42 = .ok (.iload_n 0, 1) := by decide +kernel
theorem dJ6_bitCount_0f7a4_43 : decode cJ6_bitCount_0f7a4 43 = .ok (.bipush 16, 2) := by decide +kernel
theorem dJ6_bitCount_0f7a4_45 : decode cJ6_bitCount_0f7a4 45 = .ok (.iushr, 1) := by decide +kernel
theorem dJ6_bitCount_0f7a4_46 : decode cJ6_bitCount_0f7a4 46 = .ok (.iadd, 1) := by decide +kernel
theorem dJ6_bitCount_0f7a4_47 : decode cJ6_bitCount_0f7a4 47 = .ok (.istore_n 0, 1) := by decide +kernel
theorem dJ6_bitCount_0f7a4_48 : decode cJ6_bitCount_0f7a4 48 = .ok (.iload_n 0, 1) := by decide +kernel
theorem dJ6_bitCount_0f7a4_49 : decode cJ6_bitCount_0f7a4 49 = .ok (.bipush 63, 2) := by decide +kernel
theorem dJ6_bitCount_0f7a4_51 : decode cJ6_bitCount_0f7a4 51 = .ok (.iand, 1) := by decide +kernel
theorem dJ6_bitCount_0f7a4_52 : decode cJ6_bitCount_0f7a4 52 = .ok (.ireturn, 1) := by decide +kernel
theorem dJ0_length_8abf5_0 : decode cJ0_length_8abf5 0 = .ok (.aload_n 0, 1) := by decide +kernel
theorem dJ0_length_8abf5_1 : decode cJ0_length_8abf5 1 = .ok (.getfield 9, 3) := by decide +kernel
theorem dJ0_length_8abf5_4 : decode cJ0_length_8abf5 4 = .ok (.arraylength, 1) := by decide +kernel
theorem dJ0_length_8abf5_5 : decode cJ0_length_8abf5 5 = .ok (.aload_n 0, 1) := by decide +kernel
theorem dJ0_length_8abf5_6 : decode cJ0_length_8abf5 6 = .ok (.invokevirtual 335, 3) := by decide +kernel
theorem dJ0_length_8abf5_9 : decode cJ0_length_8abf5 9 = .ok (.ishr, 1) := by decide +kernel
theorem dJ0_length_8abf5_10 : decode cJ0_length_8abf5 10 = .ok (.ireturn, 1) := by decide +kernel
theorem dJ0_charAt_5068e_0 : decode cJ0_charAt_5068e 0 = .ok (.aload_n 0, 1) := by decide +kernel
theorem dJ0_charAt_5068e_1 : decode cJ0_charAt_5068e 1 = .ok (.invokevirtual 492, 3) := by decide +kernel
theorem dJ0_charAt_5068e_4 : decode cJ0_charAt_5068e 4 = .ok (.ifCond .eq 12, 3) := by decide +kernel
theorem dJ0_charAt_5068e_7 : decode cJ0_charAt_5068e 7 = .ok (.aload_n 0, 1) := by decide +kernel
theorem dJ0_charAt_5068e_8 : decode cJ0_charAt_5068e 8 = .ok (.getfield 9, 3) := by decide +kernel
theorem dJ0_charAt_5068e_11 : decode cJ0_charAt_5068e 11 = .ok (.iload_n 1, 1) := by decide +kernel
theorem dJ0_charAt_5068e_12 : decode cJ0_charAt_5068e 12 = .ok (.invokestatic 495, 3) := by decide +kernel
theorem dJ0_charAt_5068e_15 : decode cJ0_charAt_5068e 15 = .ok (.ireturn, 1) := by decide +kernel
theorem dJ0_coder_7d493_0 : decode cJ0_coder_7d493 0 = .ok (.getstatic 38, 3) := by decide +kernel
theorem dJ0_coder_7d493_3 : decode cJ0_coder_7d493 3 = .ok (.ifCond .eq 10, 3) := by decide +kernel
theorem dJ0_coder_7d493_6 : decode cJ0_coder_7d493 6 = .ok (.aload_n 0, 1) := by decide +kernel
theorem dJ0_coder_7d493_7 : decode cJ0_coder_7d493 7 = .ok (.getfield 15, 3) := by decide +kernel
theorem dJ0_coder_7d493_10 : decode cJ0_coder_7d493 10 = .ok (.goto 4, 3) := by decide +kernel
theorem dJ0_coder_7d493_14 : decode cJ0_coder_7d493 14 = .ok (.ireturn, 1) := by decide +kernel
theorem dJ0_isLatin1_aae02_0 : decode cJ0_isLatin1_aae02 0 = .ok (.getstatic 38, 3) := by decide +kernel
theorem dJ0_isLatin1_aae02_3 : decode cJ0_isLatin1_aae02 3 = .ok (.ifCond .eq 14, 3) := by decide +kernel
theorem dJ0_isLatin1_aae02_6 : decode cJ0_isLatin1_aae02 6 = .ok (.aload_n 0, 1) := by decide +kernel
theorem dJ0_isLatin1_aae02_7 : decode cJ0_isLatin1_aae02 7 = .ok (.getfield 15, 3) := by decide +kernel
theorem dJ0_isLatin1_aae02_10 : decode cJ0_isLatin1_aae02 10 = .ok (.ifCond .ne 7, 3) := by decide +kernel
theorem dJ0_isLatin1_aae02_13 : decode cJ0_isLatin1_aae02 13 = .ok (.iconst 1, 1) := by decide +kernel
theorem dJ0_isLatin1_aae02_14 : decode cJ0_isLatin1_aae02 14 = .ok (.goto 4, 3) := by decide +kernel
theorem dJ0_isLatin1_aae02_18 : decode cJ0_isLatin1_aae02 18 = .ok (.ireturn, 1) := by decide +kernel
theorem dJ0_checkIndex_df160_0 : decode cJ0_checkIndex_df160 0 = .ok (.iload_n 0, 1) := by decide +kernel
theorem dJ0_checkIndex_df160_1 : decode cJ0_checkIndex_df160 1 = .ok (.iload_n 1, 1) := by decide +kernel
theorem dJ0_checkIndex_df160_2 : decode cJ0_checkIndex_df160 2 = .ok (.getstatic 1053, 3) := by decide +kernel
theorem dJ0_checkIndex_df160_5 : decode cJ0_checkIndex_df160 5 = .ok (.invokestatic 1059, 3) := by decide +kernel
theorem dJ0_checkIndex_df160_8 : decode cJ0_checkIndex_df160 8 = .ok (.pop, 1) := by decide +kernel
theorem dJ0_checkIndex_df160_9 : decode cJ0_checkIndex_df160 9 = .ok (.return_, 1) := by decide +kernel
theorem dJ1_charAt_3b067_0 : decode cJ1_charAt_3b067 0 = .ok (.iload_n 1, 1) := by decide +kernel
theorem dJ1_charAt_3b067_1 : decode cJ1_charAt_3b067 1 = .ok (.aload_n 0, 1) := by decide +kernel
theorem dJ1_charAt_3b067_2 : decode cJ1_charAt_3b067 2 = .ok (.arraylength, 1) := by decide +kernel
theorem dJ1_charAt_3b067_3 : decode cJ1_charAt_3b067 3 = .ok (.invokestatic 9, 3) := by decide +kernel
theorem dJ1_charAt_3b067_6 : decode cJ1_charAt_3b067 6 = .ok (.aload_n 0, 1) := by decide +kernel
theorem dJ1_charAt_3b067_7 : decode cJ1_charAt_3b067 7 = .ok (.iload_n 1, 1) := by decide +kernel
theorem dJ1_charAt_3b067_8 : decode cJ1_charAt_3b067 8 = .ok (.baload, 1) := by decide +kernel
theorem dJ1_charAt_3b067_9 : decode cJ1_charAt_3b067 9 = .ok (.sipush 255, 3) := by decide +kernel
theorem dJ1_charAt_3b067_12 : decode cJ1_charAt_3b067 12 = .ok (.iand, 1) := by decide +kernel
theorem dJ1_charAt_3b067_13 : decode cJ1_charAt_3b067 13 = .ok (.i2c, 1) := by decide +kernel
theorem dJ1_charAt_3b067_14 : decode cJ1_charAt_3b067 14 = .ok (.ireturn, 1) := by decide +kernel
