theorem dX6_shots_64 : decode cX6_shots 64 = .ok (.aload_n 0, 1) := by decide +kernel
theorem dX6_shots_65 : decode cX6_shots 65 = .ok (.iconst 2, 1) := by decide +kernel
theorem dX6_shots_66 : decode cX6_shots 66 = .ok (.aload_n 0, 1) := by decide +kernel
theorem dX6_shots_67 : decode cX6_shots 67 = .ok (.getfield 141, 3) := by decide +kernel
theorem dX6_shots_70 : decode cX6_shots 70 = .ok (.invokevirtual 162, 3) := by decide +kernel
theorem dX6_shots_73 : decode cX6_shots 73 = .ok (.ireturn, 1) := by decide +kernel
theorem dX6_shots_74 : decode cX6_shots 74 = .ok (.aload_n 0, 1) := by decide +kernel
theorem dX6_shots_75 : decode cX6_shots 75 = .ok (.getfield 155, 3) := by decide +kernel
theorem dX6_shots_78 : decode cX6_shots 78 = .ok (.istore_n 2, 1) := by decide +kernel
theorem dX6_shots_79 : decode cX6_shots 79 = .ok (.aload_n 0, 1) := by decide +kernel
theorem dX6_shots_80 : decode cX6_shots 80 = .ok (.getfield 19, 3) := by decide +kernel
theorem dX6_shots_83 : decode cX6_shots 83 = .ok (.iconst 4, 1) := by decide +kernel
theorem dX6_shots_84 : decode cX6_shots 84 = .ok (.iload_n 1, 1) := by decide +kernel
theorem dX6_shots_85 : decode cX6_shots 85 = .ok (.imul, 1) := by decide +kernel
theorem dX6_shots_86 : decode cX6_shots 86 = .ok (.aload_n 0, 1) := by decide +kernel
theorem dX6_shots_87 : decode cX6_shots 87 = .ok (.getfield 16, 3) := by decide +kernel
theorem dX6_shots_90 : decode cX6_shots 90 = .ok (.iload_n 1, 1) := by decide +kernel
theorem dX6_shots_91 : decode cX6_shots 91 = .ok (.iaload, 1) := by decide +kernel
theorem dX6_shots_92 : decode cX6_shots 92 = .ok (.iadd, 1) := by decide +kernel
theorem dX6_shots_93 : decode cX6_shots 93 = .ok (.aload_n 0, 1) := by decide +kernel
theorem dX6_shots_94 : decode cX6_shots 94 = .ok (.getfield 155, 3) := by decide +kernel
theorem dX6_shots_97 : decode cX6_shots 97 = .ok (.iastore, 1) := by decide +kernel
theorem dX6_shots_98 : decode cX6_shots 98 = .ok (.aload_n 0, 1) := by decide +kernel
theorem dX6_shots_99 : decode cX6_shots 99 = .ok (.getfield 16, 3) := by decide +kernel
theorem dX6_shots_102 : decode cX6_shots 102 = .ok (.iload_n 1, 1) := by decide +kernel
theorem dX6_shots_103 : decode cX6_shots 103 = .ok (.dup2, 1) := by decide +kernel
theorem dX6_shots_104 : decode cX6_shots 104 = .ok (.iaload, 1) := by decide +kernel
theorem dX6_shots_105 : decode cX6_shots 105 = .ok (.iconst 1, 1) := by decide +kernel
theorem dX6_shots_106 : decode cX6_shots 106 = .ok (.iadd, 1) := by decide +kernel
theorem dX6_shots_107 : decode cX6_shots 107 = .ok (.iastore, 1) := by decide +kernel
theorem dX6_shots_108 : decode cX6_shots 108 = .ok (.aload_n 0, 1) := by decide +kernel
theorem dX6_shots_109 : decode cX6_shots 109 = .ok (.invokevirtual 166, 3) := by decide +kernel
theorem dX6_shots_112 : decode cX6_shots 112 = .ok (.aload_n 0, 1) := by decide +kernel
theorem dX6_shots_113 : decode cX6_shots 113 = .ok (.getfield 144, 3) := by decide +kernel
theorem dX6_shots_116 : decode cX6_shots 116 = .ok (.iconst 3, 1) := by decide +kernel
theorem dX6_shots_117 : decode cX6_shots 117 = .ok (.if_icmp .ne 7, 3) := by decide +kernel
theorem dX6_shots_120 : decode cX6_shots 120 = .ok (.iconst 1, 1) := by decide +kernel
theorem dX6_shots_121 : decode cX6_shots 121 = .ok (.goto 4, 3) := by decide +kernel
theorem dX6_shots_124 : decode cX6_shots 124 = .ok (.iconst 0, 1) := by decide +kernel
theorem dX6_shots_125 : decode cX6_shots 125 = .ok (.istore_n 3, 1) := by decide +kernel
theorem dX6_shots_126 : decode cX6_shots 126 = .ok (.goto (-115), 3) := by decide +kernel
theorem dX6_shots_129 : decode cX6_shots 129 = .ok (.iconst 1, 1) := by decide +kernel
theorem dX6_shots_130 : decode cX6_shots 130 = .ok (.ireturn, 1) := by decide +kernel
theorem dX6_starts_0 : decode cX6_starts 0 = .ok (.aload_n 0, 1) := by decide +kernel
theorem dX6_starts_1 : decode cX6_starts 1 = .ok (.getfield 144, 3) := by decide +kernel
theorem dX6_starts_4 : decode cX6_starts 4 = .ok (.iconst 1, 1) := by decide +kernel
theorem dX6_starts_5 : decode cX6_starts 5 = .ok (.if_icmp .ne 34, 3) := by decide +kernel
theorem dX6_starts_8 : decode cX6_starts 8 = .ok (.aload_n 0, 1) := by decide +kernel
theorem dX6_starts_9 : decode cX6_starts 9 = .ok (.getfield 155, 3) := by decide +kernel
theorem dX6_starts_12 : decode cX6_starts 12 = .ok (.bipush 9, 2) := by decide +kernel
theorem dX6_starts_14 : decode cX6_starts 14 = .ok (.if_icmp .eq 21, 3) := by decide +kernel
theorem dX6_starts_17 : decode cX6_starts 17 = .ok (.aload_n 0, 1) := by decide +kernel
theorem dX6_starts_18 : decode cX6_starts 18 = .ok (.getfield 155, 3) := by decide +kernel
theorem dX6_starts_21 : decode cX6_starts 21 = .ok (.bipush 10, 2) := by decide +kernel
theorem dX6_starts_23 : decode cX6_starts 23 = .ok (.if_icmp .eq 12, 3) := by decide +kernel
theorem dX6_starts_26 : decode cX6_starts 26 = .ok (.aload_n 0, 1) := by decide +kernel
theorem dX6_starts_27 : decode cX6_starts 27 = .ok (.getfield 155, 3) := by decide +kernel
theorem dX6_starts_30 : decode cX6_starts 30 = .ok (.bipush 11, 2) := by decide +kernel
theorem dX6_starts_32 : decode cX6_starts 32 = .ok (.if_icmp .ne 7, 3) := by decide +kernel
theorem dX6_starts_35 : decode cX6_starts 35 = .ok (.iconst 1, 1) := by decide +kernel
theorem dX6_starts_36 : decode cX6_starts 36 = .ok (.goto 4, 3) := by decide +kernel
theorem dX6_starts_39 : decode cX6_starts 39 = .ok (.iconst 0, 1) := by decide +kernel
theorem dX6_starts_40 : decode cX6_starts 40 = .ok (.istore_n 2, 1) := by decide +kernel
theorem dX6_starts_41 : decode cX6_starts 41 = .ok (.iload_n 2, 1) := by decide +kernel
theorem dX6_starts_42 : decode cX6_starts 42 = .ok (.ifCond .ne 13, 3) := by decide +kernel
theorem dX6_starts_45 : decode cX6_starts 45 = .ok (.aload_n 0, 1) := by decide +kernel
theorem dX6_starts_46 : decode cX6_starts 46 = .ok (.iconst 1, 1) := by decide +kernel
theorem dX6_starts_47 : decode cX6_starts 47 = .ok (.aload_n 0, 1) := by decide +kernel
theorem dX6_starts_48 : decode cX6_starts 48 = .ok (.getfield 141, 3) := by decide +kernel
theorem dX6_starts_51 : decode cX6_starts 51 = .ok (.invokevirtual 162, 3) := by decide +kernel
theorem dX6_starts_54 : decode cX6_starts 54 = .ok (.ireturn, 1) := by decide +kernel
theorem dX6_starts_55 : decode cX6_starts 55 = .ok (.aload_n 0, 1) := by decide +kernel
theorem dX6_starts_56 : decode cX6_starts 56 = .ok (.getfield 32, 3) := by decide +kernel
theorem dX6_starts_59 : decode cX6_starts 59 = .ok (.iload_n 1, 1) := by decide +kernel
theorem dX6_starts_60 : decode cX6_starts 60 = .ok (.aload_n 0, 1) := by decide +kernel
theorem dX6_starts_61 : decode cX6_starts 61 = .ok (.getfield 155, 3) := by decide +kernel
theorem dX6_starts_64 : decode cX6_starts 64 = .ok (.iastore, 1) := by decide +kernel
theorem dX6_starts_65 : decode cX6_starts 65 = .ok (.aload_n 0, 1) := by decide +kernel
theorem dX6_starts_66 : decode cX6_starts 66 = .ok (.getfield 35, 3) := by decide +kernel
theorem dX6_starts_69 : decode cX6_starts 69 = .ok (.iload_n 1, 1) := by decide +kernel
theorem dX6_starts_70 : decode cX6_starts 70 = .ok (.iconst 0, 1) := by decide +kernel
theorem dX6_starts_71 : decode cX6_starts 71 = .ok (.iastore, 1) := by decide +kernel
theorem dX6_starts_72 : decode cX6_starts 72 = .ok (.aload_n 0, 1) := by decide +kernel
theorem dX6_starts_73 : decode cX6_starts 73 = .ok (.invokevirtual 166, 3) := by decide +kernel
theorem dX6_starts_76 : decode cX6_starts 76 = .ok (.aload_n 0, 1) := by decide +kernel
theorem dX6_starts_77 : decode cX6_starts 77 = .ok (.getfield 32, 3) := by decide +kernel
theorem dX6_starts_80 : decode cX6_starts 80 = .ok (.iload_n 1, 1) := by decide +kernel
theorem dX6_starts_81 : decode cX6_starts 81 = .ok (.iaload, 1) := by decide +kernel
theorem dX6_starts_82 : decode cX6_starts 82 = .ok (.bipush 9, 2) := by decide +kernel
theorem dX6_starts_84 : decode cX6_starts 84 = .ok (.if_icmp .ne 5, 3) := by decide +kernel
theorem dX6_starts_87 : decode cX6_starts 87 = .ok (.iconst 1, 1) := by decide +kernel
theorem dX6_starts_88 : decode cX6_starts 88 = .ok (.ireturn, 1) := by decide +kernel
theorem dX6_starts_89 : decode cX6_starts 89 = .ok (.aload_n 0, 1) := by decide +kernel
theorem dX6_starts_90 : decode cX6_starts 90 = .ok (.aload_n 0, 1) := by decide +kernel
theorem dX6_starts_91 : decode cX6_starts 91 = .ok (.getfield 32, 3) := by decide +kernel
theorem dX6_starts_94 : decode cX6_starts 94 = .ok (.iload_n 1, 1) := by decide +kernel
theorem dX6_starts_95 : decode cX6_starts 95 = .ok (.iaload, 1) := by decide +kernel
theorem dX6_starts_96 : decode cX6_starts 96 = .ok (.bipush 10, 2) := by decide +kernel
theorem dX6_starts_98 : decode cX6_starts 98 = .ok (.if_icmp .ne 7, 3) := by decide +kernel
theorem dX6_starts_101 : decode cX6_starts 101 = .ok (.iconst 1, 1) := by decide +kernel
theorem dX6_starts_102 : decode cX6_starts 102 = .ok (.goto 4, 3) := by decide +kernel
theorem dX6_starts_105 : decode cX6_starts 105 = .ok (.iconst 0, 1) := by decide +kernel
theorem dX6_starts_106 : decode cX6_starts 106 = .ok (.aload_n 0, 1) := by decide +kernel
theorem dX6_starts_107 : decode cX6_starts 107 = .ok (.getfield 32, 3) := by decide +kernel
theorem dX6_starts_110 : decode cX6_starts 110 = .ok (.iload_n 1, 1) := by decide +kernel
theorem dX6_starts_111 : decode cX6_starts 111 = .ok (.iaload, 1) := by decide +kernel
theorem dX6_starts_112 : decode cX6_starts 112 = .ok (.bipush 10, 2) := by decide +kernel
theorem dX6_starts_114 : decode cX6_starts 114 = .ok (.if_icmp .ne 9, 3) := by decide +kernel
theorem dX6_starts_117 : decode cX6_starts 117 = .ok (.sipush 600, 3) := by decide +kernel
theorem dX6_starts_120 : decode cX6_starts 120 = .ok (.goto 6, 3) := by decide +kernel
theorem dX6_starts_123 : decode cX6_starts 123 = .ok (.sipush 3600, 3) := by decide +kernel
theorem dX6_starts_126 : decode cX6_starts 126 = .ok (.invokevirtual 172, 3) := by decide +kernel
theorem dX6_starts_129 : decode cX6_starts 129 = .ok (.ifCond .ne 5, 3) := by decide +kernel
theorem dX6_starts_132 : decode cX6_starts 132 = .ok (.iconst 0, 1) := by decide +kernel
theorem dX6_starts_133 : decode cX6_starts 133 = .ok (.ireturn, 1) := by decide +kernel
theorem dX6_starts_134 : decode cX6_starts 134 = .ok (.aload_n 0, 1) := by decide +kernel
theorem dX6_starts_135 : decode cX6_starts 135 = .ok (.getfield 35, 3) := by decide +kernel
theorem dX6_starts_138 : decode cX6_starts 138 = .ok (.iload_n 1, 1) := by decide +kernel
theorem dX6_starts_139 : decode cX6_starts 139 = .ok (.aload_n 0, 1) := by decide +kernel
theorem dX6_starts_140 : decode cX6_starts 140 = .ok (.getfield 169, 3) := by decide +kernel
theorem dX6_starts_143 : decode cX6_starts 143 = .ok (.iastore, 1) := by decide +kernel
theorem dX6_starts_144 : decode cX6_starts 144 = .ok (.iconst 1, 1) := by decide +kernel
theorem dX6_starts_145 : decode cX6_starts 145 = .ok (.ireturn, 1) := by decide +kernel
theorem dX6_format_0 : decode cX6_format 0 = .ok (.aload_n 0, 1) := by decide +kernel
theorem dX6_format_1 : decode cX6_format 1 = .ok (.iconst 1, 1) := by decide +kernel
theorem dX6_format_2 : decode cX6_format 2 = .ok (.invokevirtual 175, 3) := by decide +kernel
theorem dX6_format_5 : decode cX6_format 5 = .ok (.ifCond .ne 5, 3) := by decide +kernel
theorem dX6_format_8 : decode cX6_format 8 = .ok (.iconst 0, 1) := by decide +kernel
theorem dX6_format_9 : decode cX6_format 9 = .ok (.ireturn, 1) := by decide +kernel
theorem dX6_format_10 : decode cX6_format 10 = .ok (.aload_n 0, 1) := by decide +kernel
theorem dX6_format_11 : decode cX6_format 11 = .ok (.getfield 144, 3) := by decide +kernel
theorem dX6_format_14 : decode cX6_format 14 = .ok (.iconst 2, 1) := by decide +kernel
theorem dX6_format_15 : decode cX6_format 15 = .ok (.if_icmp .eq 13, 3) := by decide +kernel
theorem dX6_format_18 : decode cX6_format 18 = .ok (.aload_n 0, 1) := by decide +kernel
theorem dX6_format_19 : decode cX6_format 19 = .ok (.iconst 1, 1) := by decide +kernel
theorem dX6_format_20 : decode cX6_format 20 = .ok (.aload_n 0, 1) := by decide +kernel
theorem dX6_format_21 : decode cX6_format 21 = .ok (.getfield 141, 3) := by decide +kernel
theorem dX6_format_24 : decode cX6_format 24 = .ok (.invokevirtual 162, 3) := by decide +kernel
theorem dX6_format_27 : decode cX6_format 27 = .ok (.ireturn, 1) := by decide +kernel
theorem dX6_format_28 : decode cX6_format 28 = .ok (.bipush 8, 2) := by decide +kernel
theorem dX6_format_30 : decode cX6_format 30 = .ok (.aload_n 0, 1) := by decide +kernel
theorem dX6_format_31 : decode cX6_format 31 = .ok (.getfield 155, 3) := by decide +kernel
theorem dX6_format_34 : decode cX6_format 34 = .ok (.iadd, 1) := by decide +kernel
theorem dX6_format_35 : decode cX6_format 35 = .ok (.bipush 65, 2) := by decide +kernel
theorem dX6_format_37 : decode cX6_format 37 = .ok (.isub, 1) := by decide +kernel
theorem dX6_format_38 : decode cX6_format 38 = .ok (.istore_n 1, 1) := by decide +kernel
theorem dX6_format_39 : decode cX6_format 39 = .ok (.aload_n 0, 1) := by decide +kernel
theorem dX6_format_40 : decode cX6_format 40 = .ok (.getfield 13, 3) := by decide +kernel
theorem dX6_format_43 : decode cX6_format 43 = .ok (.iload_n 1, 1) := by decide +kernel
theorem dX6_format_44 : decode cX6_format 44 = .ok (.iaload, 1) := by decide +kernel
theorem dX6_format_45 : decode cX6_format 45 = .ok (.ifCond .le 13, 3) := by decide +kernel
theorem dX6_format_48 : decode cX6_format 48 = .ok (.aload_n 0, 1) := by decide +kernel
theorem dX6_format_49 : decode cX6_format 49 = .ok (.iconst 3, 1) := by decide +kernel
theorem dX6_format_50 : decode cX6_format 50 = .ok (.aload_n 0, 1) := by decide +kernel
theorem dX6_format_51 : decode cX6_format 51 = .ok (.getfield 141, 3) := by decide +kernel
theorem dX6_format_54 : decode cX6_format 54 = .ok (.invokevirtual 162, 3) := by decide +kernel
theorem dX6_format_57 : decode cX6_format 57 = .ok (.ireturn, 1) := by decide +kernel
theorem dX6_format_58 : decode cX6_format 58 = .ok (.aload_n 0, 1) := by decide +kernel
theorem dX6_format_59 : decode cX6_format 59 = .ok (.invokevirtual 166, 3) := by decide +kernel
theorem dX6_format_62 : decode cX6_format 62 = .ok (.aload_n 0, 1) := by decide +kernel
theorem dX6_format_63 : decode cX6_format 63 = .ok (.bipush 123, 2) := by decide +kernel
theorem dX6_format_65 : decode cX6_format 65 = .ok (.invokevirtual 178, 3) := by decide +kernel
theorem dX6_format_68 : decode cX6_format 68 = .ok (.ifCond .eq 21, 3) := by decide +kernel
theorem dX6_format_71 : decode cX6_format 71 = .ok (.aload_n 0, 1) := by decide +kernel
theorem dX6_format_72 : decode cX6_format 72 = .ok (.iconst 2, 1) := by decide +kernel
theorem dX6_format_73 : decode cX6_format 73 = .ok (.invokevirtual 175, 3) := by decide +kernel
theorem dX6_format_76 : decode cX6_format 76 = .ok (.ifCond .eq 13, 3) := by decide +kernel
theorem dX6_format_79 : decode cX6_format 79 = .ok (.aload_n 0, 1) := by decide +kernel
theorem dX6_format_80 : decode cX6_format 80 = .ok (.iconst 1, 1) := by decide +kernel
theorem dX6_format_81 : decode cX6_format 81 = .ok (.bipush 6, 2) := by decide +kernel
theorem dX6_format_83 : decode cX6_format 83 = .ok (.invokevirtual 172, 3) := by decide +kernel
theorem dX6_format_86 : decode cX6_format 86 = .ok (.ifCond .ne 5, 3) := by decide +kernel
theorem dX6_format_89 : decode cX6_format 89 = .ok (.iconst 0, 1) := by decide +kernel
theorem dX6_format_90 : decode cX6_format 90 = .ok (.ireturn, 1) := by decide +kernel
theorem dX6_format_91 : decode cX6_format 91 = .ok (.aload_n 0, 1) := by decide +kernel
theorem dX6_format_92 : decode cX6_format 92 = .ok (.getfield 13, 3) := by decide +kernel
theorem dX6_format_95 : decode cX6_format 95 = .ok (.iload_n 1, 1) := by decide +kernel
theorem dX6_format_96 : decode cX6_format 96 = .ok (.aload_n 0, 1) := by decide +kernel
theorem dX6_format_97 : decode cX6_format 97 = .ok (.getfield 169, 3) := by decide +kernel
theorem dX6_format_100 : decode cX6_format 100 = .ok (.iastore, 1) := by decide +kernel
theorem dX6_format_101 : decode cX6_format 101 = .ok (.aload_n 0, 1) := by decide +kernel
theorem dX6_format_102 : decode cX6_format 102 = .ok (.bipush 59, 2) := by decide +kernel
theorem dX6_format_104 : decode cX6_format 104 = .ok (.invokevirtual 178, 3) := by decide +kernel
theorem dX6_format_107 : decode cX6_format 107 = .ok (.ifCond .eq 45, 3) := by decide +kernel
theorem dX6_format_110 : decode cX6_format 110 = .ok (.aload_n 0, 1) := by decide +kernel
theorem dX6_format_111 : decode cX6_format 111 = .ok (.iconst 3, 1) := by decide +kernel
theorem dX6_format_112 : decode cX6_format 112 = .ok (.invokevirtual 175, 3) := by decide +kernel
theorem dX6_format_115 : decode cX6_format 115 = .ok (.ifCond .eq 37, 3) := by decide +kernel
theorem dX6_format_118 : decode cX6_format 118 = .ok (.aload_n 0, 1) := by decide +kernel
theorem dX6_format_119 : decode cX6_format 119 = .ok (.iload_n 1, 1) := by decide +kernel
theorem dX6_format_120 : decode cX6_format 120 = .ok (.invokevirtual 181, 3) := by decide +kernel
theorem dX6_format_123 : decode cX6_format 123 = .ok (.ifCond .eq 29, 3) := by decide +kernel
theorem dX6_format_126 : decode cX6_format 126 = .ok (.aload_n 0, 1) := by decide +kernel
theorem dX6_format_127 : decode cX6_format 127 = .ok (.bipush 59, 2) := by decide +kernel
theorem dX6_format_129 : decode cX6_format 129 = .ok (.invokevirtual 178, 3) := by decide +kernel
theorem dX6_format_132 : decode cX6_format 132 = .ok (.ifCond .eq 20, 3) := by decide +kernel
theorem dX6_format_135 : decode cX6_format 135 = .ok (.aload_n 0, 1) := by decide +kernel
theorem dX6_format_136 : decode cX6_format 136 = .ok (.iconst 4, 1) := by decide +kernel
theorem dX6_format_137 : decode cX6_format 137 = .ok (.invokevirtual 175, 3) := by decide +kernel
theorem dX6_format_140 : decode cX6_format 140 = .ok (.ifCond .eq 12, 3) := by decide +kernel
theorem dX6_format_143 : decode cX6_format 143 = .ok (.aload_n 0, 1) := by decide +kernel
theorem dX6_format_144 : decode cX6_format 144 = .ok (.iconst 0, 1) := by decide +kernel
theorem dX6_format_145 : decode cX6_format 145 = .ok (.iconst 3, 1) := by decide +kernel
theorem dX6_format_146 : decode cX6_format 146 = .ok (.invokevirtual 172, 3) := by decide +kernel
theorem dX6_format_149 : decode cX6_format 149 = .ok (.ifCond .ne 5, 3) := by decide +kernel
theorem dX6_format_152 : decode cX6_format 152 = .ok (.iconst 0, 1) := by decide +kernel
theorem dX6_format_153 : decode cX6_format 153 = .ok (.ireturn, 1) := by decide +kernel
theorem dX6_format_154 : decode cX6_format 154 = .ok (.aload_n 0, 1) := by decide +kernel
theorem dX6_format_155 : decode cX6_format 155 = .ok (.getfield 22, 3) := by decide +kernel
theorem dX6_format_158 : decode cX6_format 158 = .ok (.iload_n 1, 1) := by decide +kernel
theorem dX6_format_159 : decode cX6_format 159 = .ok (.aload_n 0, 1) := by decide +kernel
theorem dX6_format_160 : decode cX6_format 160 = .ok (.getfield 169, 3) := by decide +kernel
theorem dX6_format_163 : decode cX6_format 163 = .ok (.iastore, 1) := by decide +kernel
theorem dX6_format_164 : decode cX6_format 164 = .ok (.aload_n 0, 1) := by decide +kernel
theorem dX6_format_165 : decode cX6_format 165 = .ok (.bipush 59, 2) := by decide +kernel
theorem dX6_format_167 : decode cX6_format 167 = .ok (.invokevirtual 178, 3) := by decide +kernel
theorem dX6_format_170 : decode cX6_format 170 = .ok (.ifCond .eq 11, 3) := by decide +kernel
theorem dX6_format_173 : decode cX6_format 173 = .ok (.aload_n 0, 1) := by decide +kernel
theorem dX6_format_174 : decode cX6_format 174 = .ok (.iconst 5, 1) := by decide +kernel
theorem dX6_format_175 : decode cX6_format 175 = .ok (.invokevirtual 175, 3) := by decide +kernel
theorem dX6_format_178 : decode cX6_format 178 = .ok (.ifCond .ne 5, 3) := by decide +kernel
theorem dX6_format_181 : decode cX6_format 181 = .ok (.iconst 0, 1) := by decide +kernel
theorem dX6_format_182 : decode cX6_format 182 = .ok (.ireturn, 1) := by decide +kernel
theorem dX6_format_183 : decode cX6_format 183 = .ok (.aload_n 0, 1) := by decide +kernel
theorem dX6_format_184 : decode cX6_format 184 = .ok (.getfield 144, 3) := by decide +kernel
theorem dX6_format_187 : decode cX6_format 187 = .ok (.iconst 1, 1) := by decide +kernel
theorem dX6_format_188 : decode cX6_format 188 = .ok (.if_icmp .ne 21, 3) := by decide +kernel
theorem dX6_format_191 : decode cX6_format 191 = .ok (.aload_n 0, 1) := by decide +kernel
theorem dX6_format_192 : decode cX6_format 192 = .ok (.getfield 155, 3) := by decide +kernel
theorem dX6_format_195 : decode cX6_format 195 = .ok (.bipush 6, 2) := by decide +kernel
theorem dX6_format_197 : decode cX6_format 197 = .ok (.if_icmp .eq 22, 3) := by decide +kernel
theorem dX6_format_200 : decode cX6_format 200 = .ok (.aload_n 0, 1) := by decide +kernel
theorem dX6_format_201 : decode cX6_format 201 = .ok (.getfield 155, 3) := by decide +kernel
theorem dX6_format_204 : decode cX6_format 204 = .ok (.bipush 7, 2) := by decide +kernel
theorem dX6_format_206 : decode cX6_format 206 = .ok (.if_icmp .eq 13, 3) := by decide +kernel
theorem dX6_format_209 : decode cX6_format 209 = .ok (.aload_n 0, 1) := by decide +kernel
theorem dX6_format_210 : decode cX6_format 210 = .ok (.iconst 1, 1) := by decide +kernel
theorem dX6_format_211 : decode cX6_format 211 = .ok (.aload_n 0, 1) := by decide +kernel
theorem dX6_format_212 : decode cX6_format 212 = .ok (.getfield 141, 3) := by decide +kernel
theorem dX6_format_215 : decode cX6_format 215 = .ok (.invokevirtual 162, 3) := by decide +kernel
theorem dX6_format_218 : decode cX6_format 218 = .ok (.ireturn, 1) := by decide +kernel
theorem dX6_format_219 : decode cX6_format 219 = .ok (.aload_n 0, 1) := by decide +kernel
theorem dX6_format_220 : decode cX6_format 220 = .ok (.getfield 25, 3) := by decide +kernel
theorem dX6_format_223 : decode cX6_format 223 = .ok (.iload_n 1, 1) := by decide +kernel
theorem dX6_format_224 : decode cX6_format 224 = .ok (.aload_n 0, 1) := by decide +kernel
theorem dX6_format_225 : decode cX6_format 225 = .ok (.getfield 155, 3) := by decide +kernel
theorem dX6_format_228 : decode cX6_format 228 = .ok (.bipush 6, 2) := by decide +kernel
theorem dX6_format_230 : decode cX6_format 230 = .ok (.if_icmp .ne 7, 3) := by decide +kernel
theorem dX6_format_233 : decode cX6_format 233 = .ok (.iconst 1, 1) := by decide +kernel
theorem dX6_format_234 : decode cX6_format 234 = .ok (.goto 4, 3) := by decide +kernel
theorem dX6_format_237 : decode cX6_format 237 = .ok (.iconst 0, 1) := by decide +kernel
theorem dX6_format_238 : decode cX6_format 238 = .ok (.bastore, 1) := by decide +kernel
theorem dX6_format_239 : decode cX6_format 239 = .ok (.aload_n 0, 1) := by decide +kernel
theorem dX6_format_240 : decode cX6_format 240 = .ok (.invokevirtual 166, 3) := by decide +kernel
theorem dX6_format_243 : decode cX6_format 243 = .ok (.aload_n 0, 1) := by decide +kernel
theorem dX6_format_244 : decode cX6_format 244 = .ok (.iconst 0, 1) := by decide +kernel
theorem dX6_format_245 : decode cX6_format 245 = .ok (.sipush 600, 3) := by decide +kernel
theorem dX6_format_248 : decode cX6_format 248 = .ok (.invokevirtual 172, 3) := by decide +kernel
theorem dX6_format_251 : decode cX6_format 251 = .ok (.ifCond .ne 5, 3) := by decide +kernel
theorem dX6_format_254 : decode cX6_format 254 = .ok (.iconst 0, 1) := by decide +kernel
theorem dX6_format_255 : decode cX6_format 255 = .ok (.ireturn, 1) := by decide +kernel
theorem dX6_format_256 : decode cX6_format 256 = .ok (.aload_n 0, 1) := by decide +kernel
theorem dX6_format_257 : decode cX6_format 257 = .ok (.getfield 29, 3) := by decide +kernel
theorem dX6_format_260 : decode cX6_format 260 = .ok (.iload_n 1, 1) := by decide +kernel
theorem dX6_format_261 : decode cX6_format 261 = .ok (.aload_n 0, 1) := by decide +kernel
theorem dX6_format_262 : decode cX6_format 262 = .ok (.getfield 169, 3) := by decide +kernel
theorem dX6_format_265 : decode cX6_format 265 = .ok (.iastore, 1) := by decide +kernel
theorem dX6_format_266 : decode cX6_format 266 = .ok (.aload_n 0, 1) := by decide +kernel
theorem dX6_format_267 : decode cX6_format 267 = .ok (.bipush 59, 2) := by decide +kernel
theorem dX6_format_269 : decode cX6_format 269 = .ok (.invokevirtual 178, 3) := by decide +kernel
theorem dX6_format_272 : decode cX6_format 272 = .ok (.ifCond .eq 42, 3) := by decide +kernel
theorem dX6_format_275 : decode cX6_format 275 = .ok (.aload_n 0, 1) := by decide +kernel
theorem dX6_format_276 : decode cX6_format 276 = .ok (.bipush 8, 2) := by decide +kernel
theorem dX6_format_278 : decode cX6_format 278 = .ok (.invokevirtual 175, 3) := by decide +kernel
theorem dX6_format_281 : decode cX6_format 281 = .ok (.ifCond .eq 33, 3) := by decide +kernel
theorem dX6_format_284 : decode cX6_format 284 = .ok (.aload_n 0, 1) := by decide +kernel
theorem dX6_format_285 : decode cX6_format 285 = .ok (.iload_n 1, 1) := by decide +kernel
theorem dX6_format_286 : decode cX6_format 286 = .ok (.invokevirtual 184, 3) := by decide +kernel
theorem dX6_format_289 : decode cX6_format 289 = .ok (.ifCond .eq 25, 3) := by decide +kernel
theorem dX6_format_292 : decode cX6_format 292 = .ok (.aload_n 0, 1) := by decide +kernel
theorem dX6_format_293 : decode cX6_format 293 = .ok (.bipush 59, 2) := by decide +kernel
theorem dX6_format_295 : decode cX6_format 295 = .ok (.invokevirtual 178, 3) := by decide +kernel
theorem dX6_format_298 : decode cX6_format 298 = .ok (.ifCond .eq 16, 3) := by decide +kernel
theorem dX6_format_301 : decode cX6_format 301 = .ok (.aload_n 0, 1) := by decide +kernel
theorem dX6_format_302 : decode cX6_format 302 = .ok (.bipush 125, 2) := by decide +kernel
theorem dX6_format_304 : decode cX6_format 304 = .ok (.invokevirtual 178, 3) := by decide +kernel
theorem dX6_format_307 : decode cX6_format 307 = .ok (.ifCond .eq 7, 3) := by decide +kernel
theorem dX6_format_310 : decode cX6_format 310 = .ok (.iconst 1, 1) := by decide +kernel
theorem dX6_format_311 : decode cX6_format 311 = .ok (.goto 4, 3) := by decide +kernel
theorem dX6_format_314 : decode cX6_format 314 = .ok (.iconst 0, 1) := by decide +kernel
theorem dX6_format_315 : decode cX6_format 315 = .ok (.ireturn, 1) := by decide +kernel
theorem dX6_formats_0 : decode cX6_formats 0 = .ok (.aload_n 0, 1) := by decide +kernel
theorem dX6_formats_1 : decode cX6_formats 1 = .ok (.iconst 0, 1) := by decide +kernel
theorem dX6_formats_2 : decode cX6_formats 2 = .ok (.putfield 126, 3) := by decide +kernel
theorem dX6_formats_5 : decode cX6_formats 5 = .ok (.iload_n 1, 1) := by decide +kernel
theorem dX6_formats_6 : decode cX6_formats 6 = .ok (.ifCond .lt 11, 3) := by decide +kernel
theorem dX6_formats_9 : decode cX6_formats 9 = .ok (.iload_n 1, 1) := by decide +kernel
theorem dX6_formats_10 : decode cX6_formats 10 = .ok (.aload_n 0, 1) := by decide +kernel
theorem dX6_formats_11 : decode cX6_formats 11 = .ok (.getfield 129, 3) := by decide +kernel
theorem dX6_formats_14 : decode cX6_formats 14 = .ok (.if_icmp .le 6, 3) := by decide +kernel
theorem dX6_formats_17 : decode cX6_formats 17 = .ok (.bipush (-2), 2) := by decide +kernel
theorem dX6_formats_19 : decode cX6_formats 19 = .ok (.ireturn, 1) := by decide +kernel
theorem dX6_formats_20 : decode cX6_formats 20 = .ok (.aload_n 0, 1) := by decide +kernel
theorem dX6_formats_21 : decode cX6_formats 21 = .ok (.iload_n 1, 1) := by decide +kernel
theorem dX6_formats_22 : decode cX6_formats 22 = .ok (.putfield 135, 3) := by decide +kernel
theorem dX6_formats_25 : decode cX6_formats 25 = .ok (.aload_n 0, 1) := by decide +kernel
theorem dX6_formats_26 : decode cX6_formats 26 = .ok (.iconst 0, 1) := by decide +kernel
theorem dX6_formats_27 : decode cX6_formats 27 = .ok (.putfield 129, 3) := by decide +kernel
theorem dX6_formats_30 : decode cX6_formats 30 = .ok (.aload_n 0, 1) := by decide +kernel
theorem dX6_formats_31 : decode cX6_formats 31 = .ok (.iconst 0, 1) := by decide +kernel
theorem dX6_formats_32 : decode cX6_formats 32 = .ok (.putfield 132, 3) := by decide +kernel
theorem dX6_formats_35 : decode cX6_formats 35 = .ok (.aload_n 0, 1) := by decide +kernel
theorem dX6_formats_36 : decode cX6_formats 36 = .ok (.iconst (-1), 1) := by decide +kernel
theorem dX6_formats_37 : decode cX6_formats 37 = .ok (.putfield 38, 3) := by decide +kernel
theorem dX6_formats_40 : decode cX6_formats 40 = .ok (.bipush 8, 2) := by decide +kernel
theorem dX6_formats_42 : decode cX6_formats 42 = .ok (.istore_n 2, 1) := by decide +kernel
theorem dX6_formats_43 : decode cX6_formats 43 = .ok (.iload_n 2, 1) := by decide +kernel
theorem dX6_formats_44 : decode cX6_formats 44 = .ok (.bipush 16, 2) := by decide +kernel
theorem dX6_formats_46 : decode cX6_formats 46 = .ok (.if_icmp .ge 16, 3) := by decide +kernel
theorem dX6_formats_49 : decode cX6_formats 49 = .ok (.aload_n 0, 1) := by decide +kernel
theorem dX6_formats_50 : decode cX6_formats 50 = .ok (.getfield 13, 3) := by decide +kernel
theorem dX6_formats_53 : decode cX6_formats 53 = .ok (.iload_n 2, 1) := by decide +kernel
theorem dX6_formats_54 : decode cX6_formats 54 = .ok (.iconst 0, 1) := by decide +kernel
theorem dX6_formats_55 : decode cX6_formats 55 = .ok (.iastore, 1) := by decide +kernel
theorem dX6_formats_56 : decode cX6_formats 56 = .ok (.iinc 2 1, 3) := by decide +kernel
theorem dX6_formats_59 : decode cX6_formats 59 = .ok (.goto (-16), 3) := by decide +kernel
theorem dX6_formats_62 : decode cX6_formats 62 = .ok (.aload_n 0, 1) := by decide +kernel
theorem dX6_formats_63 : decode cX6_formats 63 = .ok (.iconst 0, 1) := by decide +kernel
theorem dX6_formats_64 : decode cX6_formats 64 = .ok (.putfield 138, 3) := by decide +kernel
theorem dX6_formats_67 : decode cX6_formats 67 = .ok (.iconst 0, 1) := by decide +kernel
theorem dX6_formats_68 : decode cX6_formats 68 = .ok (.istore_n 2, 1) := by decide +kernel
theorem dX6_formats_69 : decode cX6_formats 69 = .ok (.aload_n 0, 1) := by decide +kernel
theorem dX6_formats_70 : decode cX6_formats 70 = .ok (.invokevirtual 166, 3) := by decide +kernel
theorem dX6_formats_73 : decode cX6_formats 73 = .ok (.aload_n 0, 1) := by decide +kernel
theorem dX6_formats_74 : decode cX6_formats 74 = .ok (.getfield 144, 3) := by decide +kernel
theorem dX6_formats_77 : decode cX6_formats 77 = .ok (.ifCond .eq 18, 3) := by decide +kernel
theorem dX6_formats_80 : decode cX6_formats 80 = .ok (.aload_n 0, 1) := by decide +kernel
theorem dX6_formats_81 : decode cX6_formats 81 = .ok (.invokevirtual 187, 3) := by decide +kernel
theorem dX6_formats_84 : decode cX6_formats 84 = .ok (.ifCond .ne 5, 3) := by decide +kernel
theorem dX6_formats_87 : decode cX6_formats 87 = .ok (.iconst (-1), 1) := by decide +kernel
theorem dX6_formats_88 : decode cX6_formats 88 = .ok (.ireturn, 1) := by decide +kernel
theorem dX6_formats_89 : decode cX6_formats 89 = .ok (.iinc 2 1, 3) := by decide +kernel
theorem dX6_formats_92 : decode cX6_formats 92 = .ok (.goto (-19), 3) := by decide +kernel
theorem dX6_formats_95 : decode cX6_formats 95 = .ok (.aload_n 0, 1) := by decide +kernel
theorem dX6_formats_96 : decode cX6_formats 96 = .ok (.iload_n 2, 1) := by decide +kernel
theorem dX6_formats_97 : decode cX6_formats 97 = .ok (.putfield 191, 3) := by decide +kernel
theorem dX6_formats_100 : decode cX6_formats 100 = .ok (.iconst 0, 1) := by decide +kernel
theorem dX6_formats_101 : decode cX6_formats 101 = .ok (.istore_n 3, 1) := by decide +kernel
theorem dX6_formats_102 : decode cX6_formats 102 = .ok (.iload_n 3, 1) := by decide +kernel
theorem dX6_formats_103 : decode cX6_formats 103 = .ok (.bipush 8, 2) := by decide +kernel
theorem dX6_formats_105 : decode cX6_formats 105 = .ok (.if_icmp .ge 114, 3) := by decide +kernel
theorem dX6_formats_108 : decode cX6_formats 108 = .ok (.aload_n 0, 1) := by decide +kernel
theorem dX6_formats_109 : decode cX6_formats 109 = .ok (.getfield 13, 3) := by decide +kernel
theorem dX6_formats_112 : decode cX6_formats 112 = .ok (.iload_n 3, 1) := by decide +kernel
theorem dX6_formats_113 : decode cX6_formats 113 = .ok (.aload_n 0, 1) := by decide +kernel
theorem dX6_formats_114 : decode cX6_formats 114 = .ok (.getfield 13, 3) := by decide +kernel
theorem dX6_formats_117 : decode cX6_formats 117 = .ok (.bipush 8, 2) := by decide +kernel
theorem dX6_formats_119 : decode cX6_formats 119 = .ok (.iload_n 3, 1) := by decide +kernel
theorem dX6_formats_120 : decode cX6_formats 120 = .ok (.iadd, 1) := by decide +kernel
theorem dX6_formats_121 : decode cX6_formats 121 = .ok (.iaload, 1) := by decide +kernel
theorem dX6_formats_122 : decode cX6_formats 122 = .ok (.iastore, 1) := by decide +kernel
theorem dX6_formats_123 : decode cX6_formats 123 = .ok (.aload_n 0, 1) := by decide +kernel
theorem dX6_formats_124 : decode cX6_formats 124 = .ok (.getfield 16, 3) := by decide +kernel
theorem dX6_formats_127 : decode cX6_formats 127 = .ok (.iload_n 3, 1) := by decide +kernel
theorem dX6_formats_128 : decode cX6_formats 128 = .ok (.aload_n 0, 1) := by decide +kernel
theorem dX6_formats_129 : decode cX6_formats 129 = .ok (.getfield 16, 3) := by decide +kernel
theorem dX6_formats_132 : decode cX6_formats 132 = .ok (.bipush 8, 2) := by decide +kernel
theorem dX6_formats_134 : decode cX6_formats 134 = .ok (.iload_n 3, 1) := by decide +kernel
theorem dX6_formats_135 : decode cX6_formats 135 = .ok (.iadd, 1) := by decide +kernel
theorem dX6_formats_136 : decode cX6_formats 136 = .ok (.iaload, 1) := by decide +kernel
theorem dX6_formats_137 : decode cX6_formats 137 = .ok (.iastore, 1) := by decide +kernel
theorem dX6_formats_138 : decode cX6_formats 138 = .ok (.aload_n 0, 1) := by decide +kernel
theorem dX6_formats_139 : decode cX6_formats 139 = .ok (.getfield 22, 3) := by decide +kernel
theorem dX6_formats_142 : decode cX6_formats 142 = .ok (.iload_n 3, 1) := by decide +kernel
theorem dX6_formats_143 : decode cX6_formats 143 = .ok (.aload_n 0, 1) := by decide +kernel
theorem dX6_formats_144 : decode cX6_formats 144 = .ok (.getfield 22, 3) := by decide +kernel
theorem dX6_formats_147 : decode cX6_formats 147 = .ok (.bipush 8, 2) := by decide +kernel
theorem dX6_formats_149 : decode cX6_formats 149 = .ok (.iload_n 3, 1) := by decide +kernel
theorem dX6_formats_150 : decode cX6_formats 150 = .ok (.iadd, 1) := by decide +kernel
theorem dX6_formats_151 : decode cX6_formats 151 = .ok (.iaload, 1) := by decide +kernel
theorem dX6_formats_152 : decode cX6_formats 152 = .ok (.iastore, 1) := by decide +kernel
theorem dX6_formats_153 : decode cX6_formats 153 = .ok (.aload_n 0, 1) := by decide +kernel
theorem dX6_formats_154 : decode cX6_formats 154 = .ok (.getfield 25, 3) := by decide +kernel
theorem dX6_formats_157 : decode cX6_formats 157 = .ok (.iload_n 3, 1) := by decide +kernel
theorem dX6_formats_158 : decode cX6_formats 158 = .ok (.aload_n 0, 1) := by decide +kernel
theorem dX6_formats_159 : decode cX6_formats 159 = .ok (.getfield 25, 3) := by decide +kernel
theorem dX6_formats_162 : decode cX6_formats 162 = .ok (.bipush 8, 2) := by decide +kernel
theorem dX6_formats_164 : decode cX6_formats 164 = .ok (.iload_n 3, 1) := by decide +kernel
theorem dX6_formats_165 : decode cX6_formats 165 = .ok (.iadd, 1) := by decide +kernel
theorem dX6_formats_166 : decode cX6_formats 166 = .ok (.baload, 1) := by decide +kernel
theorem dX6_formats_167 : decode cX6_formats 167 = .ok (.bastore, 1) := by decide +kernel
theorem dX6_formats_168 : decode cX6_formats 168 = .ok (.aload_n 0, 1) := by decide +kernel
theorem dX6_formats_169 : decode cX6_formats 169 = .ok (.getfield 29, 3) := by decide +kernel
theorem dX6_formats_172 : decode cX6_formats 172 = .ok (.iload_n 3, 1) := by decide +kernel
theorem dX6_formats_173 : decode cX6_formats 173 = .ok (.aload_n 0, 1) := by decide +kernel
theorem dX6_formats_174 : decode cX6_formats 174 = .ok (.getfield 29, 3) := by decide +kernel
theorem dX6_formats_177 : decode cX6_formats 177 = .ok (.bipush 8, 2) := by decide +kernel
theorem dX6_formats_179 : decode cX6_formats 179 = .ok (.iload_n 3, 1) := by decide +kernel
theorem dX6_formats_180 : decode cX6_formats 180 = .ok (.iadd, 1) := by decide +kernel
theorem dX6_formats_181 : decode cX6_formats 181 = .ok (.iaload, 1) := by decide +kernel
theorem dX6_formats_182 : decode cX6_formats 182 = .ok (.iastore, 1) := by decide +kernel
theorem dX6_formats_183 : decode cX6_formats 183 = .ok (.aload_n 0, 1) := by decide +kernel
theorem dX6_formats_184 : decode cX6_formats 184 = .ok (.getfield 32, 3) := by decide +kernel
theorem dX6_formats_187 : decode cX6_formats 187 = .ok (.iload_n 3, 1) := by decide +kernel
theorem dX6_formats_188 : decode cX6_formats 188 = .ok (.aload_n 0, 1) := by decide +kernel
theorem dX6_formats_189 : decode cX6_formats 189 = .ok (.getfield 32, 3) := by decide +kernel
theorem dX6_formats_192 : decode cX6_formats 192 = .ok (.bipush 8, 2) := by decide +kernel
theorem dX6_formats_194 : decode cX6_formats 194 = .ok (.iload_n 3, 1) := by decide +kernel
theorem dX6_formats_195 : decode cX6_formats 195 = .ok (.iadd, 1) := by decide +kernel
theorem dX6_formats_196 : decode cX6_formats 196 = .ok (.iaload, 1) := by decide +kernel
theorem dX6_formats_197 : decode cX6_formats 197 = .ok (.iastore, 1) := by decide +kernel
theorem dX6_formats_198 : decode cX6_formats 198 = .ok (.aload_n 0, 1) := by decide +kernel
theorem dX6_formats_199 : decode cX6_formats 199 = .ok (.getfield 35, 3) := by decide +kernel
theorem dX6_formats_202 : decode cX6_formats 202 = .ok (.iload_n 3, 1) := by decide +kernel
theorem dX6_formats_203 : decode cX6_formats 203 = .ok (.aload_n 0, 1) := by decide +kernel
theorem dX6_formats_204 : decode cX6_formats 204 = .ok (.getfield 35, 3) := by decide +kernel
theorem dX6_formats_207 : decode cX6_formats 207 = .ok (.bipush 8, 2) := by decide +kernel
theorem dX6_formats_209 : decode cX6_formats 209 = .ok (.iload_n 3, 1) := by decide +kernel
theorem dX6_formats_210 : decode cX6_formats 210 = .ok (.iadd, 1) := by decide +kernel
theorem dX6_formats_211 : decode cX6_formats 211 = .ok (.iaload, 1) := by decide +kernel
theorem dX6_formats_212 : decode cX6_formats 212 = .ok (.iastore, 1) := by decide +kernel
theorem dX6_formats_213 : decode cX6_formats 213 = .ok (.iinc 3 1, 3) := by decide +kernel
theorem dX6_formats_216 : decode cX6_formats 216 = .ok (.goto (-114), 3) := by decide +kernel
theorem dX6_formats_219 : decode cX6_formats 219 = .ok (.iload_n 2, 1) := by decide +kernel
theorem dX6_formats_220 : decode cX6_formats 220 = .ok (.ireturn, 1) := by decide +kernel
theorem dX6_fault_0 : decode cX6_fault 0 = .ok (.aload_n 0, 1) := by decide +kernel
theorem dX6_fault_1 : decode cX6_fault 1 = .ok (.iconst 0, 1) := by decide +kernel
theorem dX6_fault_2 : decode cX6_fault 2 = .ok (.putfield 126, 3) := by decide +kernel
theorem dX6_fault_5 : decode cX6_fault 5 = .ok (.iload_n 1, 1) := by decide +kernel
theorem dX6_fault_6 : decode cX6_fault 6 = .ok (.ifCond .ne 10, 3) := by decide +kernel
theorem dX6_fault_9 : decode cX6_fault 9 = .ok (.aload_n 0, 1) := by decide +kernel
theorem dX6_fault_10 : decode cX6_fault 10 = .ok (.getfield 132, 3) := by decide +kernel
theorem dX6_fault_13 : decode cX6_fault 13 = .ok (.goto 16, 3) := by decide +kernel
theorem dX6_fault_16 : decode cX6_fault 16 = .ok (.iload_n 1, 1) := by decide +kernel
theorem dX6_fault_17 : decode cX6_fault 17 = .ok (.iconst 1, 1) := by decide +kernel
theorem dX6_fault_18 : decode cX6_fault 18 = .ok (.if_icmp .ne 10, 3) := by decide +kernel
theorem dX6_fault_21 : decode cX6_fault 21 = .ok (.aload_n 0, 1) := by decide +kernel
theorem dX6_fault_22 : decode cX6_fault 22 = .ok (.getfield 38, 3) := by decide +kernel
theorem dX6_fault_25 : decode cX6_fault 25 = .ok (.goto 4, 3) := by decide +kernel
theorem dX6_fault_28 : decode cX6_fault 28 = .ok (.iconst (-1), 1) := by decide +kernel
theorem dX6_fault_29 : decode cX6_fault 29 = .ok (.ireturn, 1) := by decide +kernel
theorem dX6_pass_0 : decode cX6_pass 0 = .ok (.aload_n 0, 1) := by decide +kernel
theorem dX6_pass_1 : decode cX6_pass 1 = .ok (.iconst 0, 1) := by decide +kernel
theorem dX6_pass_2 : decode cX6_pass 2 = .ok (.putfield 126, 3) := by decide +kernel
theorem dX6_pass_5 : decode cX6_pass 5 = .ok (.iload_n 1, 1) := by decide +kernel
theorem dX6_pass_6 : decode cX6_pass 6 = .ok (.ifCond .lt 22, 3) := by decide +kernel
theorem dX6_pass_9 : decode cX6_pass 9 = .ok (.iload_n 1, 1) := by decide +kernel
theorem dX6_pass_10 : decode cX6_pass 10 = .ok (.sipush 200, 3) := by decide +kernel
theorem dX6_pass_13 : decode cX6_pass 13 = .ok (.if_icmp .gt 15, 3) := by decide +kernel
theorem dX6_pass_16 : decode cX6_pass 16 = .ok (.aload_n 0, 1) := by decide +kernel
theorem dX6_pass_17 : decode cX6_pass 17 = .ok (.getfield 194, 3) := by decide +kernel
theorem dX6_pass_20 : decode cX6_pass 20 = .ok (.iload_n 1, 1) := by decide +kernel
theorem dX6_pass_21 : decode cX6_pass 21 = .ok (.iadd, 1) := by decide +kernel
theorem dX6_pass_22 : decode cX6_pass 22 = .ok (.sipush 200, 3) := by decide +kernel
theorem dX6_pass_25 : decode cX6_pass 25 = .ok (.if_icmp .le 5, 3) := by decide +kernel
theorem dX6_pass_28 : decode cX6_pass 28 = .ok (.iconst (-1), 1) := by decide +kernel
theorem dX6_pass_29 : decode cX6_pass 29 = .ok (.ireturn, 1) := by decide +kernel
theorem dX6_pass_30 : decode cX6_pass 30 = .ok (.aload_n 0, 1) := by decide +kernel
theorem dX6_pass_31 : decode cX6_pass 31 = .ok (.dup, 1) := by decide +kernel
theorem dX6_pass_32 : decode cX6_pass 32 = .ok (.getfield 194, 3) := by decide +kernel
theorem dX6_pass_35 : decode cX6_pass 35 = .ok (.iload_n 1, 1) := by decide +kernel
theorem dX6_pass_36 : decode cX6_pass 36 = .ok (.iadd, 1) := by decide +kernel
theorem dX6_pass_37 : decode cX6_pass 37 = .ok (.putfield 194, 3) := by decide +kernel
theorem dX6_pass_40 : decode cX6_pass 40 = .ok (.aload_n 0, 1) := by decide +kernel
theorem dX6_pass_41 : decode cX6_pass 41 = .ok (.getfield 194, 3) := by decide +kernel
theorem dX6_pass_44 : decode cX6_pass 44 = .ok (.ireturn, 1) := by decide +kernel
theorem dX6_racer_0 : decode cX6_racer 0 = .ok (.aload_n 0, 1) := by decide +kernel
theorem dX6_racer_1 : decode cX6_racer 1 = .ok (.iconst 0, 1) := by decide +kernel
theorem dX6_racer_2 : decode cX6_racer 2 = .ok (.putfield 126, 3) := by decide +kernel
theorem dX6_racer_5 : decode cX6_racer 5 = .ok (.iload_n 1, 1) := by decide +kernel
theorem dX6_racer_6 : decode cX6_racer 6 = .ok (.ifCond .lt 18, 3) := by decide +kernel
theorem dX6_racer_9 : decode cX6_racer 9 = .ok (.iload_n 1, 1) := by decide +kernel
theorem dX6_racer_10 : decode cX6_racer 10 = .ok (.bipush 7, 2) := by decide +kernel
theorem dX6_racer_12 : decode cX6_racer 12 = .ok (.if_icmp .gt 12, 3) := by decide +kernel
theorem dX6_racer_15 : decode cX6_racer 15 = .ok (.aload_n 0, 1) := by decide +kernel
theorem dX6_racer_16 : decode cX6_racer 16 = .ok (.getfield 197, 3) := by decide +kernel
theorem dX6_racer_19 : decode cX6_racer 19 = .ok (.bipush 16, 2) := by decide +kernel
theorem dX6_racer_21 : decode cX6_racer 21 = .ok (.if_icmp .ne 5, 3) := by decide +kernel
theorem dX6_racer_24 : decode cX6_racer 24 = .ok (.iconst (-1), 1) := by decide +kernel
theorem dX6_racer_25 : decode cX6_racer 25 = .ok (.ireturn, 1) := by decide +kernel
theorem dX6_racer_26 : decode cX6_racer 26 = .ok (.aload_n 0, 1) := by decide +kernel
theorem dX6_racer_27 : decode cX6_racer 27 = .ok (.getfield 42, 3) := by decide +kernel
theorem dX6_racer_30 : decode cX6_racer 30 = .ok (.aload_n 0, 1) := by decide +kernel
theorem dX6_racer_31 : decode cX6_racer 31 = .ok (.getfield 197, 3) := by decide +kernel
theorem dX6_racer_34 : decode cX6_racer 34 = .ok (.iload_n 1, 1) := by decide +kernel
theorem dX6_racer_35 : decode cX6_racer 35 = .ok (.iastore, 1) := by decide +kernel
theorem dX6_racer_36 : decode cX6_racer 36 = .ok (.aload_n 0, 1) := by decide +kernel
theorem dX6_racer_37 : decode cX6_racer 37 = .ok (.dup, 1) := by decide +kernel
theorem dX6_racer_38 : decode cX6_racer 38 = .ok (.getfield 197, 3) := by decide +kernel
theorem dX6_racer_41 : decode cX6_racer 41 = .ok (.iconst 1, 1) := by decide +kernel
theorem dX6_racer_42 : decode cX6_racer 42 = .ok (.iadd, 1) := by decide +kernel
theorem dX6_racer_43 : decode cX6_racer 43 = .ok (.putfield 197, 3) := by decide +kernel
theorem dX6_racer_46 : decode cX6_racer 46 = .ok (.aload_n 0, 1) := by decide +kernel
theorem dX6_racer_47 : decode cX6_racer 47 = .ok (.getfield 197, 3) := by decide +kernel
theorem dX6_racer_50 : decode cX6_racer 50 = .ok (.iconst 1, 1) := by decide +kernel
theorem dX6_racer_51 : decode cX6_racer 51 = .ok (.isub, 1) := by decide +kernel
theorem dX6_racer_52 : decode cX6_racer 52 = .ok (.ireturn, 1) := by decide +kernel
theorem dX6_isRace_0 : decode cX6_isRace 0 = .ok (.iload_n 1, 1) := by decide +kernel
theorem dX6_isRace_1 : decode cX6_isRace 1 = .ok (.ifCond .lt 15, 3) := by decide +kernel
theorem dX6_isRace_4 : decode cX6_isRace 4 = .ok (.iload_n 1, 1) := by decide +kernel
theorem dX6_isRace_5 : decode cX6_isRace 5 = .ok (.aload_n 0, 1) := by decide +kernel
theorem dX6_isRace_6 : decode cX6_isRace 6 = .ok (.getfield 200, 3) := by decide +kernel
theorem dX6_isRace_9 : decode cX6_isRace 9 = .ok (.if_icmp .ge 7, 3) := by decide +kernel
theorem dX6_isRace_12 : decode cX6_isRace 12 = .ok (.iconst 1, 1) := by decide +kernel
theorem dX6_isRace_13 : decode cX6_isRace 13 = .ok (.goto 4, 3) := by decide +kernel
theorem dX6_isRace_16 : decode cX6_isRace 16 = .ok (.iconst 0, 1) := by decide +kernel
theorem dX6_isRace_17 : decode cX6_isRace 17 = .ok (.ireturn, 1) := by decide +kernel
theorem dX6_isRacer_0 : decode cX6_isRacer 0 = .ok (.iload_n 1, 1) := by decide +kernel
theorem dX6_isRacer_1 : decode cX6_isRacer 1 = .ok (.ifCond .lt 15, 3) := by decide +kernel
theorem dX6_isRacer_4 : decode cX6_isRacer 4 = .ok (.iload_n 1, 1) := by decide +kernel
theorem dX6_isRacer_5 : decode cX6_isRacer 5 = .ok (.aload_n 0, 1) := by decide +kernel
theorem dX6_isRacer_6 : decode cX6_isRacer 6 = .ok (.getfield 197, 3) := by decide +kernel
theorem dX6_isRacer_9 : decode cX6_isRacer 9 = .ok (.if_icmp .ge 7, 3) := by decide +kernel
theorem dX6_isRacer_12 : decode cX6_isRacer 12 = .ok (.iconst 1, 1) := by decide +kernel
theorem dX6_isRacer_13 : decode cX6_isRacer 13 = .ok (.goto 4, 3) := by decide +kernel
theorem dX6_isRacer_16 : decode cX6_isRacer 16 = .ok (.iconst 0, 1) := by decide +kernel
theorem dX6_isRacer_17 : decode cX6_isRacer 17 = .ok (.ireturn, 1) := by decide +kernel
theorem dX6_race_0 : decode cX6_race 0 = .ok (.aload_n 0, 1) := by decide +kernel
theorem dX6_race_1 : decode cX6_race 1 = .ok (.iconst 0, 1) := by decide +kernel
theorem dX6_race_2 : decode cX6_race 2 = .ok (.putfield 126, 3) := by decide +kernel
theorem dX6_race_5 : decode cX6_race 5 = .ok (.iload_n 1, 1) := by decide +kernel
theorem dX6_race_6 : decode cX6_race 6 = .ok (.ifCond .lt 27, 3) := by decide +kernel
theorem dX6_race_9 : decode cX6_race 9 = .ok (.iload_n 1, 1) := by decide +kernel
theorem dX6_race_10 : decode cX6_race 10 = .ok (.bipush 7, 2) := by decide +kernel
theorem dX6_race_12 : decode cX6_race 12 = .ok (.if_icmp .gt 21, 3) := by decide +kernel
theorem dX6_race_15 : decode cX6_race 15 = .ok (.aload_n 0, 1) := by decide +kernel
theorem dX6_race_16 : decode cX6_race 16 = .ok (.getfield 13, 3) := by decide +kernel
theorem dX6_race_19 : decode cX6_race 19 = .ok (.iload_n 1, 1) := by decide +kernel
theorem dX6_race_20 : decode cX6_race 20 = .ok (.iaload, 1) := by decide +kernel
theorem dX6_race_21 : decode cX6_race 21 = .ok (.ifCond .eq 12, 3) := by decide +kernel
theorem dX6_race_24 : decode cX6_race 24 = .ok (.aload_n 0, 1) := by decide +kernel
theorem dX6_race_25 : decode cX6_race 25 = .ok (.getfield 200, 3) := by decide +kernel
theorem dX6_race_28 : decode cX6_race 28 = .ok (.bipush 8, 2) := by decide +kernel
theorem dX6_race_30 : decode cX6_race 30 = .ok (.if_icmp .ne 5, 3) := by decide +kernel
theorem dX6_race_33 : decode cX6_race 33 = .ok (.iconst (-1), 1) := by decide +kernel
theorem dX6_race_34 : decode cX6_race 34 = .ok (.ireturn, 1) := by decide +kernel
theorem dX6_race_35 : decode cX6_race 35 = .ok (.aload_n 0, 1) := by decide +kernel
theorem dX6_race_36 : decode cX6_race 36 = .ok (.getfield 32, 3) := by decide +kernel
theorem dX6_race_39 : decode cX6_race 39 = .ok (.iload_n 1, 1) := by decide +kernel
theorem dX6_race_40 : decode cX6_race 40 = .ok (.iaload, 1) := by decide +kernel
theorem dX6_race_41 : decode cX6_race 41 = .ok (.bipush 11, 2) := by decide +kernel
theorem dX6_race_43 : decode cX6_race 43 = .ok (.if_icmp .ne 14, 3) := by decide +kernel
theorem dX6_race_46 : decode cX6_race 46 = .ok (.aload_n 0, 1) := by decide +kernel
theorem dX6_race_47 : decode cX6_race 47 = .ok (.iload_n 2, 1) := by decide +kernel
theorem dX6_race_48 : decode cX6_race 48 = .ok (.invokevirtual 203, 3) := by decide +kernel
theorem dX6_race_51 : decode cX6_race 51 = .ok (.ifCond .ne 13, 3) := by decide +kernel
theorem dX6_race_54 : decode cX6_race 54 = .ok (.goto 8, 3) := by decide +kernel
theorem dX6_race_57 : decode cX6_race 57 = .ok (.iload_n 2, 1) := by decide +kernel
theorem dX6_race_58 : decode cX6_race 58 = .ok (.iconst (-1), 1) := by decide +kernel
theorem dX6_race_59 : decode cX6_race 59 = .ok (.if_icmp .eq 5, 3) := by decide +kernel
theorem dX6_race_62 : decode cX6_race 62 = .ok (.iconst (-1), 1) := by decide +kernel
theorem dX6_race_63 : decode cX6_race 63 = .ok (.ireturn, 1) := by decide +kernel
theorem dX6_race_64 : decode cX6_race 64 = .ok (.aload_n 0, 1) := by decide +kernel
theorem dX6_race_65 : decode cX6_race 65 = .ok (.getfield 45, 3) := by decide +kernel
theorem dX6_race_68 : decode cX6_race 68 = .ok (.aload_n 0, 1) := by decide +kernel
theorem dX6_race_69 : decode cX6_race 69 = .ok (.getfield 200, 3) := by decide +kernel
theorem dX6_race_72 : decode cX6_race 72 = .ok (.iload_n 1, 1) := by decide +kernel
theorem dX6_race_73 : decode cX6_race 73 = .ok (.iastore, 1) := by decide +kernel
theorem dX6_race_74 : decode cX6_race 74 = .ok (.aload_n 0, 1) := by decide +kernel
theorem dX6_race_75 : decode cX6_race 75 = .ok (.getfield 48, 3) := by decide +kernel
theorem dX6_race_78 : decode cX6_race 78 = .ok (.aload_n 0, 1) := by decide +kernel
theorem dX6_race_79 : decode cX6_race 79 = .ok (.getfield 200, 3) := by decide +kernel
theorem dX6_race_82 : decode cX6_race 82 = .ok (.aload_n 0, 1) := by decide +kernel
theorem dX6_race_83 : decode cX6_race 83 = .ok (.getfield 13, 3) := by decide +kernel
theorem dX6_race_86 : decode cX6_race 86 = .ok (.iload_n 1, 1) := by decide +kernel
theorem dX6_race_87 : decode cX6_race 87 = .ok (.iaload, 1) := by decide +kernel
theorem dX6_race_88 : decode cX6_race 88 = .ok (.iastore, 1) := by decide +kernel
theorem dX6_race_89 : decode cX6_race 89 = .ok (.aload_n 0, 1) := by decide +kernel
theorem dX6_race_90 : decode cX6_race 90 = .ok (.getfield 51, 3) := by decide +kernel
theorem dX6_race_93 : decode cX6_race 93 = .ok (.aload_n 0, 1) := by decide +kernel
theorem dX6_race_94 : decode cX6_race 94 = .ok (.getfield 200, 3) := by decide +kernel
theorem dX6_race_97 : decode cX6_race 97 = .ok (.aload_n 0, 1) := by decide +kernel
theorem dX6_race_98 : decode cX6_race 98 = .ok (.getfield 16, 3) := by decide +kernel
theorem dX6_race_101 : decode cX6_race 101 = .ok (.iload_n 1, 1) := by decide +kernel
theorem dX6_race_102 : decode cX6_race 102 = .ok (.iaload, 1) := by decide +kernel
theorem dX6_race_103 : decode cX6_race 103 = .ok (.iastore, 1) := by decide +kernel
theorem dX6_race_104 : decode cX6_race 104 = .ok (.aload_n 0, 1) := by decide +kernel
theorem dX6_race_105 : decode cX6_race 105 = .ok (.getfield 54, 3) := by decide +kernel
theorem dX6_race_108 : decode cX6_race 108 = .ok (.aload_n 0, 1) := by decide +kernel
theorem dX6_race_109 : decode cX6_race 109 = .ok (.getfield 200, 3) := by decide +kernel
theorem dX6_race_112 : decode cX6_race 112 = .ok (.aload_n 0, 1) := by decide +kernel
theorem dX6_race_113 : decode cX6_race 113 = .ok (.getfield 22, 3) := by decide +kernel
theorem dX6_race_116 : decode cX6_race 116 = .ok (.iload_n 1, 1) := by decide +kernel
theorem dX6_race_117 : decode cX6_race 117 = .ok (.iaload, 1) := by decide +kernel
theorem dX6_race_118 : decode cX6_race 118 = .ok (.iastore, 1) := by decide +kernel
theorem dX6_race_119 : decode cX6_race 119 = .ok (.aload_n 0, 1) := by decide +kernel
theorem dX6_race_120 : decode cX6_race 120 = .ok (.getfield 57, 3) := by decide +kernel
theorem dX6_race_123 : decode cX6_race 123 = .ok (.aload_n 0, 1) := by decide +kernel
theorem dX6_race_124 : decode cX6_race 124 = .ok (.getfield 200, 3) := by decide +kernel
theorem dX6_race_127 : decode cX6_race 127 = .ok (.aload_n 0, 1) := by decide +kernel
theorem dX6_race_128 : decode cX6_race 128 = .ok (.getfield 25, 3) := by decide +kernel
theorem dX6_race_131 : decode cX6_race 131 = .ok (.iload_n 1, 1) := by decide +kernel
theorem dX6_race_132 : decode cX6_race 132 = .ok (.baload, 1) := by decide +kernel
theorem dX6_race_133 : decode cX6_race 133 = .ok (.bastore, 1) := by decide +kernel
theorem dX6_race_134 : decode cX6_race 134 = .ok (.aload_n 0, 1) := by decide +kernel
theorem dX6_race_135 : decode cX6_race 135 = .ok (.getfield 60, 3) := by decide +kernel
theorem dX6_race_138 : decode cX6_race 138 = .ok (.aload_n 0, 1) := by decide +kernel
theorem dX6_race_139 : decode cX6_race 139 = .ok (.getfield 200, 3) := by decide +kernel
theorem dX6_race_142 : decode cX6_race 142 = .ok (.aload_n 0, 1) := by decide +kernel
theorem dX6_race_143 : decode cX6_race 143 = .ok (.getfield 29, 3) := by decide +kernel
theorem dX6_race_146 : decode cX6_race 146 = .ok (.iload_n 1, 1) := by decide +kernel
theorem dX6_race_147 : decode cX6_race 147 = .ok (.iaload, 1) := by decide +kernel
theorem dX6_race_148 : decode cX6_race 148 = .ok (.iastore, 1) := by decide +kernel
theorem dX6_race_149 : decode cX6_race 149 = .ok (.aload_n 0, 1) := by decide +kernel
theorem dX6_race_150 : decode cX6_race 150 = .ok (.getfield 63, 3) := by decide +kernel
theorem dX6_race_153 : decode cX6_race 153 = .ok (.aload_n 0, 1) := by decide +kernel
theorem dX6_race_154 : decode cX6_race 154 = .ok (.getfield 200, 3) := by decide +kernel
theorem dX6_race_157 : decode cX6_race 157 = .ok (.aload_n 0, 1) := by decide +kernel
theorem dX6_race_158 : decode cX6_race 158 = .ok (.getfield 32, 3) := by decide +kernel
theorem dX6_race_161 : decode cX6_race 161 = .ok (.iload_n 1, 1) := by decide +kernel
theorem dX6_race_162 : decode cX6_race 162 = .ok (.iaload, 1) := by decide +kernel
theorem dX6_race_163 : decode cX6_race 163 = .ok (.iastore, 1) := by decide +kernel
theorem dX6_race_164 : decode cX6_race 164 = .ok (.aload_n 0, 1) := by decide +kernel
theorem dX6_race_165 : decode cX6_race 165 = .ok (.getfield 66, 3) := by decide +kernel
theorem dX6_race_168 : decode cX6_race 168 = .ok (.aload_n 0, 1) := by decide +kernel
theorem dX6_race_169 : decode cX6_race 169 = .ok (.getfield 200, 3) := by decide +kernel
theorem dX6_race_172 : decode cX6_race 172 = .ok (.aload_n 0, 1) := by decide +kernel
theorem dX6_race_173 : decode cX6_race 173 = .ok (.getfield 35, 3) := by decide +kernel
theorem dX6_race_176 : decode cX6_race 176 = .ok (.iload_n 1, 1) := by decide +kernel
theorem dX6_race_177 : decode cX6_race 177 = .ok (.iaload, 1) := by decide +kernel
theorem dX6_race_178 : decode cX6_race 178 = .ok (.iastore, 1) := by decide +kernel
theorem dX6_race_179 : decode cX6_race 179 = .ok (.aload_n 0, 1) := by decide +kernel
theorem dX6_race_180 : decode cX6_race 180 = .ok (.getfield 69, 3) := by decide +kernel
theorem dX6_race_183 : decode cX6_race 183 = .ok (.aload_n 0, 1) := by decide +kernel
theorem dX6_race_184 : decode cX6_race 184 = .ok (.getfield 200, 3) := by decide +kernel
theorem dX6_race_187 : decode cX6_race 187 = .ok (.iload_n 2, 1) := by decide +kernel
theorem dX6_race_188 : decode cX6_race 188 = .ok (.iastore, 1) := by decide +kernel
theorem dX6_race_189 : decode cX6_race 189 = .ok (.aload_n 0, 1) := by decide +kernel
theorem dX6_race_190 : decode cX6_race 190 = .ok (.dup, 1) := by decide +kernel
theorem dX6_race_191 : decode cX6_race 191 = .ok (.getfield 200, 3) := by decide +kernel
theorem dX6_race_194 : decode cX6_race 194 = .ok (.iconst 1, 1) := by decide +kernel
theorem dX6_race_195 : decode cX6_race 195 = .ok (.iadd, 1) := by decide +kernel
theorem dX6_race_196 : decode cX6_race 196 = .ok (.putfield 200, 3) := by decide +kernel
theorem dX6_race_199 : decode cX6_race 199 = .ok (.aload_n 0, 1) := by decide +kernel
theorem dX6_race_200 : decode cX6_race 200 = .ok (.getfield 200, 3) := by decide +kernel
theorem dX6_race_203 : decode cX6_race 203 = .ok (.iconst 1, 1) := by decide +kernel
theorem dX6_race_204 : decode cX6_race 204 = .ok (.isub, 1) := by decide +kernel
theorem dX6_race_205 : decode cX6_race 205 = .ok (.ireturn, 1) := by decide +kernel
theorem dX6_enter_0 : decode cX6_enter 0 = .ok (.aload_n 0, 1) := by decide +kernel
theorem dX6_enter_1 : decode cX6_enter 1 = .ok (.iconst 0, 1) := by decide +kernel
theorem dX6_enter_2 : decode cX6_enter 2 = .ok (.putfield 126, 3) := by decide +kernel
theorem dX6_enter_5 : decode cX6_enter 5 = .ok (.aload_n 0, 1) := by decide +kernel
theorem dX6_enter_6 : decode cX6_enter 6 = .ok (.iload_n 1, 1) := by decide +kernel
theorem dX6_enter_7 : decode cX6_enter 7 = .ok (.invokevirtual 203, 3) := by decide +kernel
theorem dX6_enter_10 : decode cX6_enter 10 = .ok (.ifCond .eq 34, 3) := by decide +kernel
theorem dX6_enter_13 : decode cX6_enter 13 = .ok (.aload_n 0, 1) := by decide +kernel
theorem dX6_enter_14 : decode cX6_enter 14 = .ok (.iload_n 2, 1) := by decide +kernel
theorem dX6_enter_15 : decode cX6_enter 15 = .ok (.invokevirtual 206, 3) := by decide +kernel
theorem dX6_enter_18 : decode cX6_enter 18 = .ok (.ifCond .eq 26, 3) := by decide +kernel
theorem dX6_enter_21 : decode cX6_enter 21 = .ok (.aload_n 0, 1) := by decide +kernel
theorem dX6_enter_22 : decode cX6_enter 22 = .ok (.getfield 81, 3) := by decide +kernel
theorem dX6_enter_25 : decode cX6_enter 25 = .ok (.bipush 16, 2) := by decide +kernel
theorem dX6_enter_27 : decode cX6_enter 27 = .ok (.iload_n 1, 1) := by decide +kernel
theorem dX6_enter_28 : decode cX6_enter 28 = .ok (.imul, 1) := by decide +kernel
theorem dX6_enter_29 : decode cX6_enter 29 = .ok (.iload_n 2, 1) := by decide +kernel
theorem dX6_enter_30 : decode cX6_enter 30 = .ok (.iadd, 1) := by decide +kernel
theorem dX6_enter_31 : decode cX6_enter 31 = .ok (.iaload, 1) := by decide +kernel
theorem dX6_enter_32 : decode cX6_enter 32 = .ok (.ifCond .ge 12, 3) := by decide +kernel
theorem dX6_enter_35 : decode cX6_enter 35 = .ok (.aload_n 0, 1) := by decide +kernel
theorem dX6_enter_36 : decode cX6_enter 36 = .ok (.getfield 75, 3) := by decide +kernel
theorem dX6_enter_39 : decode cX6_enter 39 = .ok (.iload_n 1, 1) := by decide +kernel
theorem dX6_enter_40 : decode cX6_enter 40 = .ok (.iaload, 1) := by decide +kernel
theorem dX6_enter_41 : decode cX6_enter 41 = .ok (.ifCond .le 5, 3) := by decide +kernel
theorem dX6_enter_44 : decode cX6_enter 44 = .ok (.iconst (-1), 1) := by decide +kernel
theorem dX6_enter_45 : decode cX6_enter 45 = .ok (.ireturn, 1) := by decide +kernel
theorem dX6_enter_46 : decode cX6_enter 46 = .ok (.aload_n 0, 1) := by decide +kernel
theorem dX6_enter_47 : decode cX6_enter 47 = .ok (.getfield 81, 3) := by decide +kernel
theorem dX6_enter_50 : decode cX6_enter 50 = .ok (.bipush 16, 2) := by decide +kernel
theorem dX6_enter_52 : decode cX6_enter 52 = .ok (.iload_n 1, 1) := by decide +kernel
theorem dX6_enter_53 : decode cX6_enter 53 = .ok (.imul, 1) := by decide +kernel
theorem dX6_enter_54 : decode cX6_enter 54 = .ok (.iload_n 2, 1) := by decide +kernel
theorem dX6_enter_55 : decode cX6_enter 55 = .ok (.iadd, 1) := by decide +kernel
theorem dX6_enter_56 : decode cX6_enter 56 = .ok (.aload_n 0, 1) := by decide +kernel
theorem dX6_enter_57 : decode cX6_enter 57 = .ok (.getfield 72, 3) := by decide +kernel
theorem dX6_enter_60 : decode cX6_enter 60 = .ok (.iload_n 1, 1) := by decide +kernel
theorem dX6_enter_61 : decode cX6_enter 61 = .ok (.iaload, 1) := by decide +kernel
theorem dX6_enter_62 : decode cX6_enter 62 = .ok (.iastore, 1) := by decide +kernel
theorem dX6_enter_63 : decode cX6_enter 63 = .ok (.aload_n 0, 1) := by decide +kernel
theorem dX6_enter_64 : decode cX6_enter 64 = .ok (.getfield 78, 3) := by decide +kernel
theorem dX6_enter_67 : decode cX6_enter 67 = .ok (.bipush 16, 2) := by decide +kernel
theorem dX6_enter_69 : decode cX6_enter 69 = .ok (.iload_n 1, 1) := by decide +kernel
theorem dX6_enter_70 : decode cX6_enter 70 = .ok (.imul, 1) := by decide +kernel
theorem dX6_enter_71 : decode cX6_enter 71 = .ok (.aload_n 0, 1) := by decide +kernel
theorem dX6_enter_72 : decode cX6_enter 72 = .ok (.getfield 72, 3) := by decide +kernel
theorem dX6_enter_75 : decode cX6_enter 75 = .ok (.iload_n 1, 1) := by decide +kernel
theorem dX6_enter_76 : decode cX6_enter 76 = .ok (.iaload, 1) := by decide +kernel
theorem dX6_enter_77 : decode cX6_enter 77 = .ok (.iadd, 1) := by decide +kernel
theorem dX6_enter_78 : decode cX6_enter 78 = .ok (.iload_n 2, 1) := by decide +kernel
theorem dX6_enter_79 : decode cX6_enter 79 = .ok (.iastore, 1) := by decide +kernel
theorem dX6_enter_80 : decode cX6_enter 80 = .ok (.aload_n 0, 1) := by decide +kernel
theorem dX6_enter_81 : decode cX6_enter 81 = .ok (.getfield 72, 3) := by decide +kernel
theorem dX6_enter_84 : decode cX6_enter 84 = .ok (.iload_n 1, 1) := by decide +kernel
theorem dX6_enter_85 : decode cX6_enter 85 = .ok (.dup2, 1) := by decide +kernel
theorem dX6_enter_86 : decode cX6_enter 86 = .ok (.iaload, 1) := by decide +kernel
theorem dX6_enter_87 : decode cX6_enter 87 = .ok (.iconst 1, 1) := by decide +kernel
theorem dX6_enter_88 : decode cX6_enter 88 = .ok (.iadd, 1) := by decide +kernel
theorem dX6_enter_89 : decode cX6_enter 89 = .ok (.iastore, 1) := by decide +kernel
theorem dX6_enter_90 : decode cX6_enter 90 = .ok (.aload_n 0, 1) := by decide +kernel
theorem dX6_enter_91 : decode cX6_enter 91 = .ok (.getfield 72, 3) := by decide +kernel
theorem dX6_enter_94 : decode cX6_enter 94 = .ok (.iload_n 1, 1) := by decide +kernel
