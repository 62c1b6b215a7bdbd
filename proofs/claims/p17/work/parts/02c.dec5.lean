theorem dX6_enter_95 : decode cX6_enter 95 = .ok (.iaload, 1) := by decide +kernel
theorem dX6_enter_96 : decode cX6_enter 96 = .ok (.ireturn, 1) := by decide +kernel
theorem dX6_isIn_0 : decode cX6_isIn 0 = .ok (.aload_n 0, 1) := by decide +kernel
theorem dX6_isIn_1 : decode cX6_isIn 1 = .ok (.iload_n 1, 1) := by decide +kernel
theorem dX6_isIn_2 : decode cX6_isIn 2 = .ok (.invokevirtual 203, 3) := by decide +kernel
theorem dX6_isIn_5 : decode cX6_isIn 5 = .ok (.ifCond .eq 29, 3) := by decide +kernel
theorem dX6_isIn_8 : decode cX6_isIn 8 = .ok (.aload_n 0, 1) := by decide +kernel
theorem dX6_isIn_9 : decode cX6_isIn 9 = .ok (.iload_n 2, 1) := by decide +kernel
theorem dX6_isIn_10 : decode cX6_isIn 10 = .ok (.invokevirtual 206, 3) := by decide +kernel
theorem dX6_isIn_13 : decode cX6_isIn 13 = .ok (.ifCond .eq 21, 3) := by decide +kernel
theorem dX6_isIn_16 : decode cX6_isIn 16 = .ok (.aload_n 0, 1) := by decide +kernel
theorem dX6_isIn_17 : decode cX6_isIn 17 = .ok (.getfield 81, 3) := by decide +kernel
theorem dX6_isIn_20 : decode cX6_isIn 20 = .ok (.bipush 16, 2) := by decide +kernel
theorem dX6_isIn_22 : decode cX6_isIn 22 = .ok (.iload_n 1, 1) := by decide +kernel
theorem dX6_isIn_23 : decode cX6_isIn 23 = .ok (.imul, 1) := by decide +kernel
theorem dX6_isIn_24 : decode cX6_isIn 24 = .ok (.iload_n 2, 1) := by decide +kernel
theorem dX6_isIn_25 : decode cX6_isIn 25 = .ok (.iadd, 1) := by decide +kernel
theorem dX6_isIn_26 : decode cX6_isIn 26 = .ok (.iaload, 1) := by decide +kernel
theorem dX6_isIn_27 : decode cX6_isIn 27 = .ok (.ifCond .lt 7, 3) := by decide +kernel
theorem dX6_isIn_30 : decode cX6_isIn 30 = .ok (.iconst 1, 1) := by decide +kernel
theorem dX6_isIn_31 : decode cX6_isIn 31 = .ok (.goto 4, 3) := by decide +kernel
theorem dX6_isIn_34 : decode cX6_isIn 34 = .ok (.iconst 0, 1) := by decide +kernel
theorem dX6_isIn_35 : decode cX6_isIn 35 = .ok (.ireturn, 1) := by decide +kernel
theorem dX6_can_0 : decode cX6_can 0 = .ok (.iload_n 2, 1) := by decide +kernel
theorem dX6_can_1 : decode cX6_can 1 = .ok (.tableswitch 153 0 3 #[31, 65, 98, 131], 31) := by decide +kernel
theorem dX6_can_32 : decode cX6_can 32 = .ok (.iload_n 3, 1) := by decide +kernel
theorem dX6_can_33 : decode cX6_can 33 = .ok (.iconst 1, 1) := by decide +kernel
theorem dX6_can_34 : decode cX6_can 34 = .ok (.if_icmp .lt 30, 3) := by decide +kernel
theorem dX6_can_37 : decode cX6_can 37 = .ok (.iload_n 3, 1) := by decide +kernel
theorem dX6_can_38 : decode cX6_can 38 = .ok (.aload_n 0, 1) := by decide +kernel
theorem dX6_can_39 : decode cX6_can 39 = .ok (.getfield 48, 3) := by decide +kernel
theorem dX6_can_42 : decode cX6_can 42 = .ok (.iload_n 1, 1) := by decide +kernel
theorem dX6_can_43 : decode cX6_can 43 = .ok (.iaload, 1) := by decide +kernel
theorem dX6_can_44 : decode cX6_can 44 = .ok (.if_icmp .gt 20, 3) := by decide +kernel
theorem dX6_can_47 : decode cX6_can 47 = .ok (.iload 4, 2) := by decide +kernel
theorem dX6_can_49 : decode cX6_can 49 = .ok (.iconst (-1), 1) := by decide +kernel
theorem dX6_can_50 : decode cX6_can 50 = .ok (.if_icmp .lt 14, 3) := by decide +kernel
theorem dX6_can_53 : decode cX6_can 53 = .ok (.iload 4, 2) := by decide +kernel
theorem dX6_can_55 : decode cX6_can 55 = .ok (.ldc 209, 2) := by decide +kernel
theorem dX6_can_57 : decode cX6_can 57 = .ok (.if_icmp .gt 7, 3) := by decide +kernel
theorem dX6_can_60 : decode cX6_can 60 = .ok (.iconst 1, 1) := by decide +kernel
theorem dX6_can_61 : decode cX6_can 61 = .ok (.goto 4, 3) := by decide +kernel
theorem dX6_can_64 : decode cX6_can 64 = .ok (.iconst 0, 1) := by decide +kernel
theorem dX6_can_65 : decode cX6_can 65 = .ok (.ireturn, 1) := by decide +kernel
theorem dX6_can_66 : decode cX6_can 66 = .ok (.iload_n 3, 1) := by decide +kernel
theorem dX6_can_67 : decode cX6_can 67 = .ok (.ifCond .lt 30, 3) := by decide +kernel
theorem dX6_can_70 : decode cX6_can 70 = .ok (.iload_n 3, 1) := by decide +kernel
theorem dX6_can_71 : decode cX6_can 71 = .ok (.aload_n 0, 1) := by decide +kernel
theorem dX6_can_72 : decode cX6_can 72 = .ok (.getfield 51, 3) := by decide +kernel
theorem dX6_can_75 : decode cX6_can 75 = .ok (.iload_n 1, 1) := by decide +kernel
theorem dX6_can_76 : decode cX6_can 76 = .ok (.iaload, 1) := by decide +kernel
theorem dX6_can_77 : decode cX6_can 77 = .ok (.if_icmp .ge 20, 3) := by decide +kernel
theorem dX6_can_80 : decode cX6_can 80 = .ok (.iload 4, 2) := by decide +kernel
theorem dX6_can_82 : decode cX6_can 82 = .ok (.iconst (-1), 1) := by decide +kernel
theorem dX6_can_83 : decode cX6_can 83 = .ok (.if_icmp .lt 14, 3) := by decide +kernel
theorem dX6_can_86 : decode cX6_can 86 = .ok (.iload 4, 2) := by decide +kernel
theorem dX6_can_88 : decode cX6_can 88 = .ok (.bipush 31, 2) := by decide +kernel
theorem dX6_can_90 : decode cX6_can 90 = .ok (.if_icmp .gt 7, 3) := by decide +kernel
theorem dX6_can_93 : decode cX6_can 93 = .ok (.iconst 1, 1) := by decide +kernel
theorem dX6_can_94 : decode cX6_can 94 = .ok (.goto 4, 3) := by decide +kernel
theorem dX6_can_97 : decode cX6_can 97 = .ok (.iconst 0, 1) := by decide +kernel
theorem dX6_can_98 : decode cX6_can 98 = .ok (.ireturn, 1) := by decide +kernel
theorem dX6_can_99 : decode cX6_can 99 = .ok (.iload_n 3, 1) := by decide +kernel
theorem dX6_can_100 : decode cX6_can 100 = .ok (.ifCond .lt 30, 3) := by decide +kernel
theorem dX6_can_103 : decode cX6_can 103 = .ok (.iload_n 3, 1) := by decide +kernel
theorem dX6_can_104 : decode cX6_can 104 = .ok (.aload_n 0, 1) := by decide +kernel
theorem dX6_can_105 : decode cX6_can 105 = .ok (.getfield 51, 3) := by decide +kernel
theorem dX6_can_108 : decode cX6_can 108 = .ok (.iload_n 1, 1) := by decide +kernel
theorem dX6_can_109 : decode cX6_can 109 = .ok (.iaload, 1) := by decide +kernel
theorem dX6_can_110 : decode cX6_can 110 = .ok (.if_icmp .ge 20, 3) := by decide +kernel
theorem dX6_can_113 : decode cX6_can 113 = .ok (.iload 4, 2) := by decide +kernel
theorem dX6_can_115 : decode cX6_can 115 = .ok (.iconst (-1), 1) := by decide +kernel
theorem dX6_can_116 : decode cX6_can 116 = .ok (.if_icmp .lt 14, 3) := by decide +kernel
theorem dX6_can_119 : decode cX6_can 119 = .ok (.iload 4, 2) := by decide +kernel
theorem dX6_can_121 : decode cX6_can 121 = .ok (.bipush 9, 2) := by decide +kernel
theorem dX6_can_123 : decode cX6_can 123 = .ok (.if_icmp .gt 7, 3) := by decide +kernel
theorem dX6_can_126 : decode cX6_can 126 = .ok (.iconst 1, 1) := by decide +kernel
theorem dX6_can_127 : decode cX6_can 127 = .ok (.goto 4, 3) := by decide +kernel
theorem dX6_can_130 : decode cX6_can 130 = .ok (.iconst 0, 1) := by decide +kernel
theorem dX6_can_131 : decode cX6_can 131 = .ok (.ireturn, 1) := by decide +kernel
theorem dX6_can_132 : decode cX6_can 132 = .ok (.iload_n 3, 1) := by decide +kernel
theorem dX6_can_133 : decode cX6_can 133 = .ok (.ifCond .ne 19, 3) := by decide +kernel
theorem dX6_can_136 : decode cX6_can 136 = .ok (.iload 4, 2) := by decide +kernel
theorem dX6_can_138 : decode cX6_can 138 = .ok (.iconst (-1), 1) := by decide +kernel
theorem dX6_can_139 : decode cX6_can 139 = .ok (.if_icmp .lt 13, 3) := by decide +kernel
theorem dX6_can_142 : decode cX6_can 142 = .ok (.iload 4, 2) := by decide +kernel
theorem dX6_can_144 : decode cX6_can 144 = .ok (.iconst 1, 1) := by decide +kernel
theorem dX6_can_145 : decode cX6_can 145 = .ok (.if_icmp .gt 7, 3) := by decide +kernel
theorem dX6_can_148 : decode cX6_can 148 = .ok (.iconst 1, 1) := by decide +kernel
theorem dX6_can_149 : decode cX6_can 149 = .ok (.goto 4, 3) := by decide +kernel
theorem dX6_can_152 : decode cX6_can 152 = .ok (.iconst 0, 1) := by decide +kernel
theorem dX6_can_153 : decode cX6_can 153 = .ok (.ireturn, 1) := by decide +kernel
theorem dX6_can_154 : decode cX6_can 154 = .ok (.iconst 0, 1) := by decide +kernel
theorem dX6_can_155 : decode cX6_can 155 = .ok (.ireturn, 1) := by decide +kernel
theorem dX6_tell_0 : decode cX6_tell 0 = .ok (.aload_n 0, 1) := by decide +kernel
theorem dX6_tell_1 : decode cX6_tell 1 = .ok (.iconst 0, 1) := by decide +kernel
theorem dX6_tell_2 : decode cX6_tell 2 = .ok (.putfield 126, 3) := by decide +kernel
theorem dX6_tell_5 : decode cX6_tell 5 = .ok (.aload_n 0, 1) := by decide +kernel
theorem dX6_tell_6 : decode cX6_tell 6 = .ok (.iload_n 1, 1) := by decide +kernel
theorem dX6_tell_7 : decode cX6_tell 7 = .ok (.iload_n 2, 1) := by decide +kernel
theorem dX6_tell_8 : decode cX6_tell 8 = .ok (.invokevirtual 210, 3) := by decide +kernel
theorem dX6_tell_11 : decode cX6_tell 11 = .ok (.ifCond .eq 26, 3) := by decide +kernel
theorem dX6_tell_14 : decode cX6_tell 14 = .ok (.aload_n 0, 1) := by decide +kernel
theorem dX6_tell_15 : decode cX6_tell 15 = .ok (.iload_n 1, 1) := by decide +kernel
theorem dX6_tell_16 : decode cX6_tell 16 = .ok (.iload_n 3, 1) := by decide +kernel
theorem dX6_tell_17 : decode cX6_tell 17 = .ok (.iload 4, 2) := by decide +kernel
theorem dX6_tell_19 : decode cX6_tell 19 = .ok (.iload 5, 2) := by decide +kernel
theorem dX6_tell_21 : decode cX6_tell 21 = .ok (.invokevirtual 213, 3) := by decide +kernel
theorem dX6_tell_24 : decode cX6_tell 24 = .ok (.ifCond .eq 13, 3) := by decide +kernel
theorem dX6_tell_27 : decode cX6_tell 27 = .ok (.aload_n 0, 1) := by decide +kernel
theorem dX6_tell_28 : decode cX6_tell 28 = .ok (.getfield 217, 3) := by decide +kernel
theorem dX6_tell_31 : decode cX6_tell 31 = .ok (.sipush 400, 3) := by decide +kernel
theorem dX6_tell_34 : decode cX6_tell 34 = .ok (.if_icmp .ne 5, 3) := by decide +kernel
theorem dX6_tell_37 : decode cX6_tell 37 = .ok (.iconst (-1), 1) := by decide +kernel
theorem dX6_tell_38 : decode cX6_tell 38 = .ok (.ireturn, 1) := by decide +kernel
theorem dX6_tell_39 : decode cX6_tell 39 = .ok (.aload_n 0, 1) := by decide +kernel
theorem dX6_tell_40 : decode cX6_tell 40 = .ok (.getfield 84, 3) := by decide +kernel
theorem dX6_tell_43 : decode cX6_tell 43 = .ok (.aload_n 0, 1) := by decide +kernel
theorem dX6_tell_44 : decode cX6_tell 44 = .ok (.getfield 217, 3) := by decide +kernel
theorem dX6_tell_47 : decode cX6_tell 47 = .ok (.iload_n 1, 1) := by decide +kernel
theorem dX6_tell_48 : decode cX6_tell 48 = .ok (.iastore, 1) := by decide +kernel
theorem dX6_tell_49 : decode cX6_tell 49 = .ok (.aload_n 0, 1) := by decide +kernel
theorem dX6_tell_50 : decode cX6_tell 50 = .ok (.getfield 87, 3) := by decide +kernel
theorem dX6_tell_53 : decode cX6_tell 53 = .ok (.aload_n 0, 1) := by decide +kernel
theorem dX6_tell_54 : decode cX6_tell 54 = .ok (.getfield 217, 3) := by decide +kernel
theorem dX6_tell_57 : decode cX6_tell 57 = .ok (.iload_n 2, 1) := by decide +kernel
theorem dX6_tell_58 : decode cX6_tell 58 = .ok (.iastore, 1) := by decide +kernel
theorem dX6_tell_59 : decode cX6_tell 59 = .ok (.aload_n 0, 1) := by decide +kernel
theorem dX6_tell_60 : decode cX6_tell 60 = .ok (.getfield 90, 3) := by decide +kernel
theorem dX6_tell_63 : decode cX6_tell 63 = .ok (.aload_n 0, 1) := by decide +kernel
theorem dX6_tell_64 : decode cX6_tell 64 = .ok (.getfield 217, 3) := by decide +kernel
theorem dX6_tell_67 : decode cX6_tell 67 = .ok (.iload_n 3, 1) := by decide +kernel
theorem dX6_tell_68 : decode cX6_tell 68 = .ok (.iastore, 1) := by decide +kernel
theorem dX6_tell_69 : decode cX6_tell 69 = .ok (.aload_n 0, 1) := by decide +kernel
theorem dX6_tell_70 : decode cX6_tell 70 = .ok (.getfield 93, 3) := by decide +kernel
theorem dX6_tell_73 : decode cX6_tell 73 = .ok (.aload_n 0, 1) := by decide +kernel
theorem dX6_tell_74 : decode cX6_tell 74 = .ok (.getfield 217, 3) := by decide +kernel
theorem dX6_tell_77 : decode cX6_tell 77 = .ok (.iload 4, 2) := by decide +kernel
theorem dX6_tell_79 : decode cX6_tell 79 = .ok (.iastore, 1) := by decide +kernel
theorem dX6_tell_80 : decode cX6_tell 80 = .ok (.aload_n 0, 1) := by decide +kernel
theorem dX6_tell_81 : decode cX6_tell 81 = .ok (.getfield 96, 3) := by decide +kernel
theorem dX6_tell_84 : decode cX6_tell 84 = .ok (.aload_n 0, 1) := by decide +kernel
theorem dX6_tell_85 : decode cX6_tell 85 = .ok (.getfield 217, 3) := by decide +kernel
theorem dX6_tell_88 : decode cX6_tell 88 = .ok (.iload 5, 2) := by decide +kernel
theorem dX6_tell_90 : decode cX6_tell 90 = .ok (.iastore, 1) := by decide +kernel
theorem dX6_tell_91 : decode cX6_tell 91 = .ok (.aload_n 0, 1) := by decide +kernel
theorem dX6_tell_92 : decode cX6_tell 92 = .ok (.getfield 99, 3) := by decide +kernel
theorem dX6_tell_95 : decode cX6_tell 95 = .ok (.aload_n 0, 1) := by decide +kernel
theorem dX6_tell_96 : decode cX6_tell 96 = .ok (.getfield 217, 3) := by decide +kernel
theorem dX6_tell_99 : decode cX6_tell 99 = .ok (.aload_n 0, 1) := by decide +kernel
theorem dX6_tell_100 : decode cX6_tell 100 = .ok (.getfield 194, 3) := by decide +kernel
theorem dX6_tell_103 : decode cX6_tell 103 = .ok (.iastore, 1) := by decide +kernel
theorem dX6_tell_104 : decode cX6_tell 104 = .ok (.aload_n 0, 1) := by decide +kernel
theorem dX6_tell_105 : decode cX6_tell 105 = .ok (.dup, 1) := by decide +kernel
theorem dX6_tell_106 : decode cX6_tell 106 = .ok (.getfield 217, 3) := by decide +kernel
theorem dX6_tell_109 : decode cX6_tell 109 = .ok (.iconst 1, 1) := by decide +kernel
theorem dX6_tell_110 : decode cX6_tell 110 = .ok (.iadd, 1) := by decide +kernel
theorem dX6_tell_111 : decode cX6_tell 111 = .ok (.putfield 217, 3) := by decide +kernel
theorem dX6_tell_114 : decode cX6_tell 114 = .ok (.aload_n 0, 1) := by decide +kernel
theorem dX6_tell_115 : decode cX6_tell 115 = .ok (.getfield 75, 3) := by decide +kernel
theorem dX6_tell_118 : decode cX6_tell 118 = .ok (.iload_n 1, 1) := by decide +kernel
theorem dX6_tell_119 : decode cX6_tell 119 = .ok (.dup2, 1) := by decide +kernel
theorem dX6_tell_120 : decode cX6_tell 120 = .ok (.iaload, 1) := by decide +kernel
theorem dX6_tell_121 : decode cX6_tell 121 = .ok (.iconst 1, 1) := by decide +kernel
theorem dX6_tell_122 : decode cX6_tell 122 = .ok (.iadd, 1) := by decide +kernel
theorem dX6_tell_123 : decode cX6_tell 123 = .ok (.iastore, 1) := by decide +kernel
theorem dX6_tell_124 : decode cX6_tell 124 = .ok (.aload_n 0, 1) := by decide +kernel
theorem dX6_tell_125 : decode cX6_tell 125 = .ok (.getfield 217, 3) := by decide +kernel
theorem dX6_tell_128 : decode cX6_tell 128 = .ok (.ireturn, 1) := by decide +kernel
theorem dX6_fails_0 : decode cX6_fails 0 = .ok (.aload_n 0, 1) := by decide +kernel
theorem dX6_fails_1 : decode cX6_fails 1 = .ok (.iload_n 1, 1) := by decide +kernel
theorem dX6_fails_2 : decode cX6_fails 2 = .ok (.putfield 126, 3) := by decide +kernel
theorem dX6_fails_5 : decode cX6_fails 5 = .ok (.iconst 0, 1) := by decide +kernel
theorem dX6_fails_6 : decode cX6_fails 6 = .ok (.ireturn, 1) := by decide +kernel
theorem dX6_look_0 : decode cX6_look 0 = .ok (.aload_n 0, 1) := by decide +kernel
theorem dX6_look_1 : decode cX6_look 1 = .ok (.iconst 0, 1) := by decide +kernel
theorem dX6_look_2 : decode cX6_look 2 = .ok (.putfield 126, 3) := by decide +kernel
theorem dX6_look_5 : decode cX6_look 5 = .ok (.aload_n 0, 1) := by decide +kernel
theorem dX6_look_6 : decode cX6_look 6 = .ok (.iload_n 1, 1) := by decide +kernel
theorem dX6_look_7 : decode cX6_look 7 = .ok (.invokevirtual 203, 3) := by decide +kernel
theorem dX6_look_10 : decode cX6_look 10 = .ok (.ifCond .ne 9, 3) := by decide +kernel
theorem dX6_look_13 : decode cX6_look 13 = .ok (.aload_n 0, 1) := by decide +kernel
theorem dX6_look_14 : decode cX6_look 14 = .ok (.iconst 1, 1) := by decide +kernel
theorem dX6_look_15 : decode cX6_look 15 = .ok (.invokevirtual 220, 3) := by decide +kernel
theorem dX6_look_18 : decode cX6_look 18 = .ok (.ireturn, 1) := by decide +kernel
theorem dX6_look_19 : decode cX6_look 19 = .ok (.iload_n 2, 1) := by decide +kernel
theorem dX6_look_20 : decode cX6_look 20 = .ok (.tableswitch 93 0 6 #[44, 51, 58, 65, 72, 79, 86], 44) := by decide +kernel
theorem dX6_look_64 : decode cX6_look 64 = .ok (.aload_n 0, 1) := by decide +kernel
theorem dX6_look_65 : decode cX6_look 65 = .ok (.getfield 45, 3) := by decide +kernel
theorem dX6_look_68 : decode cX6_look 68 = .ok (.iload_n 1, 1) := by decide +kernel
theorem dX6_look_69 : decode cX6_look 69 = .ok (.iaload, 1) := by decide +kernel
theorem dX6_look_70 : decode cX6_look 70 = .ok (.ireturn, 1) := by decide +kernel
theorem dX6_look_71 : decode cX6_look 71 = .ok (.aload_n 0, 1) := by decide +kernel
theorem dX6_look_72 : decode cX6_look 72 = .ok (.getfield 48, 3) := by decide +kernel
theorem dX6_look_75 : decode cX6_look 75 = .ok (.iload_n 1, 1) := by decide +kernel
theorem dX6_look_76 : decode cX6_look 76 = .ok (.iaload, 1) := by decide +kernel
theorem dX6_look_77 : decode cX6_look 77 = .ok (.ireturn, 1) := by decide +kernel
theorem dX6_look_78 : decode cX6_look 78 = .ok (.aload_n 0, 1) := by decide +kernel
theorem dX6_look_79 : decode cX6_look 79 = .ok (.getfield 51, 3) := by decide +kernel
theorem dX6_look_82 : decode cX6_look 82 = .ok (.iload_n 1, 1) := by decide +kernel
theorem dX6_look_83 : decode cX6_look 83 = .ok (.iaload, 1) := by decide +kernel
theorem dX6_look_84 : decode cX6_look 84 = .ok (.ireturn, 1) := by decide +kernel
theorem dX6_look_85 : decode cX6_look 85 = .ok (.aload_n 0, 1) := by decide +kernel
theorem dX6_look_86 : decode cX6_look 86 = .ok (.getfield 54, 3) := by decide +kernel
theorem dX6_look_89 : decode cX6_look 89 = .ok (.iload_n 1, 1) := by decide +kernel
theorem dX6_look_90 : decode cX6_look 90 = .ok (.iaload, 1) := by decide +kernel
theorem dX6_look_91 : decode cX6_look 91 = .ok (.ireturn, 1) := by decide +kernel
theorem dX6_look_92 : decode cX6_look 92 = .ok (.aload_n 0, 1) := by decide +kernel
theorem dX6_look_93 : decode cX6_look 93 = .ok (.getfield 69, 3) := by decide +kernel
theorem dX6_look_96 : decode cX6_look 96 = .ok (.iload_n 1, 1) := by decide +kernel
theorem dX6_look_97 : decode cX6_look 97 = .ok (.iaload, 1) := by decide +kernel
theorem dX6_look_98 : decode cX6_look 98 = .ok (.ireturn, 1) := by decide +kernel
theorem dX6_look_99 : decode cX6_look 99 = .ok (.aload_n 0, 1) := by decide +kernel
theorem dX6_look_100 : decode cX6_look 100 = .ok (.getfield 72, 3) := by decide +kernel
theorem dX6_look_103 : decode cX6_look 103 = .ok (.iload_n 1, 1) := by decide +kernel
theorem dX6_look_104 : decode cX6_look 104 = .ok (.iaload, 1) := by decide +kernel
theorem dX6_look_105 : decode cX6_look 105 = .ok (.ireturn, 1) := by decide +kernel
theorem dX6_look_106 : decode cX6_look 106 = .ok (.aload_n 0, 1) := by decide +kernel
theorem dX6_look_107 : decode cX6_look 107 = .ok (.getfield 75, 3) := by decide +kernel
theorem dX6_look_110 : decode cX6_look 110 = .ok (.iload_n 1, 1) := by decide +kernel
theorem dX6_look_111 : decode cX6_look 111 = .ok (.iaload, 1) := by decide +kernel
theorem dX6_look_112 : decode cX6_look 112 = .ok (.ireturn, 1) := by decide +kernel
theorem dX6_look_113 : decode cX6_look 113 = .ok (.aload_n 0, 1) := by decide +kernel
theorem dX6_look_114 : decode cX6_look 114 = .ok (.iconst 2, 1) := by decide +kernel
theorem dX6_look_115 : decode cX6_look 115 = .ok (.invokevirtual 220, 3) := by decide +kernel
theorem dX6_look_118 : decode cX6_look 118 = .ok (.ireturn, 1) := by decide +kernel
theorem dX6_entry_0 : decode cX6_entry 0 = .ok (.aload_n 0, 1) := by decide +kernel
theorem dX6_entry_1 : decode cX6_entry 1 = .ok (.iconst 0, 1) := by decide +kernel
theorem dX6_entry_2 : decode cX6_entry 2 = .ok (.putfield 126, 3) := by decide +kernel
theorem dX6_entry_5 : decode cX6_entry 5 = .ok (.aload_n 0, 1) := by decide +kernel
theorem dX6_entry_6 : decode cX6_entry 6 = .ok (.iload_n 1, 1) := by decide +kernel
theorem dX6_entry_7 : decode cX6_entry 7 = .ok (.invokevirtual 203, 3) := by decide +kernel
theorem dX6_entry_10 : decode cX6_entry 10 = .ok (.ifCond .eq 17, 3) := by decide +kernel
theorem dX6_entry_13 : decode cX6_entry 13 = .ok (.iload_n 2, 1) := by decide +kernel
theorem dX6_entry_14 : decode cX6_entry 14 = .ok (.ifCond .lt 13, 3) := by decide +kernel
theorem dX6_entry_17 : decode cX6_entry 17 = .ok (.iload_n 2, 1) := by decide +kernel
theorem dX6_entry_18 : decode cX6_entry 18 = .ok (.aload_n 0, 1) := by decide +kernel
theorem dX6_entry_19 : decode cX6_entry 19 = .ok (.getfield 72, 3) := by decide +kernel
theorem dX6_entry_22 : decode cX6_entry 22 = .ok (.iload_n 1, 1) := by decide +kernel
theorem dX6_entry_23 : decode cX6_entry 23 = .ok (.iaload, 1) := by decide +kernel
theorem dX6_entry_24 : decode cX6_entry 24 = .ok (.if_icmp .lt 7, 3) := by decide +kernel
theorem dX6_entry_27 : decode cX6_entry 27 = .ok (.iconst (-1), 1) := by decide +kernel
theorem dX6_entry_28 : decode cX6_entry 28 = .ok (.goto 14, 3) := by decide +kernel
theorem dX6_entry_31 : decode cX6_entry 31 = .ok (.aload_n 0, 1) := by decide +kernel
theorem dX6_entry_32 : decode cX6_entry 32 = .ok (.getfield 78, 3) := by decide +kernel
theorem dX6_entry_35 : decode cX6_entry 35 = .ok (.bipush 16, 2) := by decide +kernel
theorem dX6_entry_37 : decode cX6_entry 37 = .ok (.iload_n 1, 1) := by decide +kernel
theorem dX6_entry_38 : decode cX6_entry 38 = .ok (.imul, 1) := by decide +kernel
theorem dX6_entry_39 : decode cX6_entry 39 = .ok (.iload_n 2, 1) := by decide +kernel
theorem dX6_entry_40 : decode cX6_entry 40 = .ok (.iadd, 1) := by decide +kernel
theorem dX6_entry_41 : decode cX6_entry 41 = .ok (.iaload, 1) := by decide +kernel
theorem dX6_entry_42 : decode cX6_entry 42 = .ok (.ireturn, 1) := by decide +kernel
theorem dX6_known_0 : decode cX6_known 0 = .ok (.aload_n 0, 1) := by decide +kernel
theorem dX6_known_1 : decode cX6_known 1 = .ok (.getfield 217, 3) := by decide +kernel
theorem dX6_known_4 : decode cX6_known 4 = .ok (.iconst 1, 1) := by decide +kernel
theorem dX6_known_5 : decode cX6_known 5 = .ok (.isub, 1) := by decide +kernel
theorem dX6_known_6 : decode cX6_known 6 = .ok (.istore 6, 2) := by decide +kernel
theorem dX6_known_8 : decode cX6_known 8 = .ok (.iload 6, 2) := by decide +kernel
theorem dX6_known_10 : decode cX6_known 10 = .ok (.ifCond .lt 74, 3) := by decide +kernel
theorem dX6_known_13 : decode cX6_known 13 = .ok (.aload_n 0, 1) := by decide +kernel
theorem dX6_known_14 : decode cX6_known 14 = .ok (.getfield 99, 3) := by decide +kernel
theorem dX6_known_17 : decode cX6_known 17 = .ok (.iload 6, 2) := by decide +kernel
theorem dX6_known_19 : decode cX6_known 19 = .ok (.iaload, 1) := by decide +kernel
theorem dX6_known_20 : decode cX6_known 20 = .ok (.iload 5, 2) := by decide +kernel
theorem dX6_known_22 : decode cX6_known 22 = .ok (.if_icmp .gt 56, 3) := by decide +kernel
theorem dX6_known_25 : decode cX6_known 25 = .ok (.aload_n 0, 1) := by decide +kernel
theorem dX6_known_26 : decode cX6_known 26 = .ok (.getfield 84, 3) := by decide +kernel
theorem dX6_known_29 : decode cX6_known 29 = .ok (.iload 6, 2) := by decide +kernel
theorem dX6_known_31 : decode cX6_known 31 = .ok (.iaload, 1) := by decide +kernel
theorem dX6_known_32 : decode cX6_known 32 = .ok (.iload_n 1, 1) := by decide +kernel
theorem dX6_known_33 : decode cX6_known 33 = .ok (.if_icmp .ne 45, 3) := by decide +kernel
theorem dX6_known_36 : decode cX6_known 36 = .ok (.aload_n 0, 1) := by decide +kernel
theorem dX6_known_37 : decode cX6_known 37 = .ok (.getfield 87, 3) := by decide +kernel
theorem dX6_known_40 : decode cX6_known 40 = .ok (.iload 6, 2) := by decide +kernel
theorem dX6_known_42 : decode cX6_known 42 = .ok (.iaload, 1) := by decide +kernel
theorem dX6_known_43 : decode cX6_known 43 = .ok (.iload_n 2, 1) := by decide +kernel
theorem dX6_known_44 : decode cX6_known 44 = .ok (.if_icmp .ne 34, 3) := by decide +kernel
theorem dX6_known_47 : decode cX6_known 47 = .ok (.aload_n 0, 1) := by decide +kernel
theorem dX6_known_48 : decode cX6_known 48 = .ok (.getfield 90, 3) := by decide +kernel
theorem dX6_known_51 : decode cX6_known 51 = .ok (.iload 6, 2) := by decide +kernel
theorem dX6_known_53 : decode cX6_known 53 = .ok (.iaload, 1) := by decide +kernel
theorem dX6_known_54 : decode cX6_known 54 = .ok (.iload_n 3, 1) := by decide +kernel
theorem dX6_known_55 : decode cX6_known 55 = .ok (.if_icmp .ne 23, 3) := by decide +kernel
theorem dX6_known_58 : decode cX6_known 58 = .ok (.aload_n 0, 1) := by decide +kernel
theorem dX6_known_59 : decode cX6_known 59 = .ok (.getfield 93, 3) := by decide +kernel
theorem dX6_known_62 : decode cX6_known 62 = .ok (.iload 6, 2) := by decide +kernel
theorem dX6_known_64 : decode cX6_known 64 = .ok (.iaload, 1) := by decide +kernel
theorem dX6_known_65 : decode cX6_known 65 = .ok (.iload 4, 2) := by decide +kernel
theorem dX6_known_67 : decode cX6_known 67 = .ok (.if_icmp .ne 11, 3) := by decide +kernel
theorem dX6_known_70 : decode cX6_known 70 = .ok (.aload_n 0, 1) := by decide +kernel
theorem dX6_known_71 : decode cX6_known 71 = .ok (.getfield 96, 3) := by decide +kernel
theorem dX6_known_74 : decode cX6_known 74 = .ok (.iload 6, 2) := by decide +kernel
theorem dX6_known_76 : decode cX6_known 76 = .ok (.iaload, 1) := by decide +kernel
theorem dX6_known_77 : decode cX6_known 77 = .ok (.ireturn, 1) := by decide +kernel
theorem dX6_known_78 : decode cX6_known 78 = .ok (.iinc 6 (-1), 3) := by decide +kernel
theorem dX6_known_81 : decode cX6_known 81 = .ok (.goto (-73), 3) := by decide +kernel
theorem dX6_known_84 : decode cX6_known 84 = .ok (.iconst (-1), 1) := by decide +kernel
theorem dX6_known_85 : decode cX6_known 85 = .ok (.ireturn, 1) := by decide +kernel
theorem dX6_hits_0 : decode cX6_hits 0 = .ok (.iconst 0, 1) := by decide +kernel
theorem dX6_hits_1 : decode cX6_hits 1 = .ok (.istore_n 1, 1) := by decide +kernel
theorem dX6_hits_2 : decode cX6_hits 2 = .ok (.iconst 0, 1) := by decide +kernel
theorem dX6_hits_3 : decode cX6_hits 3 = .ok (.istore_n 2, 1) := by decide +kernel
theorem dX6_hits_4 : decode cX6_hits 4 = .ok (.iload_n 2, 1) := by decide +kernel
theorem dX6_hits_5 : decode cX6_hits 5 = .ok (.iconst 5, 1) := by decide +kernel
theorem dX6_hits_6 : decode cX6_hits 6 = .ok (.if_icmp .ge 17, 3) := by decide +kernel
theorem dX6_hits_9 : decode cX6_hits 9 = .ok (.iload_n 1, 1) := by decide +kernel
theorem dX6_hits_10 : decode cX6_hits 10 = .ok (.iload_n 0, 1) := by decide +kernel
theorem dX6_hits_11 : decode cX6_hits 11 = .ok (.iload_n 2, 1) := by decide +kernel
theorem dX6_hits_12 : decode cX6_hits 12 = .ok (.ishr, 1) := by decide +kernel
theorem dX6_hits_13 : decode cX6_hits 13 = .ok (.iconst 1, 1) := by decide +kernel
theorem dX6_hits_14 : decode cX6_hits 14 = .ok (.iand, 1) := by decide +kernel
theorem dX6_hits_15 : decode cX6_hits 15 = .ok (.iadd, 1) := by decide +kernel
theorem dX6_hits_16 : decode cX6_hits 16 = .ok (.istore_n 1, 1) := by decide +kernel
theorem dX6_hits_17 : decode cX6_hits 17 = .ok (.iinc 2 1, 3) := by decide +kernel
theorem dX6_hits_20 : decode cX6_hits 20 = .ok (.goto (-16), 3) := by decide +kernel
theorem dX6_hits_23 : decode cX6_hits 23 = .ok (.iload_n 1, 1) := by decide +kernel
theorem dX6_hits_24 : decode cX6_hits 24 = .ok (.ireturn, 1) := by decide +kernel
theorem dX6_least_0 : decode cX6_least 0 = .ok (.iconst (-1), 1) := by decide +kernel
theorem dX6_least_1 : decode cX6_least 1 = .ok (.istore_n 2, 1) := by decide +kernel
theorem dX6_least_2 : decode cX6_least 2 = .ok (.iconst 0, 1) := by decide +kernel
theorem dX6_least_3 : decode cX6_least 3 = .ok (.istore_n 3, 1) := by decide +kernel
theorem dX6_least_4 : decode cX6_least 4 = .ok (.iload_n 3, 1) := by decide +kernel
theorem dX6_least_5 : decode cX6_least 5 = .ok (.aload_n 0, 1) := by decide +kernel
theorem dX6_least_6 : decode cX6_least 6 = .ok (.getfield 197, 3) := by decide +kernel
theorem dX6_least_9 : decode cX6_least 9 = .ok (.if_icmp .ge 68, 3) := by decide +kernel
theorem dX6_least_12 : decode cX6_least 12 = .ok (.aload_n 0, 1) := by decide +kernel
theorem dX6_least_13 : decode cX6_least 13 = .ok (.getfield 81, 3) := by decide +kernel
theorem dX6_least_16 : decode cX6_least 16 = .ok (.bipush 16, 2) := by decide +kernel
theorem dX6_least_18 : decode cX6_least 18 = .ok (.iload_n 1, 1) := by decide +kernel
theorem dX6_least_19 : decode cX6_least 19 = .ok (.imul, 1) := by decide +kernel
theorem dX6_least_20 : decode cX6_least 20 = .ok (.iload_n 3, 1) := by decide +kernel
theorem dX6_least_21 : decode cX6_least 21 = .ok (.iadd, 1) := by decide +kernel
theorem dX6_least_22 : decode cX6_least 22 = .ok (.iaload, 1) := by decide +kernel
theorem dX6_least_23 : decode cX6_least 23 = .ok (.ifCond .lt 48, 3) := by decide +kernel
theorem dX6_least_26 : decode cX6_least 26 = .ok (.aload_n 0, 1) := by decide +kernel
theorem dX6_least_27 : decode cX6_least 27 = .ok (.getfield 108, 3) := by decide +kernel
theorem dX6_least_30 : decode cX6_least 30 = .ok (.bipush 16, 2) := by decide +kernel
theorem dX6_least_32 : decode cX6_least 32 = .ok (.iload_n 1, 1) := by decide +kernel
theorem dX6_least_33 : decode cX6_least 33 = .ok (.imul, 1) := by decide +kernel
theorem dX6_least_34 : decode cX6_least 34 = .ok (.iload_n 3, 1) := by decide +kernel
theorem dX6_least_35 : decode cX6_least 35 = .ok (.iadd, 1) := by decide +kernel
theorem dX6_least_36 : decode cX6_least 36 = .ok (.iaload, 1) := by decide +kernel
theorem dX6_least_37 : decode cX6_least 37 = .ok (.ifCond .lt 34, 3) := by decide +kernel
theorem dX6_least_40 : decode cX6_least 40 = .ok (.iload_n 2, 1) := by decide +kernel
theorem dX6_least_41 : decode cX6_least 41 = .ok (.ifCond .lt 18, 3) := by decide +kernel
theorem dX6_least_44 : decode cX6_least 44 = .ok (.aload_n 0, 1) := by decide +kernel
theorem dX6_least_45 : decode cX6_least 45 = .ok (.getfield 108, 3) := by decide +kernel
theorem dX6_least_48 : decode cX6_least 48 = .ok (.bipush 16, 2) := by decide +kernel
theorem dX6_least_50 : decode cX6_least 50 = .ok (.iload_n 1, 1) := by decide +kernel
theorem dX6_least_51 : decode cX6_least 51 = .ok (.imul, 1) := by decide +kernel
theorem dX6_least_52 : decode cX6_least 52 = .ok (.iload_n 3, 1) := by decide +kernel
theorem dX6_least_53 : decode cX6_least 53 = .ok (.iadd, 1) := by decide +kernel
theorem dX6_least_54 : decode cX6_least 54 = .ok (.iaload, 1) := by decide +kernel
theorem dX6_least_55 : decode cX6_least 55 = .ok (.iload_n 2, 1) := by decide +kernel
theorem dX6_least_56 : decode cX6_least 56 = .ok (.if_icmp .ge 15, 3) := by decide +kernel
theorem dX6_least_59 : decode cX6_least 59 = .ok (.aload_n 0, 1) := by decide +kernel
theorem dX6_least_60 : decode cX6_least 60 = .ok (.getfield 108, 3) := by decide +kernel
theorem dX6_least_63 : decode cX6_least 63 = .ok (.bipush 16, 2) := by decide +kernel
theorem dX6_least_65 : decode cX6_least 65 = .ok (.iload_n 1, 1) := by decide +kernel
theorem dX6_least_66 : decode cX6_least 66 = .ok (.imul, 1) := by decide +kernel
theorem dX6_least_67 : decode cX6_least 67 = .ok (.iload_n 3, 1) := by decide +kernel
theorem dX6_least_68 : decode cX6_least 68 = .ok (.iadd, 1) := by decide +kernel
theorem dX6_least_69 : decode cX6_least 69 = .ok (.iaload, 1) := by decide +kernel
theorem dX6_least_70 : decode cX6_least 70 = .ok (.istore_n 2, 1) := by decide +kernel
theorem dX6_least_71 : decode cX6_least 71 = .ok (.iinc 3 1, 3) := by decide +kernel
theorem dX6_least_74 : decode cX6_least 74 = .ok (.goto (-70), 3) := by decide +kernel
theorem dX6_least_77 : decode cX6_least 77 = .ok (.iload_n 2, 1) := by decide +kernel
theorem dX6_least_78 : decode cX6_least 78 = .ok (.ireturn, 1) := by decide +kernel
theorem dX6_startOf_0 : decode cX6_startOf 0 = .ok (.aload_n 0, 1) := by decide +kernel
theorem dX6_startOf_1 : decode cX6_startOf 1 = .ok (.getfield 63, 3) := by decide +kernel
theorem dX6_startOf_4 : decode cX6_startOf 4 = .ok (.iload_n 1, 1) := by decide +kernel
theorem dX6_startOf_5 : decode cX6_startOf 5 = .ok (.iaload, 1) := by decide +kernel
theorem dX6_startOf_6 : decode cX6_startOf 6 = .ok (.bipush 9, 2) := by decide +kernel
theorem dX6_startOf_8 : decode cX6_startOf 8 = .ok (.if_icmp .ne 5, 3) := by decide +kernel
theorem dX6_startOf_11 : decode cX6_startOf 11 = .ok (.iconst 0, 1) := by decide +kernel
theorem dX6_startOf_12 : decode cX6_startOf 12 = .ok (.ireturn, 1) := by decide +kernel
theorem dX6_startOf_13 : decode cX6_startOf 13 = .ok (.aload_n 0, 1) := by decide +kernel
theorem dX6_startOf_14 : decode cX6_startOf 14 = .ok (.getfield 63, 3) := by decide +kernel
theorem dX6_startOf_17 : decode cX6_startOf 17 = .ok (.iload_n 1, 1) := by decide +kernel
theorem dX6_startOf_18 : decode cX6_startOf 18 = .ok (.iaload, 1) := by decide +kernel
theorem dX6_startOf_19 : decode cX6_startOf 19 = .ok (.bipush 10, 2) := by decide +kernel
theorem dX6_startOf_21 : decode cX6_startOf 21 = .ok (.if_icmp .ne 25, 3) := by decide +kernel
theorem dX6_startOf_24 : decode cX6_startOf 24 = .ok (.bipush 10, 2) := by decide +kernel
theorem dX6_startOf_26 : decode cX6_startOf 26 = .ok (.aload_n 0, 1) := by decide +kernel
theorem dX6_startOf_27 : decode cX6_startOf 27 = .ok (.getfield 66, 3) := by decide +kernel
theorem dX6_startOf_30 : decode cX6_startOf 30 = .ok (.iload_n 1, 1) := by decide +kernel
theorem dX6_startOf_31 : decode cX6_startOf 31 = .ok (.iaload, 1) := by decide +kernel
theorem dX6_startOf_32 : decode cX6_startOf 32 = .ok (.imul, 1) := by decide +kernel
theorem dX6_startOf_33 : decode cX6_startOf 33 = .ok (.aload_n 0, 1) := by decide +kernel
theorem dX6_startOf_34 : decode cX6_startOf 34 = .ok (.getfield 81, 3) := by decide +kernel
theorem dX6_startOf_37 : decode cX6_startOf 37 = .ok (.bipush 16, 2) := by decide +kernel
theorem dX6_startOf_39 : decode cX6_startOf 39 = .ok (.iload_n 1, 1) := by decide +kernel
theorem dX6_startOf_40 : decode cX6_startOf 40 = .ok (.imul, 1) := by decide +kernel
theorem dX6_startOf_41 : decode cX6_startOf 41 = .ok (.iload_n 2, 1) := by decide +kernel
theorem dX6_startOf_42 : decode cX6_startOf 42 = .ok (.iadd, 1) := by decide +kernel
theorem dX6_startOf_43 : decode cX6_startOf 43 = .ok (.iaload, 1) := by decide +kernel
theorem dX6_startOf_44 : decode cX6_startOf 44 = .ok (.imul, 1) := by decide +kernel
theorem dX6_startOf_45 : decode cX6_startOf 45 = .ok (.ireturn, 1) := by decide +kernel
theorem dX6_startOf_46 : decode cX6_startOf 46 = .ok (.bipush 16, 2) := by decide +kernel
theorem dX6_startOf_48 : decode cX6_startOf 48 = .ok (.aload_n 0, 1) := by decide +kernel
theorem dX6_startOf_49 : decode cX6_startOf 49 = .ok (.getfield 69, 3) := by decide +kernel
theorem dX6_startOf_52 : decode cX6_startOf 52 = .ok (.iload_n 1, 1) := by decide +kernel
theorem dX6_startOf_53 : decode cX6_startOf 53 = .ok (.iaload, 1) := by decide +kernel
theorem dX6_startOf_54 : decode cX6_startOf 54 = .ok (.imul, 1) := by decide +kernel
theorem dX6_startOf_55 : decode cX6_startOf 55 = .ok (.iload_n 2, 1) := by decide +kernel
theorem dX6_startOf_56 : decode cX6_startOf 56 = .ok (.iadd, 1) := by decide +kernel
theorem dX6_startOf_57 : decode cX6_startOf 57 = .ok (.istore_n 3, 1) := by decide +kernel
theorem dX6_startOf_58 : decode cX6_startOf 58 = .ok (.aload_n 0, 1) := by decide +kernel
theorem dX6_startOf_59 : decode cX6_startOf 59 = .ok (.getfield 81, 3) := by decide +kernel
theorem dX6_startOf_62 : decode cX6_startOf 62 = .ok (.iload_n 3, 1) := by decide +kernel
theorem dX6_startOf_63 : decode cX6_startOf 63 = .ok (.iaload, 1) := by decide +kernel
theorem dX6_startOf_64 : decode cX6_startOf 64 = .ok (.ifCond .lt 12, 3) := by decide +kernel
theorem dX6_startOf_67 : decode cX6_startOf 67 = .ok (.aload_n 0, 1) := by decide +kernel
theorem dX6_startOf_68 : decode cX6_startOf 68 = .ok (.getfield 108, 3) := by decide +kernel
theorem dX6_startOf_71 : decode cX6_startOf 71 = .ok (.iload_n 3, 1) := by decide +kernel
theorem dX6_startOf_72 : decode cX6_startOf 72 = .ok (.iaload, 1) := by decide +kernel
theorem dX6_startOf_73 : decode cX6_startOf 73 = .ok (.ifCond .ge 5, 3) := by decide +kernel
theorem dX6_startOf_76 : decode cX6_startOf 76 = .ok (.iconst (-1), 1) := by decide +kernel
theorem dX6_startOf_77 : decode cX6_startOf 77 = .ok (.ireturn, 1) := by decide +kernel
theorem dX6_startOf_78 : decode cX6_startOf 78 = .ok (.aload_n 0, 1) := by decide +kernel
theorem dX6_startOf_79 : decode cX6_startOf 79 = .ok (.getfield 108, 3) := by decide +kernel
theorem dX6_startOf_82 : decode cX6_startOf 82 = .ok (.iload_n 3, 1) := by decide +kernel
theorem dX6_startOf_83 : decode cX6_startOf 83 = .ok (.iaload, 1) := by decide +kernel
theorem dX6_startOf_84 : decode cX6_startOf 84 = .ok (.aload_n 0, 1) := by decide +kernel
theorem dX6_startOf_85 : decode cX6_startOf 85 = .ok (.aload_n 0, 1) := by decide +kernel
theorem dX6_startOf_86 : decode cX6_startOf 86 = .ok (.getfield 69, 3) := by decide +kernel
theorem dX6_startOf_89 : decode cX6_startOf 89 = .ok (.iload_n 1, 1) := by decide +kernel
theorem dX6_startOf_90 : decode cX6_startOf 90 = .ok (.iaload, 1) := by decide +kernel
theorem dX6_startOf_91 : decode cX6_startOf 91 = .ok (.invokevirtual 224, 3) := by decide +kernel
theorem dX6_startOf_94 : decode cX6_startOf 94 = .ok (.isub, 1) := by decide +kernel
theorem dX6_startOf_95 : decode cX6_startOf 95 = .ok (.bipush 10, 2) := by decide +kernel
theorem dX6_startOf_97 : decode cX6_startOf 97 = .ok (.idiv, 1) := by decide +kernel
theorem dX6_startOf_98 : decode cX6_startOf 98 = .ok (.bipush 10, 2) := by decide +kernel
theorem dX6_startOf_100 : decode cX6_startOf 100 = .ok (.imul, 1) := by decide +kernel
theorem dX6_startOf_101 : decode cX6_startOf 101 = .ok (.istore 4, 2) := by decide +kernel
theorem dX6_startOf_103 : decode cX6_startOf 103 = .ok (.iload 4, 2) := by decide +kernel
theorem dX6_startOf_105 : decode cX6_startOf 105 = .ok (.bipush 10, 2) := by decide +kernel
theorem dX6_startOf_107 : decode cX6_startOf 107 = .ok (.aload_n 0, 1) := by decide +kernel
theorem dX6_startOf_108 : decode cX6_startOf 108 = .ok (.getfield 66, 3) := by decide +kernel
theorem dX6_startOf_111 : decode cX6_startOf 111 = .ok (.iload_n 1, 1) := by decide +kernel
theorem dX6_startOf_112 : decode cX6_startOf 112 = .ok (.iaload, 1) := by decide +kernel
theorem dX6_startOf_113 : decode cX6_startOf 113 = .ok (.imul, 1) := by decide +kernel
theorem dX6_startOf_114 : decode cX6_startOf 114 = .ok (.if_icmp .ge 8, 3) := by decide +kernel
theorem dX6_startOf_117 : decode cX6_startOf 117 = .ok (.iload 4, 2) := by decide +kernel
theorem dX6_startOf_119 : decode cX6_startOf 119 = .ok (.goto 12, 3) := by decide +kernel
theorem dX6_startOf_122 : decode cX6_startOf 122 = .ok (.bipush 10, 2) := by decide +kernel
theorem dX6_startOf_124 : decode cX6_startOf 124 = .ok (.aload_n 0, 1) := by decide +kernel
theorem dX6_startOf_125 : decode cX6_startOf 125 = .ok (.getfield 66, 3) := by decide +kernel
theorem dX6_startOf_128 : decode cX6_startOf 128 = .ok (.iload_n 1, 1) := by decide +kernel
theorem dX6_startOf_129 : decode cX6_startOf 129 = .ok (.iaload, 1) := by decide +kernel
theorem dX6_startOf_130 : decode cX6_startOf 130 = .ok (.imul, 1) := by decide +kernel
theorem dX6_startOf_131 : decode cX6_startOf 131 = .ok (.ireturn, 1) := by decide +kernel
theorem dX6_work_0 : decode cX6_work 0 = .ok (.bipush 16, 2) := by decide +kernel
theorem dX6_work_2 : decode cX6_work 2 = .ok (.iload_n 1, 1) := by decide +kernel
theorem dX6_work_3 : decode cX6_work 3 = .ok (.imul, 1) := by decide +kernel
theorem dX6_work_4 : decode cX6_work 4 = .ok (.iload_n 2, 1) := by decide +kernel
theorem dX6_work_5 : decode cX6_work 5 = .ok (.iadd, 1) := by decide +kernel
theorem dX6_work_6 : decode cX6_work 6 = .ok (.istore 4, 2) := by decide +kernel
theorem dX6_work_8 : decode cX6_work 8 = .ok (.aload_n 0, 1) := by decide +kernel
theorem dX6_work_9 : decode cX6_work 9 = .ok (.getfield 105, 3) := by decide +kernel
theorem dX6_work_12 : decode cX6_work 12 = .ok (.iload 4, 2) := by decide +kernel
theorem dX6_work_14 : decode cX6_work 14 = .ok (.aload_n 0, 1) := by decide +kernel
theorem dX6_work_15 : decode cX6_work 15 = .ok (.iload_n 1, 1) := by decide +kernel
theorem dX6_work_16 : decode cX6_work 16 = .ok (.iload_n 2, 1) := by decide +kernel
theorem dX6_work_17 : decode cX6_work 17 = .ok (.invokevirtual 227, 3) := by decide +kernel
theorem dX6_work_20 : decode cX6_work 20 = .ok (.iastore, 1) := by decide +kernel
theorem dX6_work_21 : decode cX6_work 21 = .ok (.aload_n 0, 1) := by decide +kernel
theorem dX6_work_22 : decode cX6_work 22 = .ok (.getfield 114, 3) := by decide +kernel
theorem dX6_work_25 : decode cX6_work 25 = .ok (.iload 4, 2) := by decide +kernel
theorem dX6_work_27 : decode cX6_work 27 = .ok (.iconst 0, 1) := by decide +kernel
theorem dX6_work_28 : decode cX6_work 28 = .ok (.iastore, 1) := by decide +kernel
theorem dX6_work_29 : decode cX6_work 29 = .ok (.aload_n 0, 1) := by decide +kernel
theorem dX6_work_30 : decode cX6_work 30 = .ok (.getfield 117, 3) := by decide +kernel
theorem dX6_work_33 : decode cX6_work 33 = .ok (.iload 4, 2) := by decide +kernel
theorem dX6_work_35 : decode cX6_work 35 = .ok (.iconst 0, 1) := by decide +kernel
theorem dX6_work_36 : decode cX6_work 36 = .ok (.iastore, 1) := by decide +kernel
theorem dX6_work_37 : decode cX6_work 37 = .ok (.iconst 0, 1) := by decide +kernel
theorem dX6_work_38 : decode cX6_work 38 = .ok (.istore 5, 2) := by decide +kernel
theorem dX6_work_40 : decode cX6_work 40 = .ok (.iconst 0, 1) := by decide +kernel
theorem dX6_work_41 : decode cX6_work 41 = .ok (.istore 6, 2) := by decide +kernel
theorem dX6_work_43 : decode cX6_work 43 = .ok (.iconst 0, 1) := by decide +kernel
theorem dX6_work_44 : decode cX6_work 44 = .ok (.istore 7, 2) := by decide +kernel
theorem dX6_work_46 : decode cX6_work 46 = .ok (.iload 7, 2) := by decide +kernel
theorem dX6_work_48 : decode cX6_work 48 = .ok (.aload_n 0, 1) := by decide +kernel
theorem dX6_work_49 : decode cX6_work 49 = .ok (.getfield 51, 3) := by decide +kernel
theorem dX6_work_52 : decode cX6_work 52 = .ok (.iload_n 1, 1) := by decide +kernel
theorem dX6_work_53 : decode cX6_work 53 = .ok (.iaload, 1) := by decide +kernel
theorem dX6_work_54 : decode cX6_work 54 = .ok (.if_icmp .ge 182, 3) := by decide +kernel
theorem dX6_work_57 : decode cX6_work 57 = .ok (.aload_n 0, 1) := by decide +kernel
theorem dX6_work_58 : decode cX6_work 58 = .ok (.iload_n 1, 1) := by decide +kernel
theorem dX6_work_59 : decode cX6_work 59 = .ok (.iload_n 2, 1) := by decide +kernel
theorem dX6_work_60 : decode cX6_work 60 = .ok (.iconst 1, 1) := by decide +kernel
theorem dX6_work_61 : decode cX6_work 61 = .ok (.iload 7, 2) := by decide +kernel
theorem dX6_work_63 : decode cX6_work 63 = .ok (.iload_n 3, 1) := by decide +kernel
theorem dX6_work_64 : decode cX6_work 64 = .ok (.invokevirtual 230, 3) := by decide +kernel
theorem dX6_work_67 : decode cX6_work 67 = .ok (.istore 8, 2) := by decide +kernel
theorem dX6_work_69 : decode cX6_work 69 = .ok (.iload 8, 2) := by decide +kernel
theorem dX6_work_71 : decode cX6_work 71 = .ok (.ifCond .ge 7, 3) := by decide +kernel
theorem dX6_work_74 : decode cX6_work 74 = .ok (.iconst 0, 1) := by decide +kernel
theorem dX6_work_75 : decode cX6_work 75 = .ok (.goto 10, 3) := by decide +kernel
theorem dX6_work_78 : decode cX6_work 78 = .ok (.iconst 5, 1) := by decide +kernel
theorem dX6_work_79 : decode cX6_work 79 = .ok (.iload 8, 2) := by decide +kernel
theorem dX6_work_81 : decode cX6_work 81 = .ok (.invokestatic 234, 3) := by decide +kernel
theorem dX6_work_84 : decode cX6_work 84 = .ok (.isub, 1) := by decide +kernel
theorem dX6_work_85 : decode cX6_work 85 = .ok (.istore 9, 2) := by decide +kernel
theorem dX6_work_87 : decode cX6_work 87 = .ok (.iload 8, 2) := by decide +kernel
theorem dX6_work_89 : decode cX6_work 89 = .ok (.ifCond .ge 7, 3) := by decide +kernel
theorem dX6_work_92 : decode cX6_work 92 = .ok (.iconst 5, 1) := by decide +kernel
theorem dX6_work_93 : decode cX6_work 93 = .ok (.goto 5, 3) := by decide +kernel
theorem dX6_work_96 : decode cX6_work 96 = .ok (.iload 9, 2) := by decide +kernel
theorem dX6_work_98 : decode cX6_work 98 = .ok (.istore 10, 2) := by decide +kernel
theorem dX6_work_100 : decode cX6_work 100 = .ok (.aload_n 0, 1) := by decide +kernel
theorem dX6_work_101 : decode cX6_work 101 = .ok (.getfield 114, 3) := by decide +kernel
theorem dX6_work_104 : decode cX6_work 104 = .ok (.iload 4, 2) := by decide +kernel
theorem dX6_work_106 : decode cX6_work 106 = .ok (.dup2, 1) := by decide +kernel
theorem dX6_work_107 : decode cX6_work 107 = .ok (.iaload, 1) := by decide +kernel
theorem dX6_work_108 : decode cX6_work 108 = .ok (.iload 9, 2) := by decide +kernel
theorem dX6_work_110 : decode cX6_work 110 = .ok (.iadd, 1) := by decide +kernel
theorem dX6_work_111 : decode cX6_work 111 = .ok (.iastore, 1) := by decide +kernel
theorem dX6_work_112 : decode cX6_work 112 = .ok (.aload_n 0, 1) := by decide +kernel
theorem dX6_work_113 : decode cX6_work 113 = .ok (.getfield 117, 3) := by decide +kernel
theorem dX6_work_116 : decode cX6_work 116 = .ok (.iload 4, 2) := by decide +kernel
theorem dX6_work_118 : decode cX6_work 118 = .ok (.dup2, 1) := by decide +kernel
theorem dX6_work_119 : decode cX6_work 119 = .ok (.iaload, 1) := by decide +kernel
theorem dX6_work_120 : decode cX6_work 120 = .ok (.iload 10, 2) := by decide +kernel
theorem dX6_work_122 : decode cX6_work 122 = .ok (.iadd, 1) := by decide +kernel
theorem dX6_work_123 : decode cX6_work 123 = .ok (.iastore, 1) := by decide +kernel
theorem dX6_work_124 : decode cX6_work 124 = .ok (.aload_n 0, 1) := by decide +kernel
theorem dX6_work_125 : decode cX6_work 125 = .ok (.getfield 57, 3) := by decide +kernel
theorem dX6_work_128 : decode cX6_work 128 = .ok (.iload_n 1, 1) := by decide +kernel
theorem dX6_work_129 : decode cX6_work 129 = .ok (.baload, 1) := by decide +kernel
theorem dX6_work_130 : decode cX6_work 130 = .ok (.ifCond .eq 48, 3) := by decide +kernel
theorem dX6_work_133 : decode cX6_work 133 = .ok (.aload_n 0, 1) := by decide +kernel
theorem dX6_work_134 : decode cX6_work 134 = .ok (.iload_n 1, 1) := by decide +kernel
theorem dX6_work_135 : decode cX6_work 135 = .ok (.iload_n 2, 1) := by decide +kernel
theorem dX6_work_136 : decode cX6_work 136 = .ok (.iconst 2, 1) := by decide +kernel
theorem dX6_work_137 : decode cX6_work 137 = .ok (.iload 7, 2) := by decide +kernel
theorem dX6_work_139 : decode cX6_work 139 = .ok (.iload_n 3, 1) := by decide +kernel
theorem dX6_work_140 : decode cX6_work 140 = .ok (.invokevirtual 230, 3) := by decide +kernel
theorem dX6_work_143 : decode cX6_work 143 = .ok (.istore 11, 2) := by decide +kernel
theorem dX6_work_145 : decode cX6_work 145 = .ok (.iload 9, 2) := by decide +kernel
theorem dX6_work_147 : decode cX6_work 147 = .ok (.iload 11, 2) := by decide +kernel
theorem dX6_work_149 : decode cX6_work 149 = .ok (.ifCond .ge 8, 3) := by decide +kernel
theorem dX6_work_152 : decode cX6_work 152 = .ok (.bipush 9, 2) := by decide +kernel
theorem dX6_work_154 : decode cX6_work 154 = .ok (.goto 5, 3) := by decide +kernel
theorem dX6_work_157 : decode cX6_work 157 = .ok (.iload 11, 2) := by decide +kernel
theorem dX6_work_159 : decode cX6_work 159 = .ok (.isub, 1) := by decide +kernel
theorem dX6_work_160 : decode cX6_work 160 = .ok (.istore 9, 2) := by decide +kernel
theorem dX6_work_162 : decode cX6_work 162 = .ok (.iload 10, 2) := by decide +kernel
theorem dX6_work_164 : decode cX6_work 164 = .ok (.iload 11, 2) := by decide +kernel
theorem dX6_work_166 : decode cX6_work 166 = .ok (.ifCond .ge 7, 3) := by decide +kernel
theorem dX6_work_169 : decode cX6_work 169 = .ok (.iconst 0, 1) := by decide +kernel
theorem dX6_work_170 : decode cX6_work 170 = .ok (.goto 5, 3) := by decide +kernel
theorem dX6_work_173 : decode cX6_work 173 = .ok (.iload 11, 2) := by decide +kernel
theorem dX6_work_175 : decode cX6_work 175 = .ok (.isub, 1) := by decide +kernel
theorem dX6_work_176 : decode cX6_work 176 = .ok (.istore 10, 2) := by decide +kernel
theorem dX6_work_178 : decode cX6_work 178 = .ok (.iload 5, 2) := by decide +kernel
theorem dX6_work_180 : decode cX6_work 180 = .ok (.iload 9, 2) := by decide +kernel
theorem dX6_work_182 : decode cX6_work 182 = .ok (.ifCond .le 18, 3) := by decide +kernel
theorem dX6_work_185 : decode cX6_work 185 = .ok (.bipush 10, 2) := by decide +kernel
theorem dX6_work_187 : decode cX6_work 187 = .ok (.aload_n 0, 1) := by decide +kernel
theorem dX6_work_188 : decode cX6_work 188 = .ok (.getfield 60, 3) := by decide +kernel
theorem dX6_work_191 : decode cX6_work 191 = .ok (.iload_n 1, 1) := by decide +kernel
theorem dX6_work_192 : decode cX6_work 192 = .ok (.iaload, 1) := by decide +kernel
theorem dX6_work_193 : decode cX6_work 193 = .ok (.imul, 1) := by decide +kernel
theorem dX6_work_194 : decode cX6_work 194 = .ok (.iload 9, 2) := by decide +kernel
theorem dX6_work_196 : decode cX6_work 196 = .ok (.imul, 1) := by decide +kernel
theorem dX6_work_197 : decode cX6_work 197 = .ok (.goto 4, 3) := by decide +kernel
theorem dX6_work_200 : decode cX6_work 200 = .ok (.iconst 0, 1) := by decide +kernel
theorem dX6_work_201 : decode cX6_work 201 = .ok (.iadd, 1) := by decide +kernel
theorem dX6_work_202 : decode cX6_work 202 = .ok (.istore 5, 2) := by decide +kernel
theorem dX6_work_204 : decode cX6_work 204 = .ok (.iload 6, 2) := by decide +kernel
theorem dX6_work_206 : decode cX6_work 206 = .ok (.iload 10, 2) := by decide +kernel
theorem dX6_work_208 : decode cX6_work 208 = .ok (.ifCond .le 18, 3) := by decide +kernel
theorem dX6_work_211 : decode cX6_work 211 = .ok (.bipush 10, 2) := by decide +kernel
theorem dX6_work_213 : decode cX6_work 213 = .ok (.aload_n 0, 1) := by decide +kernel
theorem dX6_work_214 : decode cX6_work 214 = .ok (.getfield 60, 3) := by decide +kernel
theorem dX6_work_217 : decode cX6_work 217 = .ok (.iload_n 1, 1) := by decide +kernel
theorem dX6_work_218 : decode cX6_work 218 = .ok (.iaload, 1) := by decide +kernel
theorem dX6_work_219 : decode cX6_work 219 = .ok (.imul, 1) := by decide +kernel
theorem dX6_work_220 : decode cX6_work 220 = .ok (.iload 10, 2) := by decide +kernel
theorem dX6_work_222 : decode cX6_work 222 = .ok (.imul, 1) := by decide +kernel
theorem dX6_work_223 : decode cX6_work 223 = .ok (.goto 4, 3) := by decide +kernel
theorem dX6_work_226 : decode cX6_work 226 = .ok (.iconst 0, 1) := by decide +kernel
theorem dX6_work_227 : decode cX6_work 227 = .ok (.iadd, 1) := by decide +kernel
theorem dX6_work_228 : decode cX6_work 228 = .ok (.istore 6, 2) := by decide +kernel
theorem dX6_work_230 : decode cX6_work 230 = .ok (.iinc 7 1, 3) := by decide +kernel
theorem dX6_work_233 : decode cX6_work 233 = .ok (.goto (-187), 3) := by decide +kernel
theorem dX6_work_236 : decode cX6_work 236 = .ok (.aload_n 0, 1) := by decide +kernel
theorem dX6_work_237 : decode cX6_work 237 = .ok (.iload_n 1, 1) := by decide +kernel
theorem dX6_work_238 : decode cX6_work 238 = .ok (.iload_n 2, 1) := by decide +kernel
theorem dX6_work_239 : decode cX6_work 239 = .ok (.iconst 0, 1) := by decide +kernel
theorem dX6_work_240 : decode cX6_work 240 = .ok (.aload_n 0, 1) := by decide +kernel
theorem dX6_work_241 : decode cX6_work 241 = .ok (.getfield 48, 3) := by decide +kernel
theorem dX6_work_244 : decode cX6_work 244 = .ok (.iload_n 1, 1) := by decide +kernel
theorem dX6_work_245 : decode cX6_work 245 = .ok (.iaload, 1) := by decide +kernel
theorem dX6_work_246 : decode cX6_work 246 = .ok (.iload_n 3, 1) := by decide +kernel
theorem dX6_work_247 : decode cX6_work 247 = .ok (.invokevirtual 230, 3) := by decide +kernel
theorem dX6_work_250 : decode cX6_work 250 = .ok (.istore 7, 2) := by decide +kernel
theorem dX6_work_252 : decode cX6_work 252 = .ok (.aload_n 0, 1) := by decide +kernel
theorem dX6_work_253 : decode cX6_work 253 = .ok (.iload_n 1, 1) := by decide +kernel
theorem dX6_work_254 : decode cX6_work 254 = .ok (.iload_n 2, 1) := by decide +kernel
theorem dX6_work_255 : decode cX6_work 255 = .ok (.iconst 3, 1) := by decide +kernel
theorem dX6_work_256 : decode cX6_work 256 = .ok (.iconst 0, 1) := by decide +kernel
theorem dX6_work_257 : decode cX6_work 257 = .ok (.iload_n 3, 1) := by decide +kernel
theorem dX6_work_258 : decode cX6_work 258 = .ok (.invokevirtual 230, 3) := by decide +kernel
theorem dX6_work_261 : decode cX6_work 261 = .ok (.iconst 1, 1) := by decide +kernel
theorem dX6_work_262 : decode cX6_work 262 = .ok (.if_icmp .eq 29, 3) := by decide +kernel
theorem dX6_work_265 : decode cX6_work 265 = .ok (.aload_n 0, 1) := by decide +kernel
theorem dX6_work_266 : decode cX6_work 266 = .ok (.getfield 105, 3) := by decide +kernel
theorem dX6_work_269 : decode cX6_work 269 = .ok (.iload 4, 2) := by decide +kernel
theorem dX6_work_271 : decode cX6_work 271 = .ok (.iaload, 1) := by decide +kernel
theorem dX6_work_272 : decode cX6_work 272 = .ok (.ifCond .lt 19, 3) := by decide +kernel
theorem dX6_work_275 : decode cX6_work 275 = .ok (.iload 7, 2) := by decide +kernel
theorem dX6_work_277 : decode cX6_work 277 = .ok (.aload_n 0, 1) := by decide +kernel
theorem dX6_work_278 : decode cX6_work 278 = .ok (.getfield 105, 3) := by decide +kernel
theorem dX6_work_281 : decode cX6_work 281 = .ok (.iload 4, 2) := by decide +kernel
theorem dX6_work_283 : decode cX6_work 283 = .ok (.iaload, 1) := by decide +kernel
theorem dX6_work_284 : decode cX6_work 284 = .ok (.if_icmp .lt 7, 3) := by decide +kernel
theorem dX6_work_287 : decode cX6_work 287 = .ok (.iconst 1, 1) := by decide +kernel
theorem dX6_work_288 : decode cX6_work 288 = .ok (.goto 4, 3) := by decide +kernel
theorem dX6_work_291 : decode cX6_work 291 = .ok (.iconst 0, 1) := by decide +kernel
theorem dX6_work_292 : decode cX6_work 292 = .ok (.istore 8, 2) := by decide +kernel
theorem dX6_work_294 : decode cX6_work 294 = .ok (.aload_n 0, 1) := by decide +kernel
theorem dX6_work_295 : decode cX6_work 295 = .ok (.getfield 108, 3) := by decide +kernel
theorem dX6_work_298 : decode cX6_work 298 = .ok (.iload 4, 2) := by decide +kernel
theorem dX6_work_300 : decode cX6_work 300 = .ok (.iload 8, 2) := by decide +kernel
theorem dX6_work_302 : decode cX6_work 302 = .ok (.ifCond .eq 19, 3) := by decide +kernel
theorem dX6_work_305 : decode cX6_work 305 = .ok (.iload 7, 2) := by decide +kernel
theorem dX6_work_307 : decode cX6_work 307 = .ok (.aload_n 0, 1) := by decide +kernel
theorem dX6_work_308 : decode cX6_work 308 = .ok (.getfield 105, 3) := by decide +kernel
theorem dX6_work_311 : decode cX6_work 311 = .ok (.iload 4, 2) := by decide +kernel
theorem dX6_work_313 : decode cX6_work 313 = .ok (.iaload, 1) := by decide +kernel
theorem dX6_work_314 : decode cX6_work 314 = .ok (.isub, 1) := by decide +kernel
theorem dX6_work_315 : decode cX6_work 315 = .ok (.iload 5, 2) := by decide +kernel
theorem dX6_work_317 : decode cX6_work 317 = .ok (.iadd, 1) := by decide +kernel
theorem dX6_work_318 : decode cX6_work 318 = .ok (.goto 4, 3) := by decide +kernel
theorem dX6_work_321 : decode cX6_work 321 = .ok (.iconst (-1), 1) := by decide +kernel
theorem dX6_work_322 : decode cX6_work 322 = .ok (.iastore, 1) := by decide +kernel
theorem dX6_work_323 : decode cX6_work 323 = .ok (.aload_n 0, 1) := by decide +kernel
theorem dX6_work_324 : decode cX6_work 324 = .ok (.getfield 111, 3) := by decide +kernel
theorem dX6_work_327 : decode cX6_work 327 = .ok (.iload 4, 2) := by decide +kernel
theorem dX6_work_329 : decode cX6_work 329 = .ok (.iload 8, 2) := by decide +kernel
theorem dX6_work_331 : decode cX6_work 331 = .ok (.ifCond .eq 19, 3) := by decide +kernel
theorem dX6_work_334 : decode cX6_work 334 = .ok (.iload 7, 2) := by decide +kernel
theorem dX6_work_336 : decode cX6_work 336 = .ok (.aload_n 0, 1) := by decide +kernel
theorem dX6_work_337 : decode cX6_work 337 = .ok (.getfield 105, 3) := by decide +kernel
theorem dX6_work_340 : decode cX6_work 340 = .ok (.iload 4, 2) := by decide +kernel
theorem dX6_work_342 : decode cX6_work 342 = .ok (.iaload, 1) := by decide +kernel
theorem dX6_work_343 : decode cX6_work 343 = .ok (.isub, 1) := by decide +kernel
theorem dX6_work_344 : decode cX6_work 344 = .ok (.iload 6, 2) := by decide +kernel
theorem dX6_work_346 : decode cX6_work 346 = .ok (.iadd, 1) := by decide +kernel
theorem dX6_work_347 : decode cX6_work 347 = .ok (.goto 4, 3) := by decide +kernel
theorem dX6_work_350 : decode cX6_work 350 = .ok (.iconst (-1), 1) := by decide +kernel
theorem dX6_work_351 : decode cX6_work 351 = .ok (.iastore, 1) := by decide +kernel
theorem dX6_work_352 : decode cX6_work 352 = .ok (.return_, 1) := by decide +kernel
theorem dX6_workAll_0 : decode cX6_workAll 0 = .ok (.iconst 0, 1) := by decide +kernel
theorem dX6_workAll_1 : decode cX6_workAll 1 = .ok (.istore_n 3, 1) := by decide +kernel
theorem dX6_workAll_2 : decode cX6_workAll 2 = .ok (.iload_n 3, 1) := by decide +kernel
theorem dX6_workAll_3 : decode cX6_workAll 3 = .ok (.iload_n 1, 1) := by decide +kernel
theorem dX6_workAll_4 : decode cX6_workAll 4 = .ok (.if_icmp .gt 47, 3) := by decide +kernel
theorem dX6_workAll_7 : decode cX6_workAll 7 = .ok (.iconst 0, 1) := by decide +kernel
theorem dX6_workAll_8 : decode cX6_workAll 8 = .ok (.istore 4, 2) := by decide +kernel
theorem dX6_workAll_10 : decode cX6_workAll 10 = .ok (.iload 4, 2) := by decide +kernel
theorem dX6_workAll_12 : decode cX6_workAll 12 = .ok (.aload_n 0, 1) := by decide +kernel
theorem dX6_workAll_13 : decode cX6_workAll 13 = .ok (.getfield 72, 3) := by decide +kernel
theorem dX6_workAll_16 : decode cX6_workAll 16 = .ok (.iload_n 3, 1) := by decide +kernel
theorem dX6_workAll_17 : decode cX6_workAll 17 = .ok (.iaload, 1) := by decide +kernel
theorem dX6_workAll_18 : decode cX6_workAll 18 = .ok (.if_icmp .ge 27, 3) := by decide +kernel
theorem dX6_workAll_21 : decode cX6_workAll 21 = .ok (.aload_n 0, 1) := by decide +kernel
theorem dX6_workAll_22 : decode cX6_workAll 22 = .ok (.iload_n 3, 1) := by decide +kernel
theorem dX6_workAll_23 : decode cX6_workAll 23 = .ok (.aload_n 0, 1) := by decide +kernel
theorem dX6_workAll_24 : decode cX6_workAll 24 = .ok (.getfield 78, 3) := by decide +kernel
theorem dX6_workAll_27 : decode cX6_workAll 27 = .ok (.bipush 16, 2) := by decide +kernel
theorem dX6_workAll_29 : decode cX6_workAll 29 = .ok (.iload_n 3, 1) := by decide +kernel
theorem dX6_workAll_30 : decode cX6_workAll 30 = .ok (.imul, 1) := by decide +kernel
theorem dX6_workAll_31 : decode cX6_workAll 31 = .ok (.iload 4, 2) := by decide +kernel
theorem dX6_workAll_33 : decode cX6_workAll 33 = .ok (.iadd, 1) := by decide +kernel
theorem dX6_workAll_34 : decode cX6_workAll 34 = .ok (.iaload, 1) := by decide +kernel
theorem dX6_workAll_35 : decode cX6_workAll 35 = .ok (.iload_n 2, 1) := by decide +kernel
theorem dX6_workAll_36 : decode cX6_workAll 36 = .ok (.invokevirtual 237, 3) := by decide +kernel
theorem dX6_workAll_39 : decode cX6_workAll 39 = .ok (.iinc 4 1, 3) := by decide +kernel
theorem dX6_workAll_42 : decode cX6_workAll 42 = .ok (.goto (-32), 3) := by decide +kernel
theorem dX6_workAll_45 : decode cX6_workAll 45 = .ok (.iinc 3 1, 3) := by decide +kernel
theorem dX6_workAll_48 : decode cX6_workAll 48 = .ok (.goto (-46), 3) := by decide +kernel
theorem dX6_workAll_51 : decode cX6_workAll 51 = .ok (.return_, 1) := by decide +kernel
theorem dX6_placed_0 : decode cX6_placed 0 = .ok (.bipush 16, 2) := by decide +kernel
theorem dX6_placed_2 : decode cX6_placed 2 = .ok (.iload_n 1, 1) := by decide +kernel
theorem dX6_placed_3 : decode cX6_placed 3 = .ok (.imul, 1) := by decide +kernel
theorem dX6_placed_4 : decode cX6_placed 4 = .ok (.istore 4, 2) := by decide +kernel
theorem dX6_placed_6 : decode cX6_placed 6 = .ok (.iconst 1, 1) := by decide +kernel
theorem dX6_placed_7 : decode cX6_placed 7 = .ok (.istore 5, 2) := by decide +kernel
theorem dX6_placed_9 : decode cX6_placed 9 = .ok (.iconst 0, 1) := by decide +kernel
theorem dX6_placed_10 : decode cX6_placed 10 = .ok (.istore 6, 2) := by decide +kernel
theorem dX6_placed_12 : decode cX6_placed 12 = .ok (.iload 6, 2) := by decide +kernel
theorem dX6_placed_14 : decode cX6_placed 14 = .ok (.aload_n 0, 1) := by decide +kernel
theorem dX6_placed_15 : decode cX6_placed 15 = .ok (.getfield 72, 3) := by decide +kernel
theorem dX6_placed_18 : decode cX6_placed 18 = .ok (.iload_n 1, 1) := by decide +kernel
theorem dX6_placed_19 : decode cX6_placed 19 = .ok (.iaload, 1) := by decide +kernel
theorem dX6_placed_20 : decode cX6_placed 20 = .ok (.if_icmp .ge 104, 3) := by decide +kernel
