theorem dX0_init_0 : decode cX0_init 0 = .ok (.aload_n 0, 1) := by decide +kernel
theorem dX0_init_1 : decode cX0_init 1 = .ok (.invokespecial 3, 3) := by decide +kernel
theorem dX0_init_4 : decode cX0_init 4 = .ok (.aload_n 0, 1) := by decide +kernel
theorem dX0_init_5 : decode cX0_init 5 = .ok (.iload_n 1, 1) := by decide +kernel
theorem dX0_init_6 : decode cX0_init 6 = .ok (.putfield 9, 3) := by decide +kernel
theorem dX0_init_9 : decode cX0_init 9 = .ok (.return_, 1) := by decide +kernel
theorem dX0_known_0 : decode cX0_known 0 = .ok (.aload_n 0, 1) := by decide +kernel
theorem dX0_known_1 : decode cX0_known 1 = .ok (.getfield 15, 3) := by decide +kernel
theorem dX0_known_4 : decode cX0_known 4 = .ok (.astore 4, 2) := by decide +kernel
theorem dX0_known_6 : decode cX0_known 6 = .ok (.aload 4, 2) := by decide +kernel
theorem dX0_known_8 : decode cX0_known 8 = .ok (.ifnull 46, 3) := by decide +kernel
theorem dX0_known_11 : decode cX0_known 11 = .ok (.aload 4, 2) := by decide +kernel
theorem dX0_known_13 : decode cX0_known 13 = .ok (.getfield 19, 3) := by decide +kernel
theorem dX0_known_16 : decode cX0_known 16 = .ok (.iload_n 3, 1) := by decide +kernel
theorem dX0_known_17 : decode cX0_known 17 = .ok (.if_icmp .gt 27, 3) := by decide +kernel
theorem dX0_known_20 : decode cX0_known 20 = .ok (.aload 4, 2) := by decide +kernel
theorem dX0_known_22 : decode cX0_known 22 = .ok (.getfield 24, 3) := by decide +kernel
theorem dX0_known_25 : decode cX0_known 25 = .ok (.iload_n 1, 1) := by decide +kernel
theorem dX0_known_26 : decode cX0_known 26 = .ok (.if_icmp .ne 18, 3) := by decide +kernel
theorem dX0_known_29 : decode cX0_known 29 = .ok (.aload 4, 2) := by decide +kernel
theorem dX0_known_31 : decode cX0_known 31 = .ok (.getfield 27, 3) := by decide +kernel
theorem dX0_known_34 : decode cX0_known 34 = .ok (.iload_n 2, 1) := by decide +kernel
theorem dX0_known_35 : decode cX0_known 35 = .ok (.if_icmp .ne 9, 3) := by decide +kernel
theorem dX0_known_38 : decode cX0_known 38 = .ok (.aload 4, 2) := by decide +kernel
theorem dX0_known_40 : decode cX0_known 40 = .ok (.getfield 30, 3) := by decide +kernel
theorem dX0_known_43 : decode cX0_known 43 = .ok (.ireturn, 1) := by decide +kernel
theorem dX0_known_44 : decode cX0_known 44 = .ok (.aload 4, 2) := by decide +kernel
theorem dX0_known_46 : decode cX0_known 46 = .ok (.getfield 33, 3) := by decide +kernel
theorem dX0_known_49 : decode cX0_known 49 = .ok (.astore 4, 2) := by decide +kernel
theorem dX0_known_51 : decode cX0_known 51 = .ok (.goto (-45), 3) := by decide +kernel
theorem dX0_known_54 : decode cX0_known 54 = .ok (.iconst (-1), 1) := by decide +kernel
theorem dX0_known_55 : decode cX0_known 55 = .ok (.ireturn, 1) := by decide +kernel
theorem dX0_sinceStart_0 : decode cX0_sinceStart 0 = .ok (.aload_n 0, 1) := by decide +kernel
theorem dX0_sinceStart_1 : decode cX0_sinceStart 1 = .ok (.getfield 36, 3) := by decide +kernel
theorem dX0_sinceStart_4 : decode cX0_sinceStart 4 = .ok (.iconst (-1), 1) := by decide +kernel
theorem dX0_sinceStart_5 : decode cX0_sinceStart 5 = .ok (.if_icmp .eq 16, 3) := by decide +kernel
theorem dX0_sinceStart_8 : decode cX0_sinceStart 8 = .ok (.iload_n 1, 1) := by decide +kernel
theorem dX0_sinceStart_9 : decode cX0_sinceStart 9 = .ok (.iconst (-1), 1) := by decide +kernel
theorem dX0_sinceStart_10 : decode cX0_sinceStart 10 = .ok (.if_icmp .eq 11, 3) := by decide +kernel
theorem dX0_sinceStart_13 : decode cX0_sinceStart 13 = .ok (.iload_n 1, 1) := by decide +kernel
theorem dX0_sinceStart_14 : decode cX0_sinceStart 14 = .ok (.aload_n 0, 1) := by decide +kernel
theorem dX0_sinceStart_15 : decode cX0_sinceStart 15 = .ok (.getfield 36, 3) := by decide +kernel
theorem dX0_sinceStart_18 : decode cX0_sinceStart 18 = .ok (.if_icmp .ge 7, 3) := by decide +kernel
theorem dX0_sinceStart_21 : decode cX0_sinceStart 21 = .ok (.iconst (-1), 1) := by decide +kernel
theorem dX0_sinceStart_22 : decode cX0_sinceStart 22 = .ok (.goto 9, 3) := by decide +kernel
theorem dX0_sinceStart_25 : decode cX0_sinceStart 25 = .ok (.iload_n 1, 1) := by decide +kernel
theorem dX0_sinceStart_26 : decode cX0_sinceStart 26 = .ok (.aload_n 0, 1) := by decide +kernel
theorem dX0_sinceStart_27 : decode cX0_sinceStart 27 = .ok (.getfield 36, 3) := by decide +kernel
theorem dX0_sinceStart_30 : decode cX0_sinceStart 30 = .ok (.isub, 1) := by decide +kernel
theorem dX0_sinceStart_31 : decode cX0_sinceStart 31 = .ok (.ireturn, 1) := by decide +kernel
theorem dX0_hasTime_0 : decode cX0_hasTime 0 = .ok (.aload_n 0, 1) := by decide +kernel
theorem dX0_hasTime_1 : decode cX0_hasTime 1 = .ok (.getfield 39, 3) := by decide +kernel
theorem dX0_hasTime_4 : decode cX0_hasTime 4 = .ok (.iconst (-1), 1) := by decide +kernel
theorem dX0_hasTime_5 : decode cX0_hasTime 5 = .ok (.if_icmp .eq 7, 3) := by decide +kernel
theorem dX0_hasTime_8 : decode cX0_hasTime 8 = .ok (.iconst 1, 1) := by decide +kernel
theorem dX0_hasTime_9 : decode cX0_hasTime 9 = .ok (.goto 4, 3) := by decide +kernel
theorem dX0_hasTime_12 : decode cX0_hasTime 12 = .ok (.iconst 0, 1) := by decide +kernel
theorem dX0_hasTime_13 : decode cX0_hasTime 13 = .ok (.ireturn, 1) := by decide +kernel
theorem dX0_workOut_0 : decode cX0_workOut 0 = .ok (.aload_n 0, 1) := by decide +kernel
theorem dX0_workOut_1 : decode cX0_workOut 1 = .ok (.iload_n 2, 1) := by decide +kernel
theorem dX0_workOut_2 : decode cX0_workOut 2 = .ok (.putfield 36, 3) := by decide +kernel
theorem dX0_workOut_5 : decode cX0_workOut 5 = .ok (.aload_n 0, 1) := by decide +kernel
theorem dX0_workOut_6 : decode cX0_workOut 6 = .ok (.aload_n 0, 1) := by decide +kernel
theorem dX0_workOut_7 : decode cX0_workOut 7 = .ok (.iconst 3, 1) := by decide +kernel
theorem dX0_workOut_8 : decode cX0_workOut 8 = .ok (.iconst 0, 1) := by decide +kernel
theorem dX0_workOut_9 : decode cX0_workOut 9 = .ok (.iload_n 3, 1) := by decide +kernel
theorem dX0_workOut_10 : decode cX0_workOut 10 = .ok (.invokevirtual 42, 3) := by decide +kernel
theorem dX0_workOut_13 : decode cX0_workOut 13 = .ok (.iconst 1, 1) := by decide +kernel
theorem dX0_workOut_14 : decode cX0_workOut 14 = .ok (.if_icmp .ne 7, 3) := by decide +kernel
theorem dX0_workOut_17 : decode cX0_workOut 17 = .ok (.iconst 1, 1) := by decide +kernel
theorem dX0_workOut_18 : decode cX0_workOut 18 = .ok (.goto 4, 3) := by decide +kernel
theorem dX0_workOut_21 : decode cX0_workOut 21 = .ok (.iconst 0, 1) := by decide +kernel
theorem dX0_workOut_22 : decode cX0_workOut 22 = .ok (.putfield 46, 3) := by decide +kernel
theorem dX0_workOut_25 : decode cX0_workOut 25 = .ok (.aload_n 0, 1) := by decide +kernel
theorem dX0_workOut_26 : decode cX0_workOut 26 = .ok (.iconst 0, 1) := by decide +kernel
theorem dX0_workOut_27 : decode cX0_workOut 27 = .ok (.putfield 50, 3) := by decide +kernel
theorem dX0_workOut_30 : decode cX0_workOut 30 = .ok (.aload_n 0, 1) := by decide +kernel
theorem dX0_workOut_31 : decode cX0_workOut 31 = .ok (.iconst 0, 1) := by decide +kernel
theorem dX0_workOut_32 : decode cX0_workOut 32 = .ok (.putfield 53, 3) := by decide +kernel
theorem dX0_workOut_35 : decode cX0_workOut 35 = .ok (.aload_n 0, 1) := by decide +kernel
theorem dX0_workOut_36 : decode cX0_workOut 36 = .ok (.iconst 0, 1) := by decide +kernel
theorem dX0_workOut_37 : decode cX0_workOut 37 = .ok (.putfield 56, 3) := by decide +kernel
theorem dX0_workOut_40 : decode cX0_workOut 40 = .ok (.aload_n 0, 1) := by decide +kernel
theorem dX0_workOut_41 : decode cX0_workOut 41 = .ok (.iconst 0, 1) := by decide +kernel
theorem dX0_workOut_42 : decode cX0_workOut 42 = .ok (.putfield 59, 3) := by decide +kernel
theorem dX0_workOut_45 : decode cX0_workOut 45 = .ok (.iconst 0, 1) := by decide +kernel
theorem dX0_workOut_46 : decode cX0_workOut 46 = .ok (.istore 4, 2) := by decide +kernel
theorem dX0_workOut_48 : decode cX0_workOut 48 = .ok (.iload 4, 2) := by decide +kernel
theorem dX0_workOut_50 : decode cX0_workOut 50 = .ok (.aload_n 1, 1) := by decide +kernel
theorem dX0_workOut_51 : decode cX0_workOut 51 = .ok (.getfield 62, 3) := by decide +kernel
theorem dX0_workOut_54 : decode cX0_workOut 54 = .ok (.if_icmp .ge 17, 3) := by decide +kernel
theorem dX0_workOut_57 : decode cX0_workOut 57 = .ok (.aload_n 0, 1) := by decide +kernel
theorem dX0_workOut_58 : decode cX0_workOut 58 = .ok (.aload_n 1, 1) := by decide +kernel
theorem dX0_workOut_59 : decode cX0_workOut 59 = .ok (.iload 4, 2) := by decide +kernel
theorem dX0_workOut_61 : decode cX0_workOut 61 = .ok (.iload_n 3, 1) := by decide +kernel
theorem dX0_workOut_62 : decode cX0_workOut 62 = .ok (.invokevirtual 67, 3) := by decide +kernel
theorem dX0_workOut_65 : decode cX0_workOut 65 = .ok (.iinc 4 1, 3) := by decide +kernel
theorem dX0_workOut_68 : decode cX0_workOut 68 = .ok (.goto (-20), 3) := by decide +kernel
theorem dX0_workOut_71 : decode cX0_workOut 71 = .ok (.aload_n 0, 1) := by decide +kernel
theorem dX0_workOut_72 : decode cX0_workOut 72 = .ok (.getfield 46, 3) := by decide +kernel
theorem dX0_workOut_75 : decode cX0_workOut 75 = .ok (.ifCond .eq 7, 3) := by decide +kernel
theorem dX0_workOut_78 : decode cX0_workOut 78 = .ok (.iconst (-1), 1) := by decide +kernel
theorem dX0_workOut_79 : decode cX0_workOut 79 = .ok (.goto 17, 3) := by decide +kernel
theorem dX0_workOut_82 : decode cX0_workOut 82 = .ok (.aload_n 0, 1) := by decide +kernel
theorem dX0_workOut_83 : decode cX0_workOut 83 = .ok (.aload_n 0, 1) := by decide +kernel
theorem dX0_workOut_84 : decode cX0_workOut 84 = .ok (.iconst 0, 1) := by decide +kernel
theorem dX0_workOut_85 : decode cX0_workOut 85 = .ok (.aload_n 1, 1) := by decide +kernel
theorem dX0_workOut_86 : decode cX0_workOut 86 = .ok (.getfield 71, 3) := by decide +kernel
theorem dX0_workOut_89 : decode cX0_workOut 89 = .ok (.iload_n 3, 1) := by decide +kernel
theorem dX0_workOut_90 : decode cX0_workOut 90 = .ok (.invokevirtual 42, 3) := by decide +kernel
theorem dX0_workOut_93 : decode cX0_workOut 93 = .ok (.invokevirtual 74, 3) := by decide +kernel
theorem dX0_workOut_96 : decode cX0_workOut 96 = .ok (.istore 4, 2) := by decide +kernel
theorem dX0_workOut_98 : decode cX0_workOut 98 = .ok (.aload_n 0, 1) := by decide +kernel
theorem dX0_workOut_99 : decode cX0_workOut 99 = .ok (.iload 4, 2) := by decide +kernel
theorem dX0_workOut_101 : decode cX0_workOut 101 = .ok (.iconst (-1), 1) := by decide +kernel
theorem dX0_workOut_102 : decode cX0_workOut 102 = .ok (.if_icmp .ne 7, 3) := by decide +kernel
theorem dX0_workOut_105 : decode cX0_workOut 105 = .ok (.iconst (-1), 1) := by decide +kernel
theorem dX0_workOut_106 : decode cX0_workOut 106 = .ok (.goto 10, 3) := by decide +kernel
theorem dX0_workOut_109 : decode cX0_workOut 109 = .ok (.iload 4, 2) := by decide +kernel
theorem dX0_workOut_111 : decode cX0_workOut 111 = .ok (.aload_n 0, 1) := by decide +kernel
theorem dX0_workOut_112 : decode cX0_workOut 112 = .ok (.getfield 56, 3) := by decide +kernel
theorem dX0_workOut_115 : decode cX0_workOut 115 = .ok (.iadd, 1) := by decide +kernel
theorem dX0_workOut_116 : decode cX0_workOut 116 = .ok (.putfield 39, 3) := by decide +kernel
theorem dX0_workOut_119 : decode cX0_workOut 119 = .ok (.aload_n 0, 1) := by decide +kernel
theorem dX0_workOut_120 : decode cX0_workOut 120 = .ok (.iload 4, 2) := by decide +kernel
theorem dX0_workOut_122 : decode cX0_workOut 122 = .ok (.iconst (-1), 1) := by decide +kernel
theorem dX0_workOut_123 : decode cX0_workOut 123 = .ok (.if_icmp .ne 7, 3) := by decide +kernel
theorem dX0_workOut_126 : decode cX0_workOut 126 = .ok (.iconst (-1), 1) := by decide +kernel
theorem dX0_workOut_127 : decode cX0_workOut 127 = .ok (.goto 10, 3) := by decide +kernel
theorem dX0_workOut_130 : decode cX0_workOut 130 = .ok (.iload 4, 2) := by decide +kernel
theorem dX0_workOut_132 : decode cX0_workOut 132 = .ok (.aload_n 0, 1) := by decide +kernel
theorem dX0_workOut_133 : decode cX0_workOut 133 = .ok (.getfield 59, 3) := by decide +kernel
theorem dX0_workOut_136 : decode cX0_workOut 136 = .ok (.iadd, 1) := by decide +kernel
theorem dX0_workOut_137 : decode cX0_workOut 137 = .ok (.putfield 78, 3) := by decide +kernel
theorem dX0_workOut_140 : decode cX0_workOut 140 = .ok (.return_, 1) := by decide +kernel
theorem dX0_addShooting_0 : decode cX0_addShooting 0 = .ok (.aload_n 0, 1) := by decide +kernel
theorem dX0_addShooting_1 : decode cX0_addShooting 1 = .ok (.iconst 1, 1) := by decide +kernel
theorem dX0_addShooting_2 : decode cX0_addShooting 2 = .ok (.iload_n 2, 1) := by decide +kernel
theorem dX0_addShooting_3 : decode cX0_addShooting 3 = .ok (.iload_n 3, 1) := by decide +kernel
theorem dX0_addShooting_4 : decode cX0_addShooting 4 = .ok (.invokevirtual 42, 3) := by decide +kernel
theorem dX0_addShooting_7 : decode cX0_addShooting 7 = .ok (.istore 4, 2) := by decide +kernel
theorem dX0_addShooting_9 : decode cX0_addShooting 9 = .ok (.iload 4, 2) := by decide +kernel
theorem dX0_addShooting_11 : decode cX0_addShooting 11 = .ok (.iconst (-1), 1) := by decide +kernel
theorem dX0_addShooting_12 : decode cX0_addShooting 12 = .ok (.if_icmp .ne 7, 3) := by decide +kernel
theorem dX0_addShooting_15 : decode cX0_addShooting 15 = .ok (.iconst 0, 1) := by decide +kernel
theorem dX0_addShooting_16 : decode cX0_addShooting 16 = .ok (.goto 10, 3) := by decide +kernel
theorem dX0_addShooting_19 : decode cX0_addShooting 19 = .ok (.iconst 5, 1) := by decide +kernel
theorem dX0_addShooting_20 : decode cX0_addShooting 20 = .ok (.iload 4, 2) := by decide +kernel
theorem dX0_addShooting_22 : decode cX0_addShooting 22 = .ok (.invokestatic 81, 3) := by decide +kernel
theorem dX0_addShooting_25 : decode cX0_addShooting 25 = .ok (.isub, 1) := by decide +kernel
theorem dX0_addShooting_26 : decode cX0_addShooting 26 = .ok (.istore 5, 2) := by decide +kernel
theorem dX0_addShooting_28 : decode cX0_addShooting 28 = .ok (.iload 4, 2) := by decide +kernel
theorem dX0_addShooting_30 : decode cX0_addShooting 30 = .ok (.iconst (-1), 1) := by decide +kernel
theorem dX0_addShooting_31 : decode cX0_addShooting 31 = .ok (.if_icmp .ne 7, 3) := by decide +kernel
theorem dX0_addShooting_34 : decode cX0_addShooting 34 = .ok (.iconst 5, 1) := by decide +kernel
theorem dX0_addShooting_35 : decode cX0_addShooting 35 = .ok (.goto 5, 3) := by decide +kernel
theorem dX0_addShooting_38 : decode cX0_addShooting 38 = .ok (.iload 5, 2) := by decide +kernel
theorem dX0_addShooting_40 : decode cX0_addShooting 40 = .ok (.istore 6, 2) := by decide +kernel
theorem dX0_addShooting_42 : decode cX0_addShooting 42 = .ok (.aload_n 1, 1) := by decide +kernel
theorem dX0_addShooting_43 : decode cX0_addShooting 43 = .ok (.getfield 86, 3) := by decide +kernel
theorem dX0_addShooting_46 : decode cX0_addShooting 46 = .ok (.ifCond .eq 13, 3) := by decide +kernel
theorem dX0_addShooting_49 : decode cX0_addShooting 49 = .ok (.aload_n 0, 1) := by decide +kernel
theorem dX0_addShooting_50 : decode cX0_addShooting 50 = .ok (.iconst 2, 1) := by decide +kernel
theorem dX0_addShooting_51 : decode cX0_addShooting 51 = .ok (.iload_n 2, 1) := by decide +kernel
theorem dX0_addShooting_52 : decode cX0_addShooting 52 = .ok (.iload_n 3, 1) := by decide +kernel
theorem dX0_addShooting_53 : decode cX0_addShooting 53 = .ok (.invokevirtual 42, 3) := by decide +kernel
theorem dX0_addShooting_56 : decode cX0_addShooting 56 = .ok (.goto 4, 3) := by decide +kernel
theorem dX0_addShooting_59 : decode cX0_addShooting 59 = .ok (.iconst 0, 1) := by decide +kernel
theorem dX0_addShooting_60 : decode cX0_addShooting 60 = .ok (.istore 7, 2) := by decide +kernel
theorem dX0_addShooting_62 : decode cX0_addShooting 62 = .ok (.iload 7, 2) := by decide +kernel
theorem dX0_addShooting_64 : decode cX0_addShooting 64 = .ok (.iconst (-1), 1) := by decide +kernel
theorem dX0_addShooting_65 : decode cX0_addShooting 65 = .ok (.if_icmp .ne 7, 3) := by decide +kernel
theorem dX0_addShooting_68 : decode cX0_addShooting 68 = .ok (.iconst 0, 1) := by decide +kernel
theorem dX0_addShooting_69 : decode cX0_addShooting 69 = .ok (.goto 5, 3) := by decide +kernel
theorem dX0_addShooting_72 : decode cX0_addShooting 72 = .ok (.iload 7, 2) := by decide +kernel
theorem dX0_addShooting_74 : decode cX0_addShooting 74 = .ok (.istore 8, 2) := by decide +kernel
theorem dX0_addShooting_76 : decode cX0_addShooting 76 = .ok (.iload 7, 2) := by decide +kernel
theorem dX0_addShooting_78 : decode cX0_addShooting 78 = .ok (.iconst (-1), 1) := by decide +kernel
theorem dX0_addShooting_79 : decode cX0_addShooting 79 = .ok (.if_icmp .ne 8, 3) := by decide +kernel
theorem dX0_addShooting_82 : decode cX0_addShooting 82 = .ok (.bipush 9, 2) := by decide +kernel
theorem dX0_addShooting_84 : decode cX0_addShooting 84 = .ok (.goto 5, 3) := by decide +kernel
theorem dX0_addShooting_87 : decode cX0_addShooting 87 = .ok (.iload 7, 2) := by decide +kernel
theorem dX0_addShooting_89 : decode cX0_addShooting 89 = .ok (.istore 9, 2) := by decide +kernel
theorem dX0_addShooting_91 : decode cX0_addShooting 91 = .ok (.aload_n 1, 1) := by decide +kernel
theorem dX0_addShooting_92 : decode cX0_addShooting 92 = .ok (.getfield 89, 3) := by decide +kernel
theorem dX0_addShooting_95 : decode cX0_addShooting 95 = .ok (.bipush 10, 2) := by decide +kernel
theorem dX0_addShooting_97 : decode cX0_addShooting 97 = .ok (.imul, 1) := by decide +kernel
theorem dX0_addShooting_98 : decode cX0_addShooting 98 = .ok (.istore 10, 2) := by decide +kernel
theorem dX0_addShooting_100 : decode cX0_addShooting 100 = .ok (.aload_n 0, 1) := by decide +kernel
theorem dX0_addShooting_101 : decode cX0_addShooting 101 = .ok (.dup, 1) := by decide +kernel
theorem dX0_addShooting_102 : decode cX0_addShooting 102 = .ok (.getfield 50, 3) := by decide +kernel
theorem dX0_addShooting_105 : decode cX0_addShooting 105 = .ok (.iload 5, 2) := by decide +kernel
theorem dX0_addShooting_107 : decode cX0_addShooting 107 = .ok (.iadd, 1) := by decide +kernel
theorem dX0_addShooting_108 : decode cX0_addShooting 108 = .ok (.putfield 50, 3) := by decide +kernel
theorem dX0_addShooting_111 : decode cX0_addShooting 111 = .ok (.aload_n 0, 1) := by decide +kernel
theorem dX0_addShooting_112 : decode cX0_addShooting 112 = .ok (.dup, 1) := by decide +kernel
theorem dX0_addShooting_113 : decode cX0_addShooting 113 = .ok (.getfield 53, 3) := by decide +kernel
theorem dX0_addShooting_116 : decode cX0_addShooting 116 = .ok (.iload 6, 2) := by decide +kernel
theorem dX0_addShooting_118 : decode cX0_addShooting 118 = .ok (.iadd, 1) := by decide +kernel
theorem dX0_addShooting_119 : decode cX0_addShooting 119 = .ok (.putfield 53, 3) := by decide +kernel
theorem dX0_addShooting_122 : decode cX0_addShooting 122 = .ok (.aload_n 0, 1) := by decide +kernel
theorem dX0_addShooting_123 : decode cX0_addShooting 123 = .ok (.dup, 1) := by decide +kernel
theorem dX0_addShooting_124 : decode cX0_addShooting 124 = .ok (.getfield 56, 3) := by decide +kernel
theorem dX0_addShooting_127 : decode cX0_addShooting 127 = .ok (.iconst 0, 1) := by decide +kernel
theorem dX0_addShooting_128 : decode cX0_addShooting 128 = .ok (.iload 5, 2) := by decide +kernel
theorem dX0_addShooting_130 : decode cX0_addShooting 130 = .ok (.iload 9, 2) := by decide +kernel
theorem dX0_addShooting_132 : decode cX0_addShooting 132 = .ok (.isub, 1) := by decide +kernel
theorem dX0_addShooting_133 : decode cX0_addShooting 133 = .ok (.invokestatic 92, 3) := by decide +kernel
theorem dX0_addShooting_136 : decode cX0_addShooting 136 = .ok (.iload 10, 2) := by decide +kernel
theorem dX0_addShooting_138 : decode cX0_addShooting 138 = .ok (.imul, 1) := by decide +kernel
theorem dX0_addShooting_139 : decode cX0_addShooting 139 = .ok (.iadd, 1) := by decide +kernel
theorem dX0_addShooting_140 : decode cX0_addShooting 140 = .ok (.putfield 56, 3) := by decide +kernel
theorem dX0_addShooting_143 : decode cX0_addShooting 143 = .ok (.aload_n 0, 1) := by decide +kernel
theorem dX0_addShooting_144 : decode cX0_addShooting 144 = .ok (.dup, 1) := by decide +kernel
theorem dX0_addShooting_145 : decode cX0_addShooting 145 = .ok (.getfield 59, 3) := by decide +kernel
theorem dX0_addShooting_148 : decode cX0_addShooting 148 = .ok (.iconst 0, 1) := by decide +kernel
theorem dX0_addShooting_149 : decode cX0_addShooting 149 = .ok (.iload 6, 2) := by decide +kernel
theorem dX0_addShooting_151 : decode cX0_addShooting 151 = .ok (.iload 8, 2) := by decide +kernel
theorem dX0_addShooting_153 : decode cX0_addShooting 153 = .ok (.isub, 1) := by decide +kernel
theorem dX0_addShooting_154 : decode cX0_addShooting 154 = .ok (.invokestatic 92, 3) := by decide +kernel
theorem dX0_addShooting_157 : decode cX0_addShooting 157 = .ok (.iload 10, 2) := by decide +kernel
theorem dX0_addShooting_159 : decode cX0_addShooting 159 = .ok (.imul, 1) := by decide +kernel
theorem dX0_addShooting_160 : decode cX0_addShooting 160 = .ok (.iadd, 1) := by decide +kernel
theorem dX0_addShooting_161 : decode cX0_addShooting 161 = .ok (.putfield 59, 3) := by decide +kernel
theorem dX0_addShooting_164 : decode cX0_addShooting 164 = .ok (.return_, 1) := by decide +kernel
theorem dX1_init_0 : decode cX1_init 0 = .ok (.aload_n 0, 1) := by decide +kernel
theorem dX1_init_1 : decode cX1_init 1 = .ok (.invokespecial 1, 3) := by decide +kernel
theorem dX1_init_4 : decode cX1_init 4 = .ok (.aload_n 0, 1) := by decide +kernel
theorem dX1_init_5 : decode cX1_init 5 = .ok (.iload_n 1, 1) := by decide +kernel
theorem dX1_init_6 : decode cX1_init 6 = .ok (.putfield 7, 3) := by decide +kernel
theorem dX1_init_9 : decode cX1_init 9 = .ok (.aload_n 0, 1) := by decide +kernel
theorem dX1_init_10 : decode cX1_init 10 = .ok (.iload_n 2, 1) := by decide +kernel
theorem dX1_init_11 : decode cX1_init 11 = .ok (.putfield 13, 3) := by decide +kernel
theorem dX1_init_14 : decode cX1_init 14 = .ok (.aload_n 0, 1) := by decide +kernel
theorem dX1_init_15 : decode cX1_init 15 = .ok (.iload_n 3, 1) := by decide +kernel
theorem dX1_init_16 : decode cX1_init 16 = .ok (.putfield 16, 3) := by decide +kernel
theorem dX1_init_19 : decode cX1_init 19 = .ok (.aload_n 0, 1) := by decide +kernel
theorem dX1_init_20 : decode cX1_init 20 = .ok (.iload 4, 2) := by decide +kernel
theorem dX1_init_22 : decode cX1_init 22 = .ok (.putfield 19, 3) := by decide +kernel
theorem dX1_init_25 : decode cX1_init 25 = .ok (.aload_n 0, 1) := by decide +kernel
theorem dX1_init_26 : decode cX1_init 26 = .ok (.aload 5, 2) := by decide +kernel
theorem dX1_init_28 : decode cX1_init 28 = .ok (.putfield 22, 3) := by decide +kernel
theorem dX1_init_31 : decode cX1_init 31 = .ok (.return_, 1) := by decide +kernel
theorem dX2_init_0 : decode cX2_init 0 = .ok (.aload_n 0, 1) := by decide +kernel
theorem dX2_init_1 : decode cX2_init 1 = .ok (.invokespecial 3, 3) := by decide +kernel
theorem dX2_init_4 : decode cX2_init 4 = .ok (.aload_n 0, 1) := by decide +kernel
theorem dX2_init_5 : decode cX2_init 5 = .ok (.iload_n 1, 1) := by decide +kernel
theorem dX2_init_6 : decode cX2_init 6 = .ok (.putfield 9, 3) := by decide +kernel
theorem dX2_init_9 : decode cX2_init 9 = .ok (.return_, 1) := by decide +kernel
theorem dX2_hasEvent_0 : decode cX2_hasEvent 0 = .ok (.iload_n 1, 1) := by decide +kernel
theorem dX2_hasEvent_1 : decode cX2_hasEvent 1 = .ok (.tableswitch 78 0 3 #[31, 50, 50, 68], 31) := by decide +kernel
theorem dX2_hasEvent_32 : decode cX2_hasEvent 32 = .ok (.iload_n 2, 1) := by decide +kernel
theorem dX2_hasEvent_33 : decode cX2_hasEvent 33 = .ok (.iconst 1, 1) := by decide +kernel
theorem dX2_hasEvent_34 : decode cX2_hasEvent 34 = .ok (.if_icmp .lt 15, 3) := by decide +kernel
theorem dX2_hasEvent_37 : decode cX2_hasEvent 37 = .ok (.iload_n 2, 1) := by decide +kernel
theorem dX2_hasEvent_38 : decode cX2_hasEvent 38 = .ok (.aload_n 0, 1) := by decide +kernel
theorem dX2_hasEvent_39 : decode cX2_hasEvent 39 = .ok (.getfield 15, 3) := by decide +kernel
theorem dX2_hasEvent_42 : decode cX2_hasEvent 42 = .ok (.if_icmp .gt 7, 3) := by decide +kernel
theorem dX2_hasEvent_45 : decode cX2_hasEvent 45 = .ok (.iconst 1, 1) := by decide +kernel
theorem dX2_hasEvent_46 : decode cX2_hasEvent 46 = .ok (.goto 4, 3) := by decide +kernel
theorem dX2_hasEvent_49 : decode cX2_hasEvent 49 = .ok (.iconst 0, 1) := by decide +kernel
theorem dX2_hasEvent_50 : decode cX2_hasEvent 50 = .ok (.ireturn, 1) := by decide +kernel
theorem dX2_hasEvent_51 : decode cX2_hasEvent 51 = .ok (.iload_n 2, 1) := by decide +kernel
theorem dX2_hasEvent_52 : decode cX2_hasEvent 52 = .ok (.ifCond .lt 15, 3) := by decide +kernel
theorem dX2_hasEvent_55 : decode cX2_hasEvent 55 = .ok (.iload_n 2, 1) := by decide +kernel
theorem dX2_hasEvent_56 : decode cX2_hasEvent 56 = .ok (.aload_n 0, 1) := by decide +kernel
theorem dX2_hasEvent_57 : decode cX2_hasEvent 57 = .ok (.getfield 18, 3) := by decide +kernel
theorem dX2_hasEvent_60 : decode cX2_hasEvent 60 = .ok (.if_icmp .ge 7, 3) := by decide +kernel
theorem dX2_hasEvent_63 : decode cX2_hasEvent 63 = .ok (.iconst 1, 1) := by decide +kernel
theorem dX2_hasEvent_64 : decode cX2_hasEvent 64 = .ok (.goto 4, 3) := by decide +kernel
theorem dX2_hasEvent_67 : decode cX2_hasEvent 67 = .ok (.iconst 0, 1) := by decide +kernel
theorem dX2_hasEvent_68 : decode cX2_hasEvent 68 = .ok (.ireturn, 1) := by decide +kernel
theorem dX2_hasEvent_69 : decode cX2_hasEvent 69 = .ok (.iload_n 2, 1) := by decide +kernel
theorem dX2_hasEvent_70 : decode cX2_hasEvent 70 = .ok (.ifCond .ne 7, 3) := by decide +kernel
theorem dX2_hasEvent_73 : decode cX2_hasEvent 73 = .ok (.iconst 1, 1) := by decide +kernel
theorem dX2_hasEvent_74 : decode cX2_hasEvent 74 = .ok (.goto 4, 3) := by decide +kernel
theorem dX2_hasEvent_77 : decode cX2_hasEvent 77 = .ok (.iconst 0, 1) := by decide +kernel
theorem dX2_hasEvent_78 : decode cX2_hasEvent 78 = .ok (.ireturn, 1) := by decide +kernel
theorem dX2_hasEvent_79 : decode cX2_hasEvent 79 = .ok (.iconst 0, 1) := by decide +kernel
theorem dX2_hasEvent_80 : decode cX2_hasEvent 80 = .ok (.ireturn, 1) := by decide +kernel
theorem dX3_init_0 : decode cX3_init 0 = .ok (.aload_n 0, 1) := by decide +kernel
theorem dX3_init_1 : decode cX3_init 1 = .ok (.invokespecial 3, 3) := by decide +kernel
theorem dX3_init_4 : decode cX3_init 4 = .ok (.aload_n 0, 1) := by decide +kernel
theorem dX3_init_5 : decode cX3_init 5 = .ok (.aload_n 1, 1) := by decide +kernel
theorem dX3_init_6 : decode cX3_init 6 = .ok (.putfield 9, 3) := by decide +kernel
theorem dX3_init_9 : decode cX3_init 9 = .ok (.aload_n 0, 1) := by decide +kernel
theorem dX3_init_10 : decode cX3_init 10 = .ok (.aload_n 2, 1) := by decide +kernel
theorem dX3_init_11 : decode cX3_init 11 = .ok (.putfield 15, 3) := by decide +kernel
theorem dX3_init_14 : decode cX3_init 14 = .ok (.aload_n 0, 1) := by decide +kernel
theorem dX3_init_15 : decode cX3_init 15 = .ok (.iload_n 3, 1) := by decide +kernel
theorem dX3_init_16 : decode cX3_init 16 = .ok (.putfield 19, 3) := by decide +kernel
theorem dX3_init_19 : decode cX3_init 19 = .ok (.aload_n 0, 1) := by decide +kernel
theorem dX3_init_20 : decode cX3_init 20 = .ok (.bipush 16, 2) := by decide +kernel
theorem dX3_init_22 : decode cX3_init 22 = .ok (.anewarray 23, 3) := by decide +kernel
theorem dX3_init_25 : decode cX3_init 25 = .ok (.putfield 25, 3) := by decide +kernel
theorem dX3_init_28 : decode cX3_init 28 = .ok (.return_, 1) := by decide +kernel
theorem dX3_add_0 : decode cX3_add 0 = .ok (.aload_n 0, 1) := by decide +kernel
theorem dX3_add_1 : decode cX3_add 1 = .ok (.getfield 29, 3) := by decide +kernel
theorem dX3_add_4 : decode cX3_add 4 = .ok (.bipush 16, 2) := by decide +kernel
theorem dX3_add_6 : decode cX3_add 6 = .ok (.if_icmp .ge 30, 3) := by decide +kernel
theorem dX3_add_9 : decode cX3_add 9 = .ok (.aload_n 0, 1) := by decide +kernel
theorem dX3_add_10 : decode cX3_add 10 = .ok (.getfield 25, 3) := by decide +kernel
theorem dX3_add_13 : decode cX3_add 13 = .ok (.aload_n 0, 1) := by decide +kernel
theorem dX3_add_14 : decode cX3_add 14 = .ok (.getfield 29, 3) := by decide +kernel
theorem dX3_add_17 : decode cX3_add 17 = .ok (.new 23, 3) := by decide +kernel
theorem dX3_add_20 : decode cX3_add 20 = .ok (.dup, 1) := by decide +kernel
theorem dX3_add_21 : decode cX3_add 21 = .ok (.iload_n 1, 1) := by decide +kernel
theorem dX3_add_22 : decode cX3_add 22 = .ok (.invokespecial 32, 3) := by decide +kernel
theorem dX3_add_25 : decode cX3_add 25 = .ok (.aastore, 1) := by decide +kernel
theorem dX3_add_26 : decode cX3_add 26 = .ok (.aload_n 0, 1) := by decide +kernel
theorem dX3_add_27 : decode cX3_add 27 = .ok (.dup, 1) := by decide +kernel
theorem dX3_add_28 : decode cX3_add 28 = .ok (.getfield 29, 3) := by decide +kernel
theorem dX3_add_31 : decode cX3_add 31 = .ok (.iconst 1, 1) := by decide +kernel
theorem dX3_add_32 : decode cX3_add 32 = .ok (.iadd, 1) := by decide +kernel
theorem dX3_add_33 : decode cX3_add 33 = .ok (.putfield 29, 3) := by decide +kernel
theorem dX3_add_36 : decode cX3_add 36 = .ok (.return_, 1) := by decide +kernel
theorem dX3_entryOf_0 : decode cX3_entryOf 0 = .ok (.iconst 0, 1) := by decide +kernel
theorem dX3_entryOf_1 : decode cX3_entryOf 1 = .ok (.istore_n 2, 1) := by decide +kernel
theorem dX3_entryOf_2 : decode cX3_entryOf 2 = .ok (.iload_n 2, 1) := by decide +kernel
theorem dX3_entryOf_3 : decode cX3_entryOf 3 = .ok (.aload_n 0, 1) := by decide +kernel
theorem dX3_entryOf_4 : decode cX3_entryOf 4 = .ok (.getfield 29, 3) := by decide +kernel
theorem dX3_entryOf_7 : decode cX3_entryOf 7 = .ok (.if_icmp .ge 29, 3) := by decide +kernel
theorem dX3_entryOf_10 : decode cX3_entryOf 10 = .ok (.aload_n 0, 1) := by decide +kernel
theorem dX3_entryOf_11 : decode cX3_entryOf 11 = .ok (.getfield 25, 3) := by decide +kernel
theorem dX3_entryOf_14 : decode cX3_entryOf 14 = .ok (.iload_n 2, 1) := by decide +kernel
theorem dX3_entryOf_15 : decode cX3_entryOf 15 = .ok (.aaload, 1) := by decide +kernel
theorem dX3_entryOf_16 : decode cX3_entryOf 16 = .ok (.getfield 35, 3) := by decide +kernel
theorem dX3_entryOf_19 : decode cX3_entryOf 19 = .ok (.iload_n 1, 1) := by decide +kernel
theorem dX3_entryOf_20 : decode cX3_entryOf 20 = .ok (.if_icmp .ne 10, 3) := by decide +kernel
theorem dX3_entryOf_23 : decode cX3_entryOf 23 = .ok (.aload_n 0, 1) := by decide +kernel
theorem dX3_entryOf_24 : decode cX3_entryOf 24 = .ok (.getfield 25, 3) := by decide +kernel
theorem dX3_entryOf_27 : decode cX3_entryOf 27 = .ok (.iload_n 2, 1) := by decide +kernel
theorem dX3_entryOf_28 : decode cX3_entryOf 28 = .ok (.aaload, 1) := by decide +kernel
theorem dX3_entryOf_29 : decode cX3_entryOf 29 = .ok (.areturn, 1) := by decide +kernel
theorem dX3_entryOf_30 : decode cX3_entryOf 30 = .ok (.iinc 2 1, 3) := by decide +kernel
theorem dX3_entryOf_33 : decode cX3_entryOf 33 = .ok (.goto (-31), 3) := by decide +kernel
theorem dX3_entryOf_36 : decode cX3_entryOf 36 = .ok (.aconst_null, 1) := by decide +kernel
theorem dX3_entryOf_37 : decode cX3_entryOf 37 = .ok (.areturn, 1) := by decide +kernel
theorem dX3_workOut_0 : decode cX3_workOut 0 = .ok (.aload_n 0, 1) := by decide +kernel
theorem dX3_workOut_1 : decode cX3_workOut 1 = .ok (.iconst (-1), 1) := by decide +kernel
theorem dX3_workOut_2 : decode cX3_workOut 2 = .ok (.putfield 38, 3) := by decide +kernel
theorem dX3_workOut_5 : decode cX3_workOut 5 = .ok (.iconst 0, 1) := by decide +kernel
theorem dX3_workOut_6 : decode cX3_workOut 6 = .ok (.istore_n 2, 1) := by decide +kernel
theorem dX3_workOut_7 : decode cX3_workOut 7 = .ok (.iload_n 2, 1) := by decide +kernel
theorem dX3_workOut_8 : decode cX3_workOut 8 = .ok (.aload_n 0, 1) := by decide +kernel
theorem dX3_workOut_9 : decode cX3_workOut 9 = .ok (.getfield 29, 3) := by decide +kernel
theorem dX3_workOut_12 : decode cX3_workOut 12 = .ok (.if_icmp .ge 64, 3) := by decide +kernel
theorem dX3_workOut_15 : decode cX3_workOut 15 = .ok (.aload_n 0, 1) := by decide +kernel
theorem dX3_workOut_16 : decode cX3_workOut 16 = .ok (.getfield 25, 3) := by decide +kernel
theorem dX3_workOut_19 : decode cX3_workOut 19 = .ok (.iload_n 2, 1) := by decide +kernel
theorem dX3_workOut_20 : decode cX3_workOut 20 = .ok (.aaload, 1) := by decide +kernel
theorem dX3_workOut_21 : decode cX3_workOut 21 = .ok (.astore_n 3, 1) := by decide +kernel
theorem dX3_workOut_22 : decode cX3_workOut 22 = .ok (.aload_n 3, 1) := by decide +kernel
theorem dX3_workOut_23 : decode cX3_workOut 23 = .ok (.aload_n 0, 1) := by decide +kernel
theorem dX3_workOut_24 : decode cX3_workOut 24 = .ok (.getfield 9, 3) := by decide +kernel
theorem dX3_workOut_27 : decode cX3_workOut 27 = .ok (.aload_n 0, 1) := by decide +kernel
theorem dX3_workOut_28 : decode cX3_workOut 28 = .ok (.iload_n 2, 1) := by decide +kernel
theorem dX3_workOut_29 : decode cX3_workOut 29 = .ok (.invokevirtual 41, 3) := by decide +kernel
theorem dX3_workOut_32 : decode cX3_workOut 32 = .ok (.iload_n 1, 1) := by decide +kernel
theorem dX3_workOut_33 : decode cX3_workOut 33 = .ok (.invokevirtual 45, 3) := by decide +kernel
theorem dX3_workOut_36 : decode cX3_workOut 36 = .ok (.aload_n 3, 1) := by decide +kernel
theorem dX3_workOut_37 : decode cX3_workOut 37 = .ok (.invokevirtual 49, 3) := by decide +kernel
theorem dX3_workOut_40 : decode cX3_workOut 40 = .ok (.ifCond .eq 30, 3) := by decide +kernel
theorem dX3_workOut_43 : decode cX3_workOut 43 = .ok (.aload_n 0, 1) := by decide +kernel
theorem dX3_workOut_44 : decode cX3_workOut 44 = .ok (.getfield 38, 3) := by decide +kernel
theorem dX3_workOut_47 : decode cX3_workOut 47 = .ok (.iconst (-1), 1) := by decide +kernel
theorem dX3_workOut_48 : decode cX3_workOut 48 = .ok (.if_icmp .eq 14, 3) := by decide +kernel
theorem dX3_workOut_51 : decode cX3_workOut 51 = .ok (.aload_n 3, 1) := by decide +kernel
theorem dX3_workOut_52 : decode cX3_workOut 52 = .ok (.getfield 53, 3) := by decide +kernel
theorem dX3_workOut_55 : decode cX3_workOut 55 = .ok (.aload_n 0, 1) := by decide +kernel
theorem dX3_workOut_56 : decode cX3_workOut 56 = .ok (.getfield 38, 3) := by decide +kernel
theorem dX3_workOut_59 : decode cX3_workOut 59 = .ok (.if_icmp .ge 11, 3) := by decide +kernel
theorem dX3_workOut_62 : decode cX3_workOut 62 = .ok (.aload_n 0, 1) := by decide +kernel
theorem dX3_workOut_63 : decode cX3_workOut 63 = .ok (.aload_n 3, 1) := by decide +kernel
theorem dX3_workOut_64 : decode cX3_workOut 64 = .ok (.getfield 53, 3) := by decide +kernel
theorem dX3_workOut_67 : decode cX3_workOut 67 = .ok (.putfield 38, 3) := by decide +kernel
theorem dX3_workOut_70 : decode cX3_workOut 70 = .ok (.iinc 2 1, 3) := by decide +kernel
theorem dX3_workOut_73 : decode cX3_workOut 73 = .ok (.goto (-66), 3) := by decide +kernel
theorem dX3_workOut_76 : decode cX3_workOut 76 = .ok (.return_, 1) := by decide +kernel
theorem dX3_startOf_0 : decode cX3_startOf 0 = .ok (.aload_n 0, 1) := by decide +kernel
theorem dX3_startOf_1 : decode cX3_startOf 1 = .ok (.getfield 9, 3) := by decide +kernel
theorem dX3_startOf_4 : decode cX3_startOf 4 = .ok (.getfield 56, 3) := by decide +kernel
theorem dX3_startOf_7 : decode cX3_startOf 7 = .ok (.lookupswitch 40 #[(0, 25), (1, 27)], 25) := by decide +kernel
theorem dX3_startOf_32 : decode cX3_startOf 32 = .ok (.iconst 0, 1) := by decide +kernel
theorem dX3_startOf_33 : decode cX3_startOf 33 = .ok (.ireturn, 1) := by decide +kernel
theorem dX3_startOf_34 : decode cX3_startOf 34 = .ok (.aload_n 0, 1) := by decide +kernel
theorem dX3_startOf_35 : decode cX3_startOf 35 = .ok (.getfield 9, 3) := by decide +kernel
theorem dX3_startOf_38 : decode cX3_startOf 38 = .ok (.getfield 61, 3) := by decide +kernel
theorem dX3_startOf_41 : decode cX3_startOf 41 = .ok (.bipush 10, 2) := by decide +kernel
theorem dX3_startOf_43 : decode cX3_startOf 43 = .ok (.imul, 1) := by decide +kernel
theorem dX3_startOf_44 : decode cX3_startOf 44 = .ok (.iload_n 1, 1) := by decide +kernel
theorem dX3_startOf_45 : decode cX3_startOf 45 = .ok (.imul, 1) := by decide +kernel
theorem dX3_startOf_46 : decode cX3_startOf 46 = .ok (.ireturn, 1) := by decide +kernel
theorem dX3_startOf_47 : decode cX3_startOf 47 = .ok (.aload_n 0, 1) := by decide +kernel
theorem dX3_startOf_48 : decode cX3_startOf 48 = .ok (.aload_n 0, 1) := by decide +kernel
theorem dX3_startOf_49 : decode cX3_startOf 49 = .ok (.getfield 25, 3) := by decide +kernel
theorem dX3_startOf_52 : decode cX3_startOf 52 = .ok (.iload_n 1, 1) := by decide +kernel
theorem dX3_startOf_53 : decode cX3_startOf 53 = .ok (.aaload, 1) := by decide +kernel
theorem dX3_startOf_54 : decode cX3_startOf 54 = .ok (.getfield 35, 3) := by decide +kernel
theorem dX3_startOf_57 : decode cX3_startOf 57 = .ok (.invokevirtual 64, 3) := by decide +kernel
theorem dX3_startOf_60 : decode cX3_startOf 60 = .ok (.ireturn, 1) := by decide +kernel
theorem dX3_chaseStart_0 : decode cX3_chaseStart 0 = .ok (.aload_n 0, 1) := by decide +kernel
theorem dX3_chaseStart_1 : decode cX3_chaseStart 1 = .ok (.getfield 15, 3) := by decide +kernel
theorem dX3_chaseStart_4 : decode cX3_chaseStart 4 = .ok (.ifnonnull 7, 3) := by decide +kernel
theorem dX3_chaseStart_7 : decode cX3_chaseStart 7 = .ok (.aconst_null, 1) := by decide +kernel
theorem dX3_chaseStart_8 : decode cX3_chaseStart 8 = .ok (.goto 11, 3) := by decide +kernel
theorem dX3_chaseStart_11 : decode cX3_chaseStart 11 = .ok (.aload_n 0, 1) := by decide +kernel
theorem dX3_chaseStart_12 : decode cX3_chaseStart 12 = .ok (.getfield 15, 3) := by decide +kernel
theorem dX3_chaseStart_15 : decode cX3_chaseStart 15 = .ok (.iload_n 1, 1) := by decide +kernel
theorem dX3_chaseStart_16 : decode cX3_chaseStart 16 = .ok (.invokevirtual 67, 3) := by decide +kernel
theorem dX3_chaseStart_19 : decode cX3_chaseStart 19 = .ok (.astore_n 2, 1) := by decide +kernel
theorem dX3_chaseStart_20 : decode cX3_chaseStart 20 = .ok (.aload_n 2, 1) := by decide +kernel
theorem dX3_chaseStart_21 : decode cX3_chaseStart 21 = .ok (.ifnull 10, 3) := by decide +kernel
theorem dX3_chaseStart_24 : decode cX3_chaseStart 24 = .ok (.aload_n 2, 1) := by decide +kernel
theorem dX3_chaseStart_25 : decode cX3_chaseStart 25 = .ok (.invokevirtual 49, 3) := by decide +kernel
theorem dX3_chaseStart_28 : decode cX3_chaseStart 28 = .ok (.ifCond .ne 5, 3) := by decide +kernel
theorem dX3_chaseStart_31 : decode cX3_chaseStart 31 = .ok (.iconst (-1), 1) := by decide +kernel
theorem dX3_chaseStart_32 : decode cX3_chaseStart 32 = .ok (.ireturn, 1) := by decide +kernel
theorem dX3_chaseStart_33 : decode cX3_chaseStart 33 = .ok (.aload_n 2, 1) := by decide +kernel
theorem dX3_chaseStart_34 : decode cX3_chaseStart 34 = .ok (.getfield 53, 3) := by decide +kernel
theorem dX3_chaseStart_37 : decode cX3_chaseStart 37 = .ok (.aload_n 0, 1) := by decide +kernel
theorem dX3_chaseStart_38 : decode cX3_chaseStart 38 = .ok (.getfield 15, 3) := by decide +kernel
theorem dX3_chaseStart_41 : decode cX3_chaseStart 41 = .ok (.getfield 38, 3) := by decide +kernel
theorem dX3_chaseStart_44 : decode cX3_chaseStart 44 = .ok (.isub, 1) := by decide +kernel
theorem dX3_chaseStart_45 : decode cX3_chaseStart 45 = .ok (.bipush 10, 2) := by decide +kernel
theorem dX3_chaseStart_47 : decode cX3_chaseStart 47 = .ok (.idiv, 1) := by decide +kernel
theorem dX3_chaseStart_48 : decode cX3_chaseStart 48 = .ok (.istore_n 3, 1) := by decide +kernel
theorem dX3_chaseStart_49 : decode cX3_chaseStart 49 = .ok (.iload_n 3, 1) := by decide +kernel
theorem dX3_chaseStart_50 : decode cX3_chaseStart 50 = .ok (.aload_n 0, 1) := by decide +kernel
theorem dX3_chaseStart_51 : decode cX3_chaseStart 51 = .ok (.getfield 9, 3) := by decide +kernel
theorem dX3_chaseStart_54 : decode cX3_chaseStart 54 = .ok (.getfield 61, 3) := by decide +kernel
theorem dX3_chaseStart_57 : decode cX3_chaseStart 57 = .ok (.invokestatic 71, 3) := by decide +kernel
theorem dX3_chaseStart_60 : decode cX3_chaseStart 60 = .ok (.bipush 10, 2) := by decide +kernel
theorem dX3_chaseStart_62 : decode cX3_chaseStart 62 = .ok (.imul, 1) := by decide +kernel
theorem dX3_chaseStart_63 : decode cX3_chaseStart 63 = .ok (.ireturn, 1) := by decide +kernel
theorem dX3_firstPlace_0 : decode cX3_firstPlace 0 = .ok (.aload_n 1, 1) := by decide +kernel
theorem dX3_firstPlace_1 : decode cX3_firstPlace 1 = .ok (.invokevirtual 49, 3) := by decide +kernel
theorem dX3_firstPlace_4 : decode cX3_firstPlace 4 = .ok (.ifCond .ne 5, 3) := by decide +kernel
theorem dX3_firstPlace_7 : decode cX3_firstPlace 7 = .ok (.iconst (-1), 1) := by decide +kernel
theorem dX3_firstPlace_8 : decode cX3_firstPlace 8 = .ok (.ireturn, 1) := by decide +kernel
theorem dX3_firstPlace_9 : decode cX3_firstPlace 9 = .ok (.iconst 1, 1) := by decide +kernel
theorem dX3_firstPlace_10 : decode cX3_firstPlace 10 = .ok (.istore_n 2, 1) := by decide +kernel
theorem dX3_firstPlace_11 : decode cX3_firstPlace 11 = .ok (.iconst 0, 1) := by decide +kernel
theorem dX3_firstPlace_12 : decode cX3_firstPlace 12 = .ok (.istore_n 3, 1) := by decide +kernel
theorem dX3_firstPlace_13 : decode cX3_firstPlace 13 = .ok (.iload_n 3, 1) := by decide +kernel
theorem dX3_firstPlace_14 : decode cX3_firstPlace 14 = .ok (.aload_n 0, 1) := by decide +kernel
theorem dX3_firstPlace_15 : decode cX3_firstPlace 15 = .ok (.getfield 29, 3) := by decide +kernel
theorem dX3_firstPlace_18 : decode cX3_firstPlace 18 = .ok (.if_icmp .ge 46, 3) := by decide +kernel
theorem dX3_firstPlace_21 : decode cX3_firstPlace 21 = .ok (.aload_n 0, 1) := by decide +kernel
theorem dX3_firstPlace_22 : decode cX3_firstPlace 22 = .ok (.getfield 25, 3) := by decide +kernel
theorem dX3_firstPlace_25 : decode cX3_firstPlace 25 = .ok (.iload_n 3, 1) := by decide +kernel
theorem dX3_firstPlace_26 : decode cX3_firstPlace 26 = .ok (.aaload, 1) := by decide +kernel
theorem dX3_firstPlace_27 : decode cX3_firstPlace 27 = .ok (.astore 4, 2) := by decide +kernel
theorem dX3_firstPlace_29 : decode cX3_firstPlace 29 = .ok (.aload 4, 2) := by decide +kernel
theorem dX3_firstPlace_31 : decode cX3_firstPlace 31 = .ok (.aload_n 1, 1) := by decide +kernel
theorem dX3_firstPlace_32 : decode cX3_firstPlace 32 = .ok (.if_acmp .eq 26, 3) := by decide +kernel
theorem dX3_firstPlace_35 : decode cX3_firstPlace 35 = .ok (.aload 4, 2) := by decide +kernel
theorem dX3_firstPlace_37 : decode cX3_firstPlace 37 = .ok (.invokevirtual 49, 3) := by decide +kernel
theorem dX3_firstPlace_40 : decode cX3_firstPlace 40 = .ok (.ifCond .eq 18, 3) := by decide +kernel
theorem dX3_firstPlace_43 : decode cX3_firstPlace 43 = .ok (.aload 4, 2) := by decide +kernel
theorem dX3_firstPlace_45 : decode cX3_firstPlace 45 = .ok (.getfield 77, 3) := by decide +kernel
theorem dX3_firstPlace_48 : decode cX3_firstPlace 48 = .ok (.aload_n 1, 1) := by decide +kernel
theorem dX3_firstPlace_49 : decode cX3_firstPlace 49 = .ok (.getfield 53, 3) := by decide +kernel
theorem dX3_firstPlace_52 : decode cX3_firstPlace 52 = .ok (.if_icmp .ge 6, 3) := by decide +kernel
theorem dX3_firstPlace_55 : decode cX3_firstPlace 55 = .ok (.iinc 2 1, 3) := by decide +kernel
theorem dX3_firstPlace_58 : decode cX3_firstPlace 58 = .ok (.iinc 3 1, 3) := by decide +kernel
theorem dX3_firstPlace_61 : decode cX3_firstPlace 61 = .ok (.goto (-48), 3) := by decide +kernel
theorem dX3_firstPlace_64 : decode cX3_firstPlace 64 = .ok (.iload_n 2, 1) := by decide +kernel
theorem dX3_firstPlace_65 : decode cX3_firstPlace 65 = .ok (.ireturn, 1) := by decide +kernel
theorem dX3_lastPlace_0 : decode cX3_lastPlace 0 = .ok (.aload_n 1, 1) := by decide +kernel
theorem dX3_lastPlace_1 : decode cX3_lastPlace 1 = .ok (.invokevirtual 49, 3) := by decide +kernel
theorem dX3_lastPlace_4 : decode cX3_lastPlace 4 = .ok (.ifCond .ne 5, 3) := by decide +kernel
theorem dX3_lastPlace_7 : decode cX3_lastPlace 7 = .ok (.iconst (-1), 1) := by decide +kernel
theorem dX3_lastPlace_8 : decode cX3_lastPlace 8 = .ok (.ireturn, 1) := by decide +kernel
theorem dX3_lastPlace_9 : decode cX3_lastPlace 9 = .ok (.iconst 1, 1) := by decide +kernel
theorem dX3_lastPlace_10 : decode cX3_lastPlace 10 = .ok (.istore_n 2, 1) := by decide +kernel
theorem dX3_lastPlace_11 : decode cX3_lastPlace 11 = .ok (.iconst 0, 1) := by decide +kernel
theorem dX3_lastPlace_12 : decode cX3_lastPlace 12 = .ok (.istore_n 3, 1) := by decide +kernel
theorem dX3_lastPlace_13 : decode cX3_lastPlace 13 = .ok (.iload_n 3, 1) := by decide +kernel
theorem dX3_lastPlace_14 : decode cX3_lastPlace 14 = .ok (.aload_n 0, 1) := by decide +kernel
theorem dX3_lastPlace_15 : decode cX3_lastPlace 15 = .ok (.getfield 29, 3) := by decide +kernel
theorem dX3_lastPlace_18 : decode cX3_lastPlace 18 = .ok (.if_icmp .ge 46, 3) := by decide +kernel
theorem dX3_lastPlace_21 : decode cX3_lastPlace 21 = .ok (.aload_n 0, 1) := by decide +kernel
theorem dX3_lastPlace_22 : decode cX3_lastPlace 22 = .ok (.getfield 25, 3) := by decide +kernel
theorem dX3_lastPlace_25 : decode cX3_lastPlace 25 = .ok (.iload_n 3, 1) := by decide +kernel
theorem dX3_lastPlace_26 : decode cX3_lastPlace 26 = .ok (.aaload, 1) := by decide +kernel
theorem dX3_lastPlace_27 : decode cX3_lastPlace 27 = .ok (.astore 4, 2) := by decide +kernel
theorem dX3_lastPlace_29 : decode cX3_lastPlace 29 = .ok (.aload 4, 2) := by decide +kernel
theorem dX3_lastPlace_31 : decode cX3_lastPlace 31 = .ok (.aload_n 1, 1) := by decide +kernel
theorem dX3_lastPlace_32 : decode cX3_lastPlace 32 = .ok (.if_acmp .eq 26, 3) := by decide +kernel
theorem dX3_lastPlace_35 : decode cX3_lastPlace 35 = .ok (.aload 4, 2) := by decide +kernel
theorem dX3_lastPlace_37 : decode cX3_lastPlace 37 = .ok (.invokevirtual 49, 3) := by decide +kernel
theorem dX3_lastPlace_40 : decode cX3_lastPlace 40 = .ok (.ifCond .eq 18, 3) := by decide +kernel
theorem dX3_lastPlace_43 : decode cX3_lastPlace 43 = .ok (.aload 4, 2) := by decide +kernel
theorem dX3_lastPlace_45 : decode cX3_lastPlace 45 = .ok (.getfield 53, 3) := by decide +kernel
theorem dX3_lastPlace_48 : decode cX3_lastPlace 48 = .ok (.aload_n 1, 1) := by decide +kernel
theorem dX3_lastPlace_49 : decode cX3_lastPlace 49 = .ok (.getfield 77, 3) := by decide +kernel
theorem dX3_lastPlace_52 : decode cX3_lastPlace 52 = .ok (.if_icmp .ge 6, 3) := by decide +kernel
theorem dX3_lastPlace_55 : decode cX3_lastPlace 55 = .ok (.iinc 2 1, 3) := by decide +kernel
theorem dX3_lastPlace_58 : decode cX3_lastPlace 58 = .ok (.iinc 3 1, 3) := by decide +kernel
theorem dX3_lastPlace_61 : decode cX3_lastPlace 61 = .ok (.goto (-48), 3) := by decide +kernel
theorem dX3_lastPlace_64 : decode cX3_lastPlace 64 = .ok (.iload_n 2, 1) := by decide +kernel
theorem dX3_lastPlace_65 : decode cX3_lastPlace 65 = .ok (.ireturn, 1) := by decide +kernel
theorem dX3_aheadInOrder_0 : decode cX3_aheadInOrder 0 = .ok (.iconst 0, 1) := by decide +kernel
theorem dX3_aheadInOrder_1 : decode cX3_aheadInOrder 1 = .ok (.istore_n 2, 1) := by decide +kernel
theorem dX3_aheadInOrder_2 : decode cX3_aheadInOrder 2 = .ok (.iconst 0, 1) := by decide +kernel
theorem dX3_aheadInOrder_3 : decode cX3_aheadInOrder 3 = .ok (.istore_n 3, 1) := by decide +kernel
theorem dX3_aheadInOrder_4 : decode cX3_aheadInOrder 4 = .ok (.iload_n 3, 1) := by decide +kernel
theorem dX3_aheadInOrder_5 : decode cX3_aheadInOrder 5 = .ok (.aload_n 0, 1) := by decide +kernel
theorem dX3_aheadInOrder_6 : decode cX3_aheadInOrder 6 = .ok (.getfield 29, 3) := by decide +kernel
theorem dX3_aheadInOrder_9 : decode cX3_aheadInOrder 9 = .ok (.if_icmp .ge 62, 3) := by decide +kernel
theorem dX3_aheadInOrder_12 : decode cX3_aheadInOrder 12 = .ok (.aload_n 0, 1) := by decide +kernel
theorem dX3_aheadInOrder_13 : decode cX3_aheadInOrder 13 = .ok (.getfield 25, 3) := by decide +kernel
theorem dX3_aheadInOrder_16 : decode cX3_aheadInOrder 16 = .ok (.iload_n 3, 1) := by decide +kernel
theorem dX3_aheadInOrder_17 : decode cX3_aheadInOrder 17 = .ok (.aaload, 1) := by decide +kernel
theorem dX3_aheadInOrder_18 : decode cX3_aheadInOrder 18 = .ok (.getfield 53, 3) := by decide +kernel
theorem dX3_aheadInOrder_21 : decode cX3_aheadInOrder 21 = .ok (.istore 4, 2) := by decide +kernel
theorem dX3_aheadInOrder_23 : decode cX3_aheadInOrder 23 = .ok (.iload 4, 2) := by decide +kernel
theorem dX3_aheadInOrder_25 : decode cX3_aheadInOrder 25 = .ok (.iconst (-1), 1) := by decide +kernel
theorem dX3_aheadInOrder_26 : decode cX3_aheadInOrder 26 = .ok (.if_icmp .eq 39, 3) := by decide +kernel
theorem dX3_aheadInOrder_29 : decode cX3_aheadInOrder 29 = .ok (.iload 4, 2) := by decide +kernel
theorem dX3_aheadInOrder_31 : decode cX3_aheadInOrder 31 = .ok (.aload_n 0, 1) := by decide +kernel
theorem dX3_aheadInOrder_32 : decode cX3_aheadInOrder 32 = .ok (.getfield 25, 3) := by decide +kernel
theorem dX3_aheadInOrder_35 : decode cX3_aheadInOrder 35 = .ok (.iload_n 1, 1) := by decide +kernel
theorem dX3_aheadInOrder_36 : decode cX3_aheadInOrder 36 = .ok (.aaload, 1) := by decide +kernel
theorem dX3_aheadInOrder_37 : decode cX3_aheadInOrder 37 = .ok (.getfield 53, 3) := by decide +kernel
theorem dX3_aheadInOrder_40 : decode cX3_aheadInOrder 40 = .ok (.if_icmp .lt 22, 3) := by decide +kernel
theorem dX3_aheadInOrder_43 : decode cX3_aheadInOrder 43 = .ok (.iload 4, 2) := by decide +kernel
theorem dX3_aheadInOrder_45 : decode cX3_aheadInOrder 45 = .ok (.aload_n 0, 1) := by decide +kernel
theorem dX3_aheadInOrder_46 : decode cX3_aheadInOrder 46 = .ok (.getfield 25, 3) := by decide +kernel
theorem dX3_aheadInOrder_49 : decode cX3_aheadInOrder 49 = .ok (.iload_n 1, 1) := by decide +kernel
theorem dX3_aheadInOrder_50 : decode cX3_aheadInOrder 50 = .ok (.aaload, 1) := by decide +kernel
theorem dX3_aheadInOrder_51 : decode cX3_aheadInOrder 51 = .ok (.getfield 53, 3) := by decide +kernel
theorem dX3_aheadInOrder_54 : decode cX3_aheadInOrder 54 = .ok (.if_icmp .ne 11, 3) := by decide +kernel
theorem dX3_aheadInOrder_57 : decode cX3_aheadInOrder 57 = .ok (.iload_n 3, 1) := by decide +kernel
theorem dX3_aheadInOrder_58 : decode cX3_aheadInOrder 58 = .ok (.iload_n 1, 1) := by decide +kernel
theorem dX3_aheadInOrder_59 : decode cX3_aheadInOrder 59 = .ok (.if_icmp .ge 6, 3) := by decide +kernel
theorem dX3_aheadInOrder_62 : decode cX3_aheadInOrder 62 = .ok (.iinc 2 1, 3) := by decide +kernel
theorem dX3_aheadInOrder_65 : decode cX3_aheadInOrder 65 = .ok (.iinc 3 1, 3) := by decide +kernel
theorem dX3_aheadInOrder_68 : decode cX3_aheadInOrder 68 = .ok (.goto (-64), 3) := by decide +kernel
theorem dX3_aheadInOrder_71 : decode cX3_aheadInOrder 71 = .ok (.iload_n 2, 1) := by decide +kernel
theorem dX3_aheadInOrder_72 : decode cX3_aheadInOrder 72 = .ok (.ireturn, 1) := by decide +kernel
theorem dX4_init_0 : decode cX4_init 0 = .ok (.aload_n 0, 1) := by decide +kernel
theorem dX4_init_1 : decode cX4_init 1 = .ok (.invokespecial 3, 3) := by decide +kernel
theorem dX4_init_4 : decode cX4_init 4 = .ok (.aload_n 0, 1) := by decide +kernel
theorem dX4_init_5 : decode cX4_init 5 = .ok (.aload_n 1, 1) := by decide +kernel
theorem dX4_init_6 : decode cX4_init 6 = .ok (.putfield 9, 3) := by decide +kernel
theorem dX4_init_9 : decode cX4_init 9 = .ok (.aload_n 0, 1) := by decide +kernel
theorem dX4_init_10 : decode cX4_init 10 = .ok (.iload_n 2, 1) := by decide +kernel
theorem dX4_init_11 : decode cX4_init 11 = .ok (.aload_n 1, 1) := by decide +kernel
theorem dX4_init_12 : decode cX4_init 12 = .ok (.arraylength, 1) := by decide +kernel
theorem dX4_init_13 : decode cX4_init 13 = .ok (.invokestatic 15, 3) := by decide +kernel
theorem dX4_init_16 : decode cX4_init 16 = .ok (.putfield 21, 3) := by decide +kernel
theorem dX4_init_19 : decode cX4_init 19 = .ok (.aload_n 0, 1) := by decide +kernel
theorem dX4_init_20 : decode cX4_init 20 = .ok (.bipush 8, 2) := by decide +kernel
theorem dX4_init_22 : decode cX4_init 22 = .ok (.anewarray 25, 3) := by decide +kernel
theorem dX4_init_25 : decode cX4_init 25 = .ok (.putfield 27, 3) := by decide +kernel
theorem dX4_init_28 : decode cX4_init 28 = .ok (.aload_n 0, 1) := by decide +kernel
theorem dX4_init_29 : decode cX4_init 29 = .ok (.iconst (-1), 1) := by decide +kernel
theorem dX4_init_30 : decode cX4_init 30 = .ok (.putfield 31, 3) := by decide +kernel
theorem dX4_init_33 : decode cX4_init 33 = .ok (.return_, 1) := by decide +kernel
theorem dX4_readFormats_0 : decode cX4_readFormats 0 = .ok (.aload_n 0, 1) := by decide +kernel
theorem dX4_readFormats_1 : decode cX4_readFormats 1 = .ok (.invokevirtual 34, 3) := by decide +kernel
theorem dX4_readFormats_4 : decode cX4_readFormats 4 = .ok (.iconst 0, 1) := by decide +kernel
theorem dX4_readFormats_5 : decode cX4_readFormats 5 = .ok (.istore_n 1, 1) := by decide +kernel
theorem dX4_readFormats_6 : decode cX4_readFormats 6 = .ok (.iload_n 1, 1) := by decide +kernel
theorem dX4_readFormats_7 : decode cX4_readFormats 7 = .ok (.bipush 8, 2) := by decide +kernel
theorem dX4_readFormats_9 : decode cX4_readFormats 9 = .ok (.if_icmp .ge 25, 3) := by decide +kernel
theorem dX4_readFormats_12 : decode cX4_readFormats 12 = .ok (.aload_n 0, 1) := by decide +kernel
theorem dX4_readFormats_13 : decode cX4_readFormats 13 = .ok (.getfield 37, 3) := by decide +kernel
theorem dX4_readFormats_16 : decode cX4_readFormats 16 = .ok (.ifCond .eq 18, 3) := by decide +kernel
theorem dX4_readFormats_19 : decode cX4_readFormats 19 = .ok (.aload_n 0, 1) := by decide +kernel
theorem dX4_readFormats_20 : decode cX4_readFormats 20 = .ok (.invokevirtual 40, 3) := by decide +kernel
theorem dX4_readFormats_23 : decode cX4_readFormats 23 = .ok (.ifCond .ne 5, 3) := by decide +kernel
theorem dX4_readFormats_26 : decode cX4_readFormats 26 = .ok (.iconst 0, 1) := by decide +kernel
theorem dX4_readFormats_27 : decode cX4_readFormats 27 = .ok (.ireturn, 1) := by decide +kernel
theorem dX4_readFormats_28 : decode cX4_readFormats 28 = .ok (.iinc 1 1, 3) := by decide +kernel
theorem dX4_readFormats_31 : decode cX4_readFormats 31 = .ok (.goto (-25), 3) := by decide +kernel
theorem dX4_readFormats_34 : decode cX4_readFormats 34 = .ok (.aload_n 0, 1) := by decide +kernel
theorem dX4_readFormats_35 : decode cX4_readFormats 35 = .ok (.getfield 37, 3) := by decide +kernel
theorem dX4_readFormats_38 : decode cX4_readFormats 38 = .ok (.ifCond .eq 11, 3) := by decide +kernel
theorem dX4_readFormats_41 : decode cX4_readFormats 41 = .ok (.aload_n 0, 1) := by decide +kernel
theorem dX4_readFormats_42 : decode cX4_readFormats 42 = .ok (.iconst 1, 1) := by decide +kernel
theorem dX4_readFormats_43 : decode cX4_readFormats 43 = .ok (.invokevirtual 44, 3) := by decide +kernel
theorem dX4_readFormats_46 : decode cX4_readFormats 46 = .ok (.ifCond .eq 7, 3) := by decide +kernel
theorem dX4_readFormats_49 : decode cX4_readFormats 49 = .ok (.iconst 1, 1) := by decide +kernel
theorem dX4_readFormats_50 : decode cX4_readFormats 50 = .ok (.goto 4, 3) := by decide +kernel
theorem dX4_readFormats_53 : decode cX4_readFormats 53 = .ok (.iconst 0, 1) := by decide +kernel
theorem dX4_readFormats_54 : decode cX4_readFormats 54 = .ok (.ireturn, 1) := by decide +kernel
theorem dX4_readFormat_0 : decode cX4_readFormat 0 = .ok (.aload_n 0, 1) := by decide +kernel
theorem dX4_readFormat_1 : decode cX4_readFormat 1 = .ok (.ldc 48, 2) := by decide +kernel
theorem dX4_readFormat_3 : decode cX4_readFormat 3 = .ok (.invokevirtual 50, 3) := by decide +kernel
theorem dX4_readFormat_6 : decode cX4_readFormat 6 = .ok (.ifCond .ne 5, 3) := by decide +kernel
theorem dX4_readFormat_9 : decode cX4_readFormat 9 = .ok (.iconst 0, 1) := by decide +kernel
theorem dX4_readFormat_10 : decode cX4_readFormat 10 = .ok (.ireturn, 1) := by decide +kernel
theorem dX4_readFormat_11 : decode cX4_readFormat 11 = .ok (.aload_n 0, 1) := by decide +kernel
theorem dX4_readFormat_12 : decode cX4_readFormat 12 = .ok (.getfield 37, 3) := by decide +kernel
theorem dX4_readFormat_15 : decode cX4_readFormat 15 = .ok (.iconst 3, 1) := by decide +kernel
theorem dX4_readFormat_16 : decode cX4_readFormat 16 = .ok (.if_icmp .ne 18, 3) := by decide +kernel
theorem dX4_readFormat_19 : decode cX4_readFormat 19 = .ok (.aload_n 0, 1) := by decide +kernel
theorem dX4_readFormat_20 : decode cX4_readFormat 20 = .ok (.getfield 9, 3) := by decide +kernel
theorem dX4_readFormat_23 : decode cX4_readFormat 23 = .ok (.aload_n 0, 1) := by decide +kernel
theorem dX4_readFormat_24 : decode cX4_readFormat 24 = .ok (.getfield 54, 3) := by decide +kernel
theorem dX4_readFormat_27 : decode cX4_readFormat 27 = .ok (.baload, 1) := by decide +kernel
theorem dX4_readFormat_28 : decode cX4_readFormat 28 = .ok (.bipush 65, 2) := by decide +kernel
theorem dX4_readFormat_30 : decode cX4_readFormat 30 = .ok (.isub, 1) := by decide +kernel
theorem dX4_readFormat_31 : decode cX4_readFormat 31 = .ok (.goto 4, 3) := by decide +kernel
theorem dX4_readFormat_34 : decode cX4_readFormat 34 = .ok (.iconst (-1), 1) := by decide +kernel
theorem dX4_readFormat_35 : decode cX4_readFormat 35 = .ok (.istore_n 1, 1) := by decide +kernel
theorem dX4_readFormat_36 : decode cX4_readFormat 36 = .ok (.iload_n 1, 1) := by decide +kernel
theorem dX4_readFormat_37 : decode cX4_readFormat 37 = .ok (.ifCond .lt 9, 3) := by decide +kernel
theorem dX4_readFormat_40 : decode cX4_readFormat 40 = .ok (.iload_n 1, 1) := by decide +kernel
theorem dX4_readFormat_41 : decode cX4_readFormat 41 = .ok (.bipush 8, 2) := by decide +kernel
theorem dX4_readFormat_43 : decode cX4_readFormat 43 = .ok (.if_icmp .lt 9, 3) := by decide +kernel
theorem dX4_readFormat_46 : decode cX4_readFormat 46 = .ok (.aload_n 0, 1) := by decide +kernel
theorem dX4_readFormat_47 : decode cX4_readFormat 47 = .ok (.iconst 1, 1) := by decide +kernel
theorem dX4_readFormat_48 : decode cX4_readFormat 48 = .ok (.invokevirtual 44, 3) := by decide +kernel
theorem dX4_readFormat_51 : decode cX4_readFormat 51 = .ok (.ireturn, 1) := by decide +kernel
theorem dX4_readFormat_52 : decode cX4_readFormat 52 = .ok (.aload_n 0, 1) := by decide +kernel
theorem dX4_readFormat_53 : decode cX4_readFormat 53 = .ok (.getfield 27, 3) := by decide +kernel
theorem dX4_readFormat_56 : decode cX4_readFormat 56 = .ok (.iload_n 1, 1) := by decide +kernel
theorem dX4_readFormat_57 : decode cX4_readFormat 57 = .ok (.aaload, 1) := by decide +kernel
theorem dX4_readFormat_58 : decode cX4_readFormat 58 = .ok (.ifnull 9, 3) := by decide +kernel
theorem dX4_readFormat_61 : decode cX4_readFormat 61 = .ok (.aload_n 0, 1) := by decide +kernel
theorem dX4_readFormat_62 : decode cX4_readFormat 62 = .ok (.iconst 3, 1) := by decide +kernel
theorem dX4_readFormat_63 : decode cX4_readFormat 63 = .ok (.invokevirtual 44, 3) := by decide +kernel
theorem dX4_readFormat_66 : decode cX4_readFormat 66 = .ok (.ireturn, 1) := by decide +kernel
theorem dX4_readFormat_67 : decode cX4_readFormat 67 = .ok (.aload_n 0, 1) := by decide +kernel
theorem dX4_readFormat_68 : decode cX4_readFormat 68 = .ok (.invokevirtual 34, 3) := by decide +kernel
theorem dX4_readFormat_71 : decode cX4_readFormat 71 = .ok (.new 25, 3) := by decide +kernel
theorem dX4_readFormat_74 : decode cX4_readFormat 74 = .ok (.dup, 1) := by decide +kernel
theorem dX4_readFormat_75 : decode cX4_readFormat 75 = .ok (.iload_n 1, 1) := by decide +kernel
theorem dX4_readFormat_76 : decode cX4_readFormat 76 = .ok (.invokespecial 57, 3) := by decide +kernel
theorem dX4_readFormat_79 : decode cX4_readFormat 79 = .ok (.astore_n 2, 1) := by decide +kernel
theorem dX4_readFormat_80 : decode cX4_readFormat 80 = .ok (.aload_n 0, 1) := by decide +kernel
theorem dX4_readFormat_81 : decode cX4_readFormat 81 = .ok (.getfield 27, 3) := by decide +kernel
theorem dX4_readFormat_84 : decode cX4_readFormat 84 = .ok (.iload_n 1, 1) := by decide +kernel
theorem dX4_readFormat_85 : decode cX4_readFormat 85 = .ok (.aload_n 2, 1) := by decide +kernel
theorem dX4_readFormat_86 : decode cX4_readFormat 86 = .ok (.aastore, 1) := by decide +kernel
theorem dX4_readFormat_87 : decode cX4_readFormat 87 = .ok (.aload_n 0, 1) := by decide +kernel
theorem dX4_readFormat_88 : decode cX4_readFormat 88 = .ok (.dup, 1) := by decide +kernel
theorem dX4_readFormat_89 : decode cX4_readFormat 89 = .ok (.getfield 60, 3) := by decide +kernel
theorem dX4_readFormat_92 : decode cX4_readFormat 92 = .ok (.iconst 1, 1) := by decide +kernel
theorem dX4_readFormat_93 : decode cX4_readFormat 93 = .ok (.iadd, 1) := by decide +kernel
theorem dX4_readFormat_94 : decode cX4_readFormat 94 = .ok (.putfield 60, 3) := by decide +kernel
theorem dX4_readFormat_97 : decode cX4_readFormat 97 = .ok (.aload_n 0, 1) := by decide +kernel
theorem dX4_readFormat_98 : decode cX4_readFormat 98 = .ok (.bipush 123, 2) := by decide +kernel
theorem dX4_readFormat_100 : decode cX4_readFormat 100 = .ok (.invokevirtual 63, 3) := by decide +kernel
theorem dX4_readFormat_103 : decode cX4_readFormat 103 = .ok (.ifCond .eq 101, 3) := by decide +kernel
theorem dX4_readFormat_106 : decode cX4_readFormat 106 = .ok (.aload_n 0, 1) := by decide +kernel
theorem dX4_readFormat_107 : decode cX4_readFormat 107 = .ok (.aload_n 2, 1) := by decide +kernel
theorem dX4_readFormat_108 : decode cX4_readFormat 108 = .ok (.invokevirtual 67, 3) := by decide +kernel
theorem dX4_readFormat_111 : decode cX4_readFormat 111 = .ok (.ifCond .eq 93, 3) := by decide +kernel
theorem dX4_readFormat_114 : decode cX4_readFormat 114 = .ok (.aload_n 0, 1) := by decide +kernel
theorem dX4_readFormat_115 : decode cX4_readFormat 115 = .ok (.bipush 59, 2) := by decide +kernel
theorem dX4_readFormat_117 : decode cX4_readFormat 117 = .ok (.invokevirtual 63, 3) := by decide +kernel
theorem dX4_readFormat_120 : decode cX4_readFormat 120 = .ok (.ifCond .eq 84, 3) := by decide +kernel
theorem dX4_readFormat_123 : decode cX4_readFormat 123 = .ok (.aload_n 0, 1) := by decide +kernel
theorem dX4_readFormat_124 : decode cX4_readFormat 124 = .ok (.aload_n 2, 1) := by decide +kernel
theorem dX4_readFormat_125 : decode cX4_readFormat 125 = .ok (.invokevirtual 71, 3) := by decide +kernel
theorem dX4_readFormat_128 : decode cX4_readFormat 128 = .ok (.ifCond .eq 76, 3) := by decide +kernel
theorem dX4_readFormat_131 : decode cX4_readFormat 131 = .ok (.aload_n 0, 1) := by decide +kernel
theorem dX4_readFormat_132 : decode cX4_readFormat 132 = .ok (.bipush 59, 2) := by decide +kernel
theorem dX4_readFormat_134 : decode cX4_readFormat 134 = .ok (.invokevirtual 63, 3) := by decide +kernel
theorem dX4_readFormat_137 : decode cX4_readFormat 137 = .ok (.ifCond .eq 67, 3) := by decide +kernel
theorem dX4_readFormat_140 : decode cX4_readFormat 140 = .ok (.aload_n 0, 1) := by decide +kernel
theorem dX4_readFormat_141 : decode cX4_readFormat 141 = .ok (.aload_n 2, 1) := by decide +kernel
theorem dX4_readFormat_142 : decode cX4_readFormat 142 = .ok (.invokevirtual 74, 3) := by decide +kernel
theorem dX4_readFormat_145 : decode cX4_readFormat 145 = .ok (.ifCond .eq 59, 3) := by decide +kernel
theorem dX4_readFormat_148 : decode cX4_readFormat 148 = .ok (.aload_n 0, 1) := by decide +kernel
theorem dX4_readFormat_149 : decode cX4_readFormat 149 = .ok (.bipush 59, 2) := by decide +kernel
theorem dX4_readFormat_151 : decode cX4_readFormat 151 = .ok (.invokevirtual 63, 3) := by decide +kernel
theorem dX4_readFormat_154 : decode cX4_readFormat 154 = .ok (.ifCond .eq 50, 3) := by decide +kernel
theorem dX4_readFormat_157 : decode cX4_readFormat 157 = .ok (.aload_n 0, 1) := by decide +kernel
theorem dX4_readFormat_158 : decode cX4_readFormat 158 = .ok (.aload_n 2, 1) := by decide +kernel
theorem dX4_readFormat_159 : decode cX4_readFormat 159 = .ok (.invokevirtual 77, 3) := by decide +kernel
theorem dX4_readFormat_162 : decode cX4_readFormat 162 = .ok (.ifCond .eq 42, 3) := by decide +kernel
theorem dX4_readFormat_165 : decode cX4_readFormat 165 = .ok (.aload_n 0, 1) := by decide +kernel
theorem dX4_readFormat_166 : decode cX4_readFormat 166 = .ok (.bipush 59, 2) := by decide +kernel
theorem dX4_readFormat_168 : decode cX4_readFormat 168 = .ok (.invokevirtual 63, 3) := by decide +kernel
theorem dX4_readFormat_171 : decode cX4_readFormat 171 = .ok (.ifCond .eq 33, 3) := by decide +kernel
theorem dX4_readFormat_174 : decode cX4_readFormat 174 = .ok (.aload_n 0, 1) := by decide +kernel
theorem dX4_readFormat_175 : decode cX4_readFormat 175 = .ok (.aload_n 2, 1) := by decide +kernel
theorem dX4_readFormat_176 : decode cX4_readFormat 176 = .ok (.invokevirtual 80, 3) := by decide +kernel
theorem dX4_readFormat_179 : decode cX4_readFormat 179 = .ok (.ifCond .eq 25, 3) := by decide +kernel
theorem dX4_readFormat_182 : decode cX4_readFormat 182 = .ok (.aload_n 0, 1) := by decide +kernel
theorem dX4_readFormat_183 : decode cX4_readFormat 183 = .ok (.bipush 59, 2) := by decide +kernel
theorem dX4_readFormat_185 : decode cX4_readFormat 185 = .ok (.invokevirtual 63, 3) := by decide +kernel
theorem dX4_readFormat_188 : decode cX4_readFormat 188 = .ok (.ifCond .eq 16, 3) := by decide +kernel
theorem dX4_readFormat_191 : decode cX4_readFormat 191 = .ok (.aload_n 0, 1) := by decide +kernel
theorem dX4_readFormat_192 : decode cX4_readFormat 192 = .ok (.bipush 125, 2) := by decide +kernel
theorem dX4_readFormat_194 : decode cX4_readFormat 194 = .ok (.invokevirtual 63, 3) := by decide +kernel
theorem dX4_readFormat_197 : decode cX4_readFormat 197 = .ok (.ifCond .eq 7, 3) := by decide +kernel
theorem dX4_readFormat_200 : decode cX4_readFormat 200 = .ok (.iconst 1, 1) := by decide +kernel
theorem dX4_readFormat_201 : decode cX4_readFormat 201 = .ok (.goto 4, 3) := by decide +kernel
theorem dX4_readFormat_204 : decode cX4_readFormat 204 = .ok (.iconst 0, 1) := by decide +kernel
theorem dX4_readFormat_205 : decode cX4_readFormat 205 = .ok (.ireturn, 1) := by decide +kernel
theorem dX4_readLaps_0 : decode cX4_readLaps 0 = .ok (.aload_n 0, 1) := by decide +kernel
theorem dX4_readLaps_1 : decode cX4_readLaps 1 = .ok (.ldc 83, 2) := by decide +kernel
theorem dX4_readLaps_3 : decode cX4_readLaps 3 = .ok (.invokevirtual 50, 3) := by decide +kernel
