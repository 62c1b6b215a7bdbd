theorem dX5_tell_32 : decode cX5_tell 32 = .ok (.aload 7, 2) := by decide +kernel
theorem dX5_tell_34 : decode cX5_tell 34 = .ok (.ifnull 26, 3) := by decide +kernel
theorem dX5_tell_37 : decode cX5_tell 37 = .ok (.aload 6, 2) := by decide +kernel
theorem dX5_tell_39 : decode cX5_tell 39 = .ok (.getfield 112, 3) := by decide +kernel
theorem dX5_tell_42 : decode cX5_tell 42 = .ok (.iload_n 3, 1) := by decide +kernel
theorem dX5_tell_43 : decode cX5_tell 43 = .ok (.iload 4, 2) := by decide +kernel
theorem dX5_tell_45 : decode cX5_tell 45 = .ok (.invokevirtual 116, 3) := by decide +kernel
theorem dX5_tell_48 : decode cX5_tell 48 = .ok (.ifCond .eq 12, 3) := by decide +kernel
theorem dX5_tell_51 : decode cX5_tell 51 = .ok (.iload_n 3, 1) := by decide +kernel
theorem dX5_tell_52 : decode cX5_tell 52 = .ok (.iload 5, 2) := by decide +kernel
theorem dX5_tell_54 : decode cX5_tell 54 = .ok (.invokestatic 120, 3) := by decide +kernel
theorem dX5_tell_57 : decode cX5_tell 57 = .ok (.ifCond .ne 5, 3) := by decide +kernel
theorem dX5_tell_60 : decode cX5_tell 60 = .ok (.iconst (-1), 1) := by decide +kernel
theorem dX5_tell_61 : decode cX5_tell 61 = .ok (.ireturn, 1) := by decide +kernel
theorem dX5_tell_62 : decode cX5_tell 62 = .ok (.aload 7, 2) := by decide +kernel
theorem dX5_tell_64 : decode cX5_tell 64 = .ok (.new 123, 3) := by decide +kernel
theorem dX5_tell_67 : decode cX5_tell 67 = .ok (.dup, 1) := by decide +kernel
theorem dX5_tell_68 : decode cX5_tell 68 = .ok (.aload_n 0, 1) := by decide +kernel
theorem dX5_tell_69 : decode cX5_tell 69 = .ok (.getfield 70, 3) := by decide +kernel
theorem dX5_tell_72 : decode cX5_tell 72 = .ok (.iload_n 3, 1) := by decide +kernel
theorem dX5_tell_73 : decode cX5_tell 73 = .ok (.iload 4, 2) := by decide +kernel
theorem dX5_tell_75 : decode cX5_tell 75 = .ok (.iload 5, 2) := by decide +kernel
theorem dX5_tell_77 : decode cX5_tell 77 = .ok (.aload 7, 2) := by decide +kernel
theorem dX5_tell_79 : decode cX5_tell 79 = .ok (.getfield 125, 3) := by decide +kernel
theorem dX5_tell_82 : decode cX5_tell 82 = .ok (.invokespecial 131, 3) := by decide +kernel
theorem dX5_tell_85 : decode cX5_tell 85 = .ok (.putfield 125, 3) := by decide +kernel
theorem dX5_tell_88 : decode cX5_tell 88 = .ok (.aload 6, 2) := by decide +kernel
theorem dX5_tell_90 : decode cX5_tell 90 = .ok (.dup, 1) := by decide +kernel
theorem dX5_tell_91 : decode cX5_tell 91 = .ok (.getfield 96, 3) := by decide +kernel
theorem dX5_tell_94 : decode cX5_tell 94 = .ok (.iconst 1, 1) := by decide +kernel
theorem dX5_tell_95 : decode cX5_tell 95 = .ok (.iadd, 1) := by decide +kernel
theorem dX5_tell_96 : decode cX5_tell 96 = .ok (.putfield 96, 3) := by decide +kernel
theorem dX5_tell_99 : decode cX5_tell 99 = .ok (.aload_n 0, 1) := by decide +kernel
theorem dX5_tell_100 : decode cX5_tell 100 = .ok (.dup, 1) := by decide +kernel
theorem dX5_tell_101 : decode cX5_tell 101 = .ok (.getfield 109, 3) := by decide +kernel
theorem dX5_tell_104 : decode cX5_tell 104 = .ok (.iconst 1, 1) := by decide +kernel
theorem dX5_tell_105 : decode cX5_tell 105 = .ok (.iadd, 1) := by decide +kernel
theorem dX5_tell_106 : decode cX5_tell 106 = .ok (.putfield 109, 3) := by decide +kernel
theorem dX5_tell_109 : decode cX5_tell 109 = .ok (.aload_n 0, 1) := by decide +kernel
theorem dX5_tell_110 : decode cX5_tell 110 = .ok (.getfield 109, 3) := by decide +kernel
theorem dX5_tell_113 : decode cX5_tell 113 = .ok (.ireturn, 1) := by decide +kernel
theorem dX5_look_0 : decode cX5_look 0 = .ok (.aload_n 0, 1) := by decide +kernel
theorem dX5_look_1 : decode cX5_look 1 = .ok (.iload_n 1, 1) := by decide +kernel
theorem dX5_look_2 : decode cX5_look 2 = .ok (.invokevirtual 83, 3) := by decide +kernel
theorem dX5_look_5 : decode cX5_look 5 = .ok (.astore_n 3, 1) := by decide +kernel
theorem dX5_look_6 : decode cX5_look 6 = .ok (.aload_n 3, 1) := by decide +kernel
theorem dX5_look_7 : decode cX5_look 7 = .ok (.ifnonnull 13, 3) := by decide +kernel
theorem dX5_look_10 : decode cX5_look 10 = .ok (.new 134, 3) := by decide +kernel
theorem dX5_look_13 : decode cX5_look 13 = .ok (.dup, 1) := by decide +kernel
theorem dX5_look_14 : decode cX5_look 14 = .ok (.ldc 136, 2) := by decide +kernel
theorem dX5_look_16 : decode cX5_look 16 = .ok (.invokespecial 138, 3) := by decide +kernel
theorem dX5_look_19 : decode cX5_look 19 = .ok (.athrow, 1) := by decide +kernel
theorem dX5_look_20 : decode cX5_look 20 = .ok (.iload_n 2, 1) := by decide +kernel
theorem dX5_look_21 : decode cX5_look 21 = .ok (.tableswitch 90 0 6 #[43, 51, 59, 67, 75, 80, 85], 43) := by decide +kernel
theorem dX5_look_64 : decode cX5_look 64 = .ok (.aload_n 3, 1) := by decide +kernel
theorem dX5_look_65 : decode cX5_look 65 = .ok (.getfield 112, 3) := by decide +kernel
theorem dX5_look_68 : decode cX5_look 68 = .ok (.getfield 141, 3) := by decide +kernel
theorem dX5_look_71 : decode cX5_look 71 = .ok (.ireturn, 1) := by decide +kernel
theorem dX5_look_72 : decode cX5_look 72 = .ok (.aload_n 3, 1) := by decide +kernel
theorem dX5_look_73 : decode cX5_look 73 = .ok (.getfield 112, 3) := by decide +kernel
theorem dX5_look_76 : decode cX5_look 76 = .ok (.getfield 144, 3) := by decide +kernel
theorem dX5_look_79 : decode cX5_look 79 = .ok (.ireturn, 1) := by decide +kernel
theorem dX5_look_80 : decode cX5_look 80 = .ok (.aload_n 3, 1) := by decide +kernel
theorem dX5_look_81 : decode cX5_look 81 = .ok (.getfield 112, 3) := by decide +kernel
theorem dX5_look_84 : decode cX5_look 84 = .ok (.getfield 147, 3) := by decide +kernel
theorem dX5_look_87 : decode cX5_look 87 = .ok (.ireturn, 1) := by decide +kernel
theorem dX5_look_88 : decode cX5_look 88 = .ok (.aload_n 3, 1) := by decide +kernel
theorem dX5_look_89 : decode cX5_look 89 = .ok (.getfield 112, 3) := by decide +kernel
theorem dX5_look_92 : decode cX5_look 92 = .ok (.getfield 150, 3) := by decide +kernel
theorem dX5_look_95 : decode cX5_look 95 = .ok (.ireturn, 1) := by decide +kernel
theorem dX5_look_96 : decode cX5_look 96 = .ok (.aload_n 3, 1) := by decide +kernel
theorem dX5_look_97 : decode cX5_look 97 = .ok (.getfield 153, 3) := by decide +kernel
theorem dX5_look_100 : decode cX5_look 100 = .ok (.ireturn, 1) := by decide +kernel
theorem dX5_look_101 : decode cX5_look 101 = .ok (.aload_n 3, 1) := by decide +kernel
theorem dX5_look_102 : decode cX5_look 102 = .ok (.getfield 106, 3) := by decide +kernel
theorem dX5_look_105 : decode cX5_look 105 = .ok (.ireturn, 1) := by decide +kernel
theorem dX5_look_106 : decode cX5_look 106 = .ok (.aload_n 3, 1) := by decide +kernel
theorem dX5_look_107 : decode cX5_look 107 = .ok (.getfield 96, 3) := by decide +kernel
theorem dX5_look_110 : decode cX5_look 110 = .ok (.ireturn, 1) := by decide +kernel
theorem dX5_look_111 : decode cX5_look 111 = .ok (.new 156, 3) := by decide +kernel
theorem dX5_look_114 : decode cX5_look 114 = .ok (.dup, 1) := by decide +kernel
theorem dX5_look_115 : decode cX5_look 115 = .ok (.ldc 158, 2) := by decide +kernel
theorem dX5_look_117 : decode cX5_look 117 = .ok (.invokespecial 160, 3) := by decide +kernel
theorem dX5_look_120 : decode cX5_look 120 = .ok (.athrow, 1) := by decide +kernel
theorem dX5_entry_0 : decode cX5_entry 0 = .ok (.aload_n 0, 1) := by decide +kernel
theorem dX5_entry_1 : decode cX5_entry 1 = .ok (.iload_n 1, 1) := by decide +kernel
theorem dX5_entry_2 : decode cX5_entry 2 = .ok (.invokevirtual 83, 3) := by decide +kernel
theorem dX5_entry_5 : decode cX5_entry 5 = .ok (.astore_n 3, 1) := by decide +kernel
theorem dX5_entry_6 : decode cX5_entry 6 = .ok (.aload_n 3, 1) := by decide +kernel
theorem dX5_entry_7 : decode cX5_entry 7 = .ok (.ifnull 15, 3) := by decide +kernel
theorem dX5_entry_10 : decode cX5_entry 10 = .ok (.iload_n 2, 1) := by decide +kernel
theorem dX5_entry_11 : decode cX5_entry 11 = .ok (.ifCond .lt 11, 3) := by decide +kernel
theorem dX5_entry_14 : decode cX5_entry 14 = .ok (.iload_n 2, 1) := by decide +kernel
theorem dX5_entry_15 : decode cX5_entry 15 = .ok (.aload_n 3, 1) := by decide +kernel
theorem dX5_entry_16 : decode cX5_entry 16 = .ok (.getfield 106, 3) := by decide +kernel
theorem dX5_entry_19 : decode cX5_entry 19 = .ok (.if_icmp .lt 5, 3) := by decide +kernel
theorem dX5_entry_22 : decode cX5_entry 22 = .ok (.iconst (-1), 1) := by decide +kernel
theorem dX5_entry_23 : decode cX5_entry 23 = .ok (.ireturn, 1) := by decide +kernel
theorem dX5_entry_24 : decode cX5_entry 24 = .ok (.aload_n 3, 1) := by decide +kernel
theorem dX5_entry_25 : decode cX5_entry 25 = .ok (.getfield 161, 3) := by decide +kernel
theorem dX5_entry_28 : decode cX5_entry 28 = .ok (.iload_n 2, 1) := by decide +kernel
theorem dX5_entry_29 : decode cX5_entry 29 = .ok (.aaload, 1) := by decide +kernel
theorem dX5_entry_30 : decode cX5_entry 30 = .ok (.getfield 165, 3) := by decide +kernel
theorem dX5_entry_33 : decode cX5_entry 33 = .ok (.ireturn, 1) := by decide +kernel
theorem dX5_time_0 : decode cX5_time 0 = .ok (.aload_n 0, 1) := by decide +kernel
theorem dX5_time_1 : decode cX5_time 1 = .ok (.iload_n 1, 1) := by decide +kernel
theorem dX5_time_2 : decode cX5_time 2 = .ok (.invokevirtual 83, 3) := by decide +kernel
theorem dX5_time_5 : decode cX5_time 5 = .ok (.astore 5, 2) := by decide +kernel
theorem dX5_time_7 : decode cX5_time 7 = .ok (.aload 5, 2) := by decide +kernel
theorem dX5_time_9 : decode cX5_time 9 = .ok (.ifnull 11, 3) := by decide +kernel
theorem dX5_time_12 : decode cX5_time 12 = .ok (.aload_n 0, 1) := by decide +kernel
theorem dX5_time_13 : decode cX5_time 13 = .ok (.iload_n 3, 1) := by decide +kernel
theorem dX5_time_14 : decode cX5_time 14 = .ok (.invokevirtual 168, 3) := by decide +kernel
theorem dX5_time_17 : decode cX5_time 17 = .ok (.ifCond .ne 6, 3) := by decide +kernel
theorem dX5_time_20 : decode cX5_time 20 = .ok (.bipush (-2), 2) := by decide +kernel
theorem dX5_time_22 : decode cX5_time 22 = .ok (.ireturn, 1) := by decide +kernel
theorem dX5_time_23 : decode cX5_time 23 = .ok (.aload 5, 2) := by decide +kernel
theorem dX5_time_25 : decode cX5_time 25 = .ok (.iload_n 2, 1) := by decide +kernel
theorem dX5_time_26 : decode cX5_time 26 = .ok (.invokevirtual 99, 3) := by decide +kernel
theorem dX5_time_29 : decode cX5_time 29 = .ok (.astore 6, 2) := by decide +kernel
theorem dX5_time_31 : decode cX5_time 31 = .ok (.aload 6, 2) := by decide +kernel
theorem dX5_time_33 : decode cX5_time 33 = .ok (.ifnonnull 6, 3) := by decide +kernel
theorem dX5_time_36 : decode cX5_time 36 = .ok (.bipush (-2), 2) := by decide +kernel
theorem dX5_time_38 : decode cX5_time 38 = .ok (.ireturn, 1) := by decide +kernel
theorem dX5_time_39 : decode cX5_time 39 = .ok (.aload_n 0, 1) := by decide +kernel
theorem dX5_time_40 : decode cX5_time 40 = .ok (.iload_n 1, 1) := by decide +kernel
theorem dX5_time_41 : decode cX5_time 41 = .ok (.iconst 1, 1) := by decide +kernel
theorem dX5_time_42 : decode cX5_time 42 = .ok (.iadd, 1) := by decide +kernel
theorem dX5_time_43 : decode cX5_time 43 = .ok (.iload_n 3, 1) := by decide +kernel
theorem dX5_time_44 : decode cX5_time 44 = .ok (.invokevirtual 171, 3) := by decide +kernel
theorem dX5_time_47 : decode cX5_time 47 = .ok (.iload 4, 2) := by decide +kernel
theorem dX5_time_49 : decode cX5_time 49 = .ok (.tableswitch 107 0 7 #[47, 53, 59, 65, 73, 81, 95, 101], 47) := by decide +kernel
theorem dX5_time_96 : decode cX5_time 96 = .ok (.aload 6, 2) := by decide +kernel
theorem dX5_time_98 : decode cX5_time 98 = .ok (.getfield 175, 3) := by decide +kernel
theorem dX5_time_101 : decode cX5_time 101 = .ok (.ireturn, 1) := by decide +kernel
theorem dX5_time_102 : decode cX5_time 102 = .ok (.aload 6, 2) := by decide +kernel
theorem dX5_time_104 : decode cX5_time 104 = .ok (.getfield 178, 3) := by decide +kernel
theorem dX5_time_107 : decode cX5_time 107 = .ok (.ireturn, 1) := by decide +kernel
theorem dX5_time_108 : decode cX5_time 108 = .ok (.aload 6, 2) := by decide +kernel
theorem dX5_time_110 : decode cX5_time 110 = .ok (.getfield 181, 3) := by decide +kernel
theorem dX5_time_113 : decode cX5_time 113 = .ok (.ireturn, 1) := by decide +kernel
theorem dX5_time_114 : decode cX5_time 114 = .ok (.aload 5, 2) := by decide +kernel
theorem dX5_time_116 : decode cX5_time 116 = .ok (.aload 6, 2) := by decide +kernel
theorem dX5_time_118 : decode cX5_time 118 = .ok (.invokevirtual 184, 3) := by decide +kernel
theorem dX5_time_121 : decode cX5_time 121 = .ok (.ireturn, 1) := by decide +kernel
theorem dX5_time_122 : decode cX5_time 122 = .ok (.aload 5, 2) := by decide +kernel
theorem dX5_time_124 : decode cX5_time 124 = .ok (.aload 6, 2) := by decide +kernel
theorem dX5_time_126 : decode cX5_time 126 = .ok (.invokevirtual 188, 3) := by decide +kernel
theorem dX5_time_129 : decode cX5_time 129 = .ok (.ireturn, 1) := by decide +kernel
theorem dX5_time_130 : decode cX5_time 130 = .ok (.aload 6, 2) := by decide +kernel
theorem dX5_time_132 : decode cX5_time 132 = .ok (.getfield 191, 3) := by decide +kernel
theorem dX5_time_135 : decode cX5_time 135 = .ok (.ifCond .eq 7, 3) := by decide +kernel
theorem dX5_time_138 : decode cX5_time 138 = .ok (.iconst 1, 1) := by decide +kernel
theorem dX5_time_139 : decode cX5_time 139 = .ok (.goto 4, 3) := by decide +kernel
theorem dX5_time_142 : decode cX5_time 142 = .ok (.iconst 0, 1) := by decide +kernel
theorem dX5_time_143 : decode cX5_time 143 = .ok (.ireturn, 1) := by decide +kernel
theorem dX5_time_144 : decode cX5_time 144 = .ok (.aload 6, 2) := by decide +kernel
theorem dX5_time_146 : decode cX5_time 146 = .ok (.getfield 195, 3) := by decide +kernel
theorem dX5_time_149 : decode cX5_time 149 = .ok (.ireturn, 1) := by decide +kernel
theorem dX5_time_150 : decode cX5_time 150 = .ok (.aload 6, 2) := by decide +kernel
theorem dX5_time_152 : decode cX5_time 152 = .ok (.getfield 198, 3) := by decide +kernel
theorem dX5_time_155 : decode cX5_time 155 = .ok (.ireturn, 1) := by decide +kernel
theorem dX5_time_156 : decode cX5_time 156 = .ok (.bipush (-2), 2) := by decide +kernel
theorem dX5_time_158 : decode cX5_time 158 = .ok (.ireturn, 1) := by decide +kernel
theorem dX5_split_0 : decode cX5_split 0 = .ok (.aload_n 0, 1) := by decide +kernel
theorem dX5_split_1 : decode cX5_split 1 = .ok (.iload_n 1, 1) := by decide +kernel
theorem dX5_split_2 : decode cX5_split 2 = .ok (.invokevirtual 83, 3) := by decide +kernel
theorem dX5_split_5 : decode cX5_split 5 = .ok (.astore 5, 2) := by decide +kernel
theorem dX5_split_7 : decode cX5_split 7 = .ok (.aload 5, 2) := by decide +kernel
theorem dX5_split_9 : decode cX5_split 9 = .ok (.ifnull 25, 3) := by decide +kernel
theorem dX5_split_12 : decode cX5_split 12 = .ok (.aload_n 0, 1) := by decide +kernel
theorem dX5_split_13 : decode cX5_split 13 = .ok (.iload 4, 2) := by decide +kernel
theorem dX5_split_15 : decode cX5_split 15 = .ok (.invokevirtual 168, 3) := by decide +kernel
theorem dX5_split_18 : decode cX5_split 18 = .ok (.ifCond .eq 16, 3) := by decide +kernel
theorem dX5_split_21 : decode cX5_split 21 = .ok (.aload 5, 2) := by decide +kernel
theorem dX5_split_23 : decode cX5_split 23 = .ok (.getfield 112, 3) := by decide +kernel
theorem dX5_split_26 : decode cX5_split 26 = .ok (.iconst 0, 1) := by decide +kernel
theorem dX5_split_27 : decode cX5_split 27 = .ok (.iload_n 3, 1) := by decide +kernel
theorem dX5_split_28 : decode cX5_split 28 = .ok (.invokevirtual 116, 3) := by decide +kernel
theorem dX5_split_31 : decode cX5_split 31 = .ok (.ifCond .ne 6, 3) := by decide +kernel
theorem dX5_split_34 : decode cX5_split 34 = .ok (.bipush (-2), 2) := by decide +kernel
theorem dX5_split_36 : decode cX5_split 36 = .ok (.ireturn, 1) := by decide +kernel
theorem dX5_split_37 : decode cX5_split 37 = .ok (.aload 5, 2) := by decide +kernel
theorem dX5_split_39 : decode cX5_split 39 = .ok (.iload_n 2, 1) := by decide +kernel
theorem dX5_split_40 : decode cX5_split 40 = .ok (.invokevirtual 99, 3) := by decide +kernel
theorem dX5_split_43 : decode cX5_split 43 = .ok (.astore 6, 2) := by decide +kernel
theorem dX5_split_45 : decode cX5_split 45 = .ok (.aload 6, 2) := by decide +kernel
theorem dX5_split_47 : decode cX5_split 47 = .ok (.ifnonnull 6, 3) := by decide +kernel
theorem dX5_split_50 : decode cX5_split 50 = .ok (.bipush (-2), 2) := by decide +kernel
theorem dX5_split_52 : decode cX5_split 52 = .ok (.ireturn, 1) := by decide +kernel
theorem dX5_split_53 : decode cX5_split 53 = .ok (.aload_n 0, 1) := by decide +kernel
theorem dX5_split_54 : decode cX5_split 54 = .ok (.iload_n 1, 1) := by decide +kernel
theorem dX5_split_55 : decode cX5_split 55 = .ok (.iconst 1, 1) := by decide +kernel
theorem dX5_split_56 : decode cX5_split 56 = .ok (.iadd, 1) := by decide +kernel
theorem dX5_split_57 : decode cX5_split 57 = .ok (.iload 4, 2) := by decide +kernel
theorem dX5_split_59 : decode cX5_split 59 = .ok (.invokevirtual 171, 3) := by decide +kernel
theorem dX5_split_62 : decode cX5_split 62 = .ok (.aload 6, 2) := by decide +kernel
theorem dX5_split_64 : decode cX5_split 64 = .ok (.aload 6, 2) := by decide +kernel
theorem dX5_split_66 : decode cX5_split 66 = .ok (.iconst 0, 1) := by decide +kernel
theorem dX5_split_67 : decode cX5_split 67 = .ok (.iload_n 3, 1) := by decide +kernel
theorem dX5_split_68 : decode cX5_split 68 = .ok (.iload 4, 2) := by decide +kernel
theorem dX5_split_70 : decode cX5_split 70 = .ok (.invokevirtual 201, 3) := by decide +kernel
theorem dX5_split_73 : decode cX5_split 73 = .ok (.invokevirtual 205, 3) := by decide +kernel
theorem dX5_split_76 : decode cX5_split 76 = .ok (.ireturn, 1) := by decide +kernel
theorem dX5_order_0 : decode cX5_order 0 = .ok (.aload_n 0, 1) := by decide +kernel
theorem dX5_order_1 : decode cX5_order 1 = .ok (.iload_n 1, 1) := by decide +kernel
theorem dX5_order_2 : decode cX5_order 2 = .ok (.invokevirtual 83, 3) := by decide +kernel
theorem dX5_order_5 : decode cX5_order 5 = .ok (.astore 4, 2) := by decide +kernel
theorem dX5_order_7 : decode cX5_order 7 = .ok (.aload 4, 2) := by decide +kernel
theorem dX5_order_9 : decode cX5_order 9 = .ok (.ifnull 11, 3) := by decide +kernel
theorem dX5_order_12 : decode cX5_order 12 = .ok (.aload_n 0, 1) := by decide +kernel
theorem dX5_order_13 : decode cX5_order 13 = .ok (.iload_n 2, 1) := by decide +kernel
theorem dX5_order_14 : decode cX5_order 14 = .ok (.invokevirtual 168, 3) := by decide +kernel
theorem dX5_order_17 : decode cX5_order 17 = .ok (.ifCond .ne 5, 3) := by decide +kernel
theorem dX5_order_20 : decode cX5_order 20 = .ok (.iconst (-1), 1) := by decide +kernel
theorem dX5_order_21 : decode cX5_order 21 = .ok (.ireturn, 1) := by decide +kernel
theorem dX5_order_22 : decode cX5_order 22 = .ok (.aload_n 0, 1) := by decide +kernel
theorem dX5_order_23 : decode cX5_order 23 = .ok (.iload_n 1, 1) := by decide +kernel
theorem dX5_order_24 : decode cX5_order 24 = .ok (.iconst 1, 1) := by decide +kernel
theorem dX5_order_25 : decode cX5_order 25 = .ok (.iadd, 1) := by decide +kernel
theorem dX5_order_26 : decode cX5_order 26 = .ok (.iload_n 2, 1) := by decide +kernel
theorem dX5_order_27 : decode cX5_order 27 = .ok (.invokevirtual 171, 3) := by decide +kernel
theorem dX5_order_30 : decode cX5_order 30 = .ok (.iconst 0, 1) := by decide +kernel
theorem dX5_order_31 : decode cX5_order 31 = .ok (.istore 5, 2) := by decide +kernel
theorem dX5_order_33 : decode cX5_order 33 = .ok (.iload 5, 2) := by decide +kernel
theorem dX5_order_35 : decode cX5_order 35 = .ok (.aload 4, 2) := by decide +kernel
theorem dX5_order_37 : decode cX5_order 37 = .ok (.getfield 106, 3) := by decide +kernel
theorem dX5_order_40 : decode cX5_order 40 = .ok (.if_icmp .ge 46, 3) := by decide +kernel
theorem dX5_order_43 : decode cX5_order 43 = .ok (.aload 4, 2) := by decide +kernel
theorem dX5_order_45 : decode cX5_order 45 = .ok (.getfield 161, 3) := by decide +kernel
theorem dX5_order_48 : decode cX5_order 48 = .ok (.iload 5, 2) := by decide +kernel
theorem dX5_order_50 : decode cX5_order 50 = .ok (.aaload, 1) := by decide +kernel
theorem dX5_order_51 : decode cX5_order 51 = .ok (.invokevirtual 209, 3) := by decide +kernel
theorem dX5_order_54 : decode cX5_order 54 = .ok (.ifCond .eq 26, 3) := by decide +kernel
theorem dX5_order_57 : decode cX5_order 57 = .ok (.aload 4, 2) := by decide +kernel
theorem dX5_order_59 : decode cX5_order 59 = .ok (.iload 5, 2) := by decide +kernel
theorem dX5_order_61 : decode cX5_order 61 = .ok (.invokevirtual 212, 3) := by decide +kernel
theorem dX5_order_64 : decode cX5_order 64 = .ok (.iload_n 3, 1) := by decide +kernel
theorem dX5_order_65 : decode cX5_order 65 = .ok (.if_icmp .ne 15, 3) := by decide +kernel
theorem dX5_order_68 : decode cX5_order 68 = .ok (.aload 4, 2) := by decide +kernel
theorem dX5_order_70 : decode cX5_order 70 = .ok (.getfield 161, 3) := by decide +kernel
theorem dX5_order_73 : decode cX5_order 73 = .ok (.iload 5, 2) := by decide +kernel
theorem dX5_order_75 : decode cX5_order 75 = .ok (.aaload, 1) := by decide +kernel
theorem dX5_order_76 : decode cX5_order 76 = .ok (.getfield 165, 3) := by decide +kernel
theorem dX5_order_79 : decode cX5_order 79 = .ok (.ireturn, 1) := by decide +kernel
theorem dX5_order_80 : decode cX5_order 80 = .ok (.iinc 5 1, 3) := by decide +kernel
theorem dX5_order_83 : decode cX5_order 83 = .ok (.goto (-50), 3) := by decide +kernel
theorem dX5_order_86 : decode cX5_order 86 = .ok (.iconst (-1), 1) := by decide +kernel
theorem dX5_order_87 : decode cX5_order 87 = .ok (.ireturn, 1) := by decide +kernel
theorem dX5_points_0 : decode cX5_points 0 = .ok (.aload_n 0, 1) := by decide +kernel
theorem dX5_points_1 : decode cX5_points 1 = .ok (.iload_n 1, 1) := by decide +kernel
theorem dX5_points_2 : decode cX5_points 2 = .ok (.invokevirtual 93, 3) := by decide +kernel
theorem dX5_points_5 : decode cX5_points 5 = .ok (.ifCond .eq 11, 3) := by decide +kernel
theorem dX5_points_8 : decode cX5_points 8 = .ok (.aload_n 0, 1) := by decide +kernel
theorem dX5_points_9 : decode cX5_points 9 = .ok (.iload_n 2, 1) := by decide +kernel
theorem dX5_points_10 : decode cX5_points 10 = .ok (.invokevirtual 168, 3) := by decide +kernel
theorem dX5_points_13 : decode cX5_points 13 = .ok (.ifCond .ne 5, 3) := by decide +kernel
theorem dX5_points_16 : decode cX5_points 16 = .ok (.iconst (-1), 1) := by decide +kernel
theorem dX5_points_17 : decode cX5_points 17 = .ok (.ireturn, 1) := by decide +kernel
theorem dX5_points_18 : decode cX5_points 18 = .ok (.aload_n 0, 1) := by decide +kernel
theorem dX5_points_19 : decode cX5_points 19 = .ok (.iload_n 2, 1) := by decide +kernel
theorem dX5_points_20 : decode cX5_points 20 = .ok (.invokevirtual 215, 3) := by decide +kernel
theorem dX5_points_23 : decode cX5_points 23 = .ok (.aload_n 0, 1) := by decide +kernel
theorem dX5_points_24 : decode cX5_points 24 = .ok (.getfield 33, 3) := by decide +kernel
theorem dX5_points_27 : decode cX5_points 27 = .ok (.iload_n 1, 1) := by decide +kernel
theorem dX5_points_28 : decode cX5_points 28 = .ok (.iaload, 1) := by decide +kernel
theorem dX5_points_29 : decode cX5_points 29 = .ok (.ireturn, 1) := by decide +kernel
theorem dX5_standing_0 : decode cX5_standing 0 = .ok (.aload_n 0, 1) := by decide +kernel
theorem dX5_standing_1 : decode cX5_standing 1 = .ok (.iload_n 1, 1) := by decide +kernel
theorem dX5_standing_2 : decode cX5_standing 2 = .ok (.invokevirtual 93, 3) := by decide +kernel
theorem dX5_standing_5 : decode cX5_standing 5 = .ok (.ifCond .eq 11, 3) := by decide +kernel
theorem dX5_standing_8 : decode cX5_standing 8 = .ok (.aload_n 0, 1) := by decide +kernel
theorem dX5_standing_9 : decode cX5_standing 9 = .ok (.iload_n 2, 1) := by decide +kernel
theorem dX5_standing_10 : decode cX5_standing 10 = .ok (.invokevirtual 168, 3) := by decide +kernel
theorem dX5_standing_13 : decode cX5_standing 13 = .ok (.ifCond .ne 5, 3) := by decide +kernel
theorem dX5_standing_16 : decode cX5_standing 16 = .ok (.iconst (-1), 1) := by decide +kernel
theorem dX5_standing_17 : decode cX5_standing 17 = .ok (.ireturn, 1) := by decide +kernel
theorem dX5_standing_18 : decode cX5_standing 18 = .ok (.aload_n 0, 1) := by decide +kernel
theorem dX5_standing_19 : decode cX5_standing 19 = .ok (.iload_n 2, 1) := by decide +kernel
theorem dX5_standing_20 : decode cX5_standing 20 = .ok (.invokevirtual 215, 3) := by decide +kernel
theorem dX5_standing_23 : decode cX5_standing 23 = .ok (.aload_n 0, 1) := by decide +kernel
theorem dX5_standing_24 : decode cX5_standing 24 = .ok (.iload_n 1, 1) := by decide +kernel
theorem dX5_standing_25 : decode cX5_standing 25 = .ok (.invokevirtual 218, 3) := by decide +kernel
theorem dX5_standing_28 : decode cX5_standing 28 = .ok (.ireturn, 1) := by decide +kernel
theorem dX5_starters_0 : decode cX5_starters 0 = .ok (.iload_n 1, 1) := by decide +kernel
theorem dX5_starters_1 : decode cX5_starters 1 = .ok (.invokestatic 73, 3) := by decide +kernel
theorem dX5_starters_4 : decode cX5_starters 4 = .ok (.ifCond .eq 11, 3) := by decide +kernel
theorem dX5_starters_7 : decode cX5_starters 7 = .ok (.aload_n 0, 1) := by decide +kernel
theorem dX5_starters_8 : decode cX5_starters 8 = .ok (.iload_n 2, 1) := by decide +kernel
theorem dX5_starters_9 : decode cX5_starters 9 = .ok (.invokevirtual 168, 3) := by decide +kernel
theorem dX5_starters_12 : decode cX5_starters 12 = .ok (.ifCond .ne 5, 3) := by decide +kernel
theorem dX5_starters_15 : decode cX5_starters 15 = .ok (.iconst (-1), 1) := by decide +kernel
theorem dX5_starters_16 : decode cX5_starters 16 = .ok (.ireturn, 1) := by decide +kernel
theorem dX5_starters_17 : decode cX5_starters 17 = .ok (.aload_n 0, 1) := by decide +kernel
theorem dX5_starters_18 : decode cX5_starters 18 = .ok (.iload_n 2, 1) := by decide +kernel
theorem dX5_starters_19 : decode cX5_starters 19 = .ok (.invokevirtual 215, 3) := by decide +kernel
theorem dX5_starters_22 : decode cX5_starters 22 = .ok (.iconst 2, 1) := by decide +kernel
theorem dX5_starters_23 : decode cX5_starters 23 = .ok (.istore_n 3, 1) := by decide +kernel
theorem dX5_starters_24 : decode cX5_starters 24 = .ok (.iconst 0, 1) := by decide +kernel
theorem dX5_starters_25 : decode cX5_starters 25 = .ok (.istore 4, 2) := by decide +kernel
theorem dX5_starters_27 : decode cX5_starters 27 = .ok (.iload 4, 2) := by decide +kernel
theorem dX5_starters_29 : decode cX5_starters 29 = .ok (.aload_n 0, 1) := by decide +kernel
theorem dX5_starters_30 : decode cX5_starters 30 = .ok (.getfield 77, 3) := by decide +kernel
theorem dX5_starters_33 : decode cX5_starters 33 = .ok (.if_icmp .ge 43, 3) := by decide +kernel
theorem dX5_starters_36 : decode cX5_starters 36 = .ok (.aload_n 0, 1) := by decide +kernel
theorem dX5_starters_37 : decode cX5_starters 37 = .ok (.getfield 23, 3) := by decide +kernel
theorem dX5_starters_40 : decode cX5_starters 40 = .ok (.iload 4, 2) := by decide +kernel
theorem dX5_starters_42 : decode cX5_starters 42 = .ok (.iaload, 1) := by decide +kernel
theorem dX5_starters_43 : decode cX5_starters 43 = .ok (.iload_n 1, 1) := by decide +kernel
theorem dX5_starters_44 : decode cX5_starters 44 = .ok (.if_icmp .ne 26, 3) := by decide +kernel
theorem dX5_starters_47 : decode cX5_starters 47 = .ok (.aload_n 0, 1) := by decide +kernel
theorem dX5_starters_48 : decode cX5_starters 48 = .ok (.getfield 33, 3) := by decide +kernel
theorem dX5_starters_51 : decode cX5_starters 51 = .ok (.iload 4, 2) := by decide +kernel
theorem dX5_starters_53 : decode cX5_starters 53 = .ok (.iaload, 1) := by decide +kernel
theorem dX5_starters_54 : decode cX5_starters 54 = .ok (.ifCond .le 16, 3) := by decide +kernel
theorem dX5_starters_57 : decode cX5_starters 57 = .ok (.aload_n 0, 1) := by decide +kernel
theorem dX5_starters_58 : decode cX5_starters 58 = .ok (.iload 4, 2) := by decide +kernel
theorem dX5_starters_60 : decode cX5_starters 60 = .ok (.invokevirtual 218, 3) := by decide +kernel
theorem dX5_starters_63 : decode cX5_starters 63 = .ok (.iconst 5, 1) := by decide +kernel
theorem dX5_starters_64 : decode cX5_starters 64 = .ok (.if_icmp .gt 6, 3) := by decide +kernel
theorem dX5_starters_67 : decode cX5_starters 67 = .ok (.iinc 3 1, 3) := by decide +kernel
theorem dX5_starters_70 : decode cX5_starters 70 = .ok (.iinc 4 1, 3) := by decide +kernel
theorem dX5_starters_73 : decode cX5_starters 73 = .ok (.goto (-46), 3) := by decide +kernel
theorem dX5_starters_76 : decode cX5_starters 76 = .ok (.iload_n 3, 1) := by decide +kernel
theorem dX5_starters_77 : decode cX5_starters 77 = .ok (.iconst 4, 1) := by decide +kernel
theorem dX5_starters_78 : decode cX5_starters 78 = .ok (.invokestatic 221, 3) := by decide +kernel
theorem dX5_starters_81 : decode cX5_starters 81 = .ok (.ireturn, 1) := by decide +kernel
theorem dX5_count_0 : decode cX5_count 0 = .ok (.iload_n 1, 1) := by decide +kernel
theorem dX5_count_1 : decode cX5_count 1 = .ok (.tableswitch 60 0 4 #[35, 40, 45, 50, 55], 35) := by decide +kernel
theorem dX5_count_36 : decode cX5_count 36 = .ok (.aload_n 0, 1) := by decide +kernel
theorem dX5_count_37 : decode cX5_count 37 = .ok (.getfield 70, 3) := by decide +kernel
theorem dX5_count_40 : decode cX5_count 40 = .ok (.ireturn, 1) := by decide +kernel
theorem dX5_count_41 : decode cX5_count 41 = .ok (.aload_n 0, 1) := by decide +kernel
theorem dX5_count_42 : decode cX5_count 42 = .ok (.getfield 67, 3) := by decide +kernel
theorem dX5_count_45 : decode cX5_count 45 = .ok (.ireturn, 1) := by decide +kernel
theorem dX5_count_46 : decode cX5_count 46 = .ok (.aload_n 0, 1) := by decide +kernel
theorem dX5_count_47 : decode cX5_count 47 = .ok (.getfield 77, 3) := by decide +kernel
theorem dX5_count_50 : decode cX5_count 50 = .ok (.ireturn, 1) := by decide +kernel
theorem dX5_count_51 : decode cX5_count 51 = .ok (.aload_n 0, 1) := by decide +kernel
theorem dX5_count_52 : decode cX5_count 52 = .ok (.getfield 80, 3) := by decide +kernel
theorem dX5_count_55 : decode cX5_count 55 = .ok (.ireturn, 1) := by decide +kernel
theorem dX5_count_56 : decode cX5_count 56 = .ok (.aload_n 0, 1) := by decide +kernel
theorem dX5_count_57 : decode cX5_count 57 = .ok (.getfield 109, 3) := by decide +kernel
theorem dX5_count_60 : decode cX5_count 60 = .ok (.ireturn, 1) := by decide +kernel
theorem dX5_count_61 : decode cX5_count 61 = .ok (.iconst (-1), 1) := by decide +kernel
theorem dX5_count_62 : decode cX5_count 62 = .ok (.ireturn, 1) := by decide +kernel
theorem dX5_raceAt_0 : decode cX5_raceAt 0 = .ok (.iload_n 1, 1) := by decide +kernel
theorem dX5_raceAt_1 : decode cX5_raceAt 1 = .ok (.ifCond .lt 20, 3) := by decide +kernel
theorem dX5_raceAt_4 : decode cX5_raceAt 4 = .ok (.iload_n 1, 1) := by decide +kernel
theorem dX5_raceAt_5 : decode cX5_raceAt 5 = .ok (.aload_n 0, 1) := by decide +kernel
theorem dX5_raceAt_6 : decode cX5_raceAt 6 = .ok (.getfield 80, 3) := by decide +kernel
theorem dX5_raceAt_9 : decode cX5_raceAt 9 = .ok (.if_icmp .ge 12, 3) := by decide +kernel
theorem dX5_raceAt_12 : decode cX5_raceAt 12 = .ok (.aload_n 0, 1) := by decide +kernel
theorem dX5_raceAt_13 : decode cX5_raceAt 13 = .ok (.getfield 29, 3) := by decide +kernel
theorem dX5_raceAt_16 : decode cX5_raceAt 16 = .ok (.iload_n 1, 1) := by decide +kernel
theorem dX5_raceAt_17 : decode cX5_raceAt 17 = .ok (.aaload, 1) := by decide +kernel
theorem dX5_raceAt_18 : decode cX5_raceAt 18 = .ok (.goto 4, 3) := by decide +kernel
theorem dX5_raceAt_21 : decode cX5_raceAt 21 = .ok (.aconst_null, 1) := by decide +kernel
theorem dX5_raceAt_22 : decode cX5_raceAt 22 = .ok (.areturn, 1) := by decide +kernel
theorem dX5_isRacer_0 : decode cX5_isRacer 0 = .ok (.iload_n 1, 1) := by decide +kernel
theorem dX5_isRacer_1 : decode cX5_isRacer 1 = .ok (.ifCond .lt 15, 3) := by decide +kernel
theorem dX5_isRacer_4 : decode cX5_isRacer 4 = .ok (.iload_n 1, 1) := by decide +kernel
theorem dX5_isRacer_5 : decode cX5_isRacer 5 = .ok (.aload_n 0, 1) := by decide +kernel
theorem dX5_isRacer_6 : decode cX5_isRacer 6 = .ok (.getfield 77, 3) := by decide +kernel
theorem dX5_isRacer_9 : decode cX5_isRacer 9 = .ok (.if_icmp .ge 7, 3) := by decide +kernel
theorem dX5_isRacer_12 : decode cX5_isRacer 12 = .ok (.iconst 1, 1) := by decide +kernel
theorem dX5_isRacer_13 : decode cX5_isRacer 13 = .ok (.goto 4, 3) := by decide +kernel
theorem dX5_isRacer_16 : decode cX5_isRacer 16 = .ok (.iconst 0, 1) := by decide +kernel
theorem dX5_isRacer_17 : decode cX5_isRacer 17 = .ok (.ireturn, 1) := by decide +kernel
theorem dX5_isDay_0 : decode cX5_isDay 0 = .ok (.iload_n 1, 1) := by decide +kernel
theorem dX5_isDay_1 : decode cX5_isDay 1 = .ok (.ifCond .lt 15, 3) := by decide +kernel
theorem dX5_isDay_4 : decode cX5_isDay 4 = .ok (.iload_n 1, 1) := by decide +kernel
theorem dX5_isDay_5 : decode cX5_isDay 5 = .ok (.aload_n 0, 1) := by decide +kernel
theorem dX5_isDay_6 : decode cX5_isDay 6 = .ok (.getfield 70, 3) := by decide +kernel
theorem dX5_isDay_9 : decode cX5_isDay 9 = .ok (.if_icmp .gt 7, 3) := by decide +kernel
theorem dX5_isDay_12 : decode cX5_isDay 12 = .ok (.iconst 1, 1) := by decide +kernel
theorem dX5_isDay_13 : decode cX5_isDay 13 = .ok (.goto 4, 3) := by decide +kernel
theorem dX5_isDay_16 : decode cX5_isDay 16 = .ok (.iconst 0, 1) := by decide +kernel
theorem dX5_isDay_17 : decode cX5_isDay 17 = .ok (.ireturn, 1) := by decide +kernel
theorem dX5_isNation_0 : decode cX5_isNation 0 = .ok (.iload_n 0, 1) := by decide +kernel
theorem dX5_isNation_1 : decode cX5_isNation 1 = .ok (.ifCond .lt 13, 3) := by decide +kernel
theorem dX5_isNation_4 : decode cX5_isNation 4 = .ok (.iload_n 0, 1) := by decide +kernel
theorem dX5_isNation_5 : decode cX5_isNation 5 = .ok (.bipush 8, 2) := by decide +kernel
theorem dX5_isNation_7 : decode cX5_isNation 7 = .ok (.if_icmp .ge 7, 3) := by decide +kernel
theorem dX5_isNation_10 : decode cX5_isNation 10 = .ok (.iconst 1, 1) := by decide +kernel
theorem dX5_isNation_11 : decode cX5_isNation 11 = .ok (.goto 4, 3) := by decide +kernel
theorem dX5_isNation_14 : decode cX5_isNation 14 = .ok (.iconst 0, 1) := by decide +kernel
theorem dX5_isNation_15 : decode cX5_isNation 15 = .ok (.ireturn, 1) := by decide +kernel
theorem dX5_isValue_0 : decode cX5_isValue 0 = .ok (.iload_n 0, 1) := by decide +kernel
theorem dX5_isValue_1 : decode cX5_isValue 1 = .ok (.tableswitch 98 0 3 #[31, 48, 65, 82], 31) := by decide +kernel
theorem dX5_isValue_32 : decode cX5_isValue 32 = .ok (.iload_n 1, 1) := by decide +kernel
theorem dX5_isValue_33 : decode cX5_isValue 33 = .ok (.iconst (-1), 1) := by decide +kernel
theorem dX5_isValue_34 : decode cX5_isValue 34 = .ok (.if_icmp .lt 13, 3) := by decide +kernel
theorem dX5_isValue_37 : decode cX5_isValue 37 = .ok (.iload_n 1, 1) := by decide +kernel
theorem dX5_isValue_38 : decode cX5_isValue 38 = .ok (.ldc 227, 2) := by decide +kernel
theorem dX5_isValue_40 : decode cX5_isValue 40 = .ok (.if_icmp .gt 7, 3) := by decide +kernel
theorem dX5_isValue_43 : decode cX5_isValue 43 = .ok (.iconst 1, 1) := by decide +kernel
theorem dX5_isValue_44 : decode cX5_isValue 44 = .ok (.goto 4, 3) := by decide +kernel
theorem dX5_isValue_47 : decode cX5_isValue 47 = .ok (.iconst 0, 1) := by decide +kernel
theorem dX5_isValue_48 : decode cX5_isValue 48 = .ok (.ireturn, 1) := by decide +kernel
theorem dX5_isValue_49 : decode cX5_isValue 49 = .ok (.iload_n 1, 1) := by decide +kernel
theorem dX5_isValue_50 : decode cX5_isValue 50 = .ok (.iconst (-1), 1) := by decide +kernel
theorem dX5_isValue_51 : decode cX5_isValue 51 = .ok (.if_icmp .lt 13, 3) := by decide +kernel
theorem dX5_isValue_54 : decode cX5_isValue 54 = .ok (.iload_n 1, 1) := by decide +kernel
theorem dX5_isValue_55 : decode cX5_isValue 55 = .ok (.bipush 31, 2) := by decide +kernel
theorem dX5_isValue_57 : decode cX5_isValue 57 = .ok (.if_icmp .gt 7, 3) := by decide +kernel
theorem dX5_isValue_60 : decode cX5_isValue 60 = .ok (.iconst 1, 1) := by decide +kernel
theorem dX5_isValue_61 : decode cX5_isValue 61 = .ok (.goto 4, 3) := by decide +kernel
theorem dX5_isValue_64 : decode cX5_isValue 64 = .ok (.iconst 0, 1) := by decide +kernel
theorem dX5_isValue_65 : decode cX5_isValue 65 = .ok (.ireturn, 1) := by decide +kernel
theorem dX5_isValue_66 : decode cX5_isValue 66 = .ok (.iload_n 1, 1) := by decide +kernel
theorem dX5_isValue_67 : decode cX5_isValue 67 = .ok (.iconst (-1), 1) := by decide +kernel
theorem dX5_isValue_68 : decode cX5_isValue 68 = .ok (.if_icmp .lt 13, 3) := by decide +kernel
theorem dX5_isValue_71 : decode cX5_isValue 71 = .ok (.iload_n 1, 1) := by decide +kernel
theorem dX5_isValue_72 : decode cX5_isValue 72 = .ok (.bipush 9, 2) := by decide +kernel
theorem dX5_isValue_74 : decode cX5_isValue 74 = .ok (.if_icmp .gt 7, 3) := by decide +kernel
theorem dX5_isValue_77 : decode cX5_isValue 77 = .ok (.iconst 1, 1) := by decide +kernel
theorem dX5_isValue_78 : decode cX5_isValue 78 = .ok (.goto 4, 3) := by decide +kernel
theorem dX5_isValue_81 : decode cX5_isValue 81 = .ok (.iconst 0, 1) := by decide +kernel
theorem dX5_isValue_82 : decode cX5_isValue 82 = .ok (.ireturn, 1) := by decide +kernel
theorem dX5_isValue_83 : decode cX5_isValue 83 = .ok (.iload_n 1, 1) := by decide +kernel
theorem dX5_isValue_84 : decode cX5_isValue 84 = .ok (.iconst (-1), 1) := by decide +kernel
theorem dX5_isValue_85 : decode cX5_isValue 85 = .ok (.if_icmp .lt 12, 3) := by decide +kernel
theorem dX5_isValue_88 : decode cX5_isValue 88 = .ok (.iload_n 1, 1) := by decide +kernel
theorem dX5_isValue_89 : decode cX5_isValue 89 = .ok (.iconst 1, 1) := by decide +kernel
theorem dX5_isValue_90 : decode cX5_isValue 90 = .ok (.if_icmp .gt 7, 3) := by decide +kernel
theorem dX5_isValue_93 : decode cX5_isValue 93 = .ok (.iconst 1, 1) := by decide +kernel
theorem dX5_isValue_94 : decode cX5_isValue 94 = .ok (.goto 4, 3) := by decide +kernel
theorem dX5_isValue_97 : decode cX5_isValue 97 = .ok (.iconst 0, 1) := by decide +kernel
theorem dX5_isValue_98 : decode cX5_isValue 98 = .ok (.ireturn, 1) := by decide +kernel
theorem dX5_isValue_99 : decode cX5_isValue 99 = .ok (.iconst 0, 1) := by decide +kernel
theorem dX5_isValue_100 : decode cX5_isValue 100 = .ok (.ireturn, 1) := by decide +kernel
theorem dX5_workOut_0 : decode cX5_workOut 0 = .ok (.iconst 0, 1) := by decide +kernel
theorem dX5_workOut_1 : decode cX5_workOut 1 = .ok (.istore_n 3, 1) := by decide +kernel
theorem dX5_workOut_2 : decode cX5_workOut 2 = .ok (.iload_n 3, 1) := by decide +kernel
theorem dX5_workOut_3 : decode cX5_workOut 3 = .ok (.iload_n 1, 1) := by decide +kernel
theorem dX5_workOut_4 : decode cX5_workOut 4 = .ok (.if_icmp .ge 27, 3) := by decide +kernel
theorem dX5_workOut_7 : decode cX5_workOut 7 = .ok (.iload_n 3, 1) := by decide +kernel
theorem dX5_workOut_8 : decode cX5_workOut 8 = .ok (.aload_n 0, 1) := by decide +kernel
theorem dX5_workOut_9 : decode cX5_workOut 9 = .ok (.getfield 80, 3) := by decide +kernel
theorem dX5_workOut_12 : decode cX5_workOut 12 = .ok (.if_icmp .ge 19, 3) := by decide +kernel
theorem dX5_workOut_15 : decode cX5_workOut 15 = .ok (.aload_n 0, 1) := by decide +kernel
theorem dX5_workOut_16 : decode cX5_workOut 16 = .ok (.getfield 29, 3) := by decide +kernel
theorem dX5_workOut_19 : decode cX5_workOut 19 = .ok (.iload_n 3, 1) := by decide +kernel
theorem dX5_workOut_20 : decode cX5_workOut 20 = .ok (.aaload, 1) := by decide +kernel
theorem dX5_workOut_21 : decode cX5_workOut 21 = .ok (.iload_n 2, 1) := by decide +kernel
theorem dX5_workOut_22 : decode cX5_workOut 22 = .ok (.invokevirtual 228, 3) := by decide +kernel
theorem dX5_workOut_25 : decode cX5_workOut 25 = .ok (.iinc 3 1, 3) := by decide +kernel
theorem dX5_workOut_28 : decode cX5_workOut 28 = .ok (.goto (-26), 3) := by decide +kernel
theorem dX5_workOut_31 : decode cX5_workOut 31 = .ok (.return_, 1) := by decide +kernel
theorem dX5_addUpCup_0 : decode cX5_addUpCup 0 = .ok (.aload_n 0, 1) := by decide +kernel
theorem dX5_addUpCup_1 : decode cX5_addUpCup 1 = .ok (.aload_n 0, 1) := by decide +kernel
theorem dX5_addUpCup_2 : decode cX5_addUpCup 2 = .ok (.getfield 80, 3) := by decide +kernel
theorem dX5_addUpCup_5 : decode cX5_addUpCup 5 = .ok (.iload_n 1, 1) := by decide +kernel
theorem dX5_addUpCup_6 : decode cX5_addUpCup 6 = .ok (.invokevirtual 171, 3) := by decide +kernel
theorem dX5_addUpCup_9 : decode cX5_addUpCup 9 = .ok (.iconst 0, 1) := by decide +kernel
theorem dX5_addUpCup_10 : decode cX5_addUpCup 10 = .ok (.istore_n 2, 1) := by decide +kernel
theorem dX5_addUpCup_11 : decode cX5_addUpCup 11 = .ok (.iload_n 2, 1) := by decide +kernel
theorem dX5_addUpCup_12 : decode cX5_addUpCup 12 = .ok (.aload_n 0, 1) := by decide +kernel
theorem dX5_addUpCup_13 : decode cX5_addUpCup 13 = .ok (.getfield 77, 3) := by decide +kernel
theorem dX5_addUpCup_16 : decode cX5_addUpCup 16 = .ok (.if_icmp .ge 16, 3) := by decide +kernel
theorem dX5_addUpCup_19 : decode cX5_addUpCup 19 = .ok (.aload_n 0, 1) := by decide +kernel
theorem dX5_addUpCup_20 : decode cX5_addUpCup 20 = .ok (.getfield 33, 3) := by decide +kernel
theorem dX5_addUpCup_23 : decode cX5_addUpCup 23 = .ok (.iload_n 2, 1) := by decide +kernel
theorem dX5_addUpCup_24 : decode cX5_addUpCup 24 = .ok (.iconst 0, 1) := by decide +kernel
theorem dX5_addUpCup_25 : decode cX5_addUpCup 25 = .ok (.iastore, 1) := by decide +kernel
theorem dX5_addUpCup_26 : decode cX5_addUpCup 26 = .ok (.iinc 2 1, 3) := by decide +kernel
theorem dX5_addUpCup_29 : decode cX5_addUpCup 29 = .ok (.goto (-18), 3) := by decide +kernel
theorem dX5_addUpCup_32 : decode cX5_addUpCup 32 = .ok (.iconst 0, 1) := by decide +kernel
theorem dX5_addUpCup_33 : decode cX5_addUpCup 33 = .ok (.istore_n 2, 1) := by decide +kernel
theorem dX5_addUpCup_34 : decode cX5_addUpCup 34 = .ok (.iload_n 2, 1) := by decide +kernel
theorem dX5_addUpCup_35 : decode cX5_addUpCup 35 = .ok (.aload_n 0, 1) := by decide +kernel
theorem dX5_addUpCup_36 : decode cX5_addUpCup 36 = .ok (.getfield 80, 3) := by decide +kernel
theorem dX5_addUpCup_39 : decode cX5_addUpCup 39 = .ok (.if_icmp .ge 19, 3) := by decide +kernel
theorem dX5_addUpCup_42 : decode cX5_addUpCup 42 = .ok (.aload_n 0, 1) := by decide +kernel
theorem dX5_addUpCup_43 : decode cX5_addUpCup 43 = .ok (.aload_n 0, 1) := by decide +kernel
theorem dX5_addUpCup_44 : decode cX5_addUpCup 44 = .ok (.getfield 29, 3) := by decide +kernel
theorem dX5_addUpCup_47 : decode cX5_addUpCup 47 = .ok (.iload_n 2, 1) := by decide +kernel
theorem dX5_addUpCup_48 : decode cX5_addUpCup 48 = .ok (.aaload, 1) := by decide +kernel
theorem dX5_addUpCup_49 : decode cX5_addUpCup 49 = .ok (.invokevirtual 230, 3) := by decide +kernel
theorem dX5_addUpCup_52 : decode cX5_addUpCup 52 = .ok (.iinc 2 1, 3) := by decide +kernel
theorem dX5_addUpCup_55 : decode cX5_addUpCup 55 = .ok (.goto (-21), 3) := by decide +kernel
theorem dX5_addUpCup_58 : decode cX5_addUpCup 58 = .ok (.return_, 1) := by decide +kernel
theorem dX5_addToCup_0 : decode cX5_addToCup 0 = .ok (.iconst 0, 1) := by decide +kernel
theorem dX5_addToCup_1 : decode cX5_addToCup 1 = .ok (.istore_n 2, 1) := by decide +kernel
theorem dX5_addToCup_2 : decode cX5_addToCup 2 = .ok (.iload_n 2, 1) := by decide +kernel
theorem dX5_addToCup_3 : decode cX5_addToCup 3 = .ok (.aload_n 1, 1) := by decide +kernel
theorem dX5_addToCup_4 : decode cX5_addToCup 4 = .ok (.getfield 106, 3) := by decide +kernel
theorem dX5_addToCup_7 : decode cX5_addToCup 7 = .ok (.if_icmp .ge 47, 3) := by decide +kernel
theorem dX5_addToCup_10 : decode cX5_addToCup 10 = .ok (.aload_n 1, 1) := by decide +kernel
theorem dX5_addToCup_11 : decode cX5_addToCup 11 = .ok (.getfield 161, 3) := by decide +kernel
theorem dX5_addToCup_14 : decode cX5_addToCup 14 = .ok (.iload_n 2, 1) := by decide +kernel
theorem dX5_addToCup_15 : decode cX5_addToCup 15 = .ok (.aaload, 1) := by decide +kernel
theorem dX5_addToCup_16 : decode cX5_addToCup 16 = .ok (.astore_n 3, 1) := by decide +kernel
theorem dX5_addToCup_17 : decode cX5_addToCup 17 = .ok (.aload_n 3, 1) := by decide +kernel
theorem dX5_addToCup_18 : decode cX5_addToCup 18 = .ok (.invokevirtual 209, 3) := by decide +kernel
theorem dX5_addToCup_21 : decode cX5_addToCup 21 = .ok (.ifCond .eq 27, 3) := by decide +kernel
theorem dX5_addToCup_24 : decode cX5_addToCup 24 = .ok (.aload_n 0, 1) := by decide +kernel
theorem dX5_addToCup_25 : decode cX5_addToCup 25 = .ok (.getfield 33, 3) := by decide +kernel
theorem dX5_addToCup_28 : decode cX5_addToCup 28 = .ok (.aload_n 3, 1) := by decide +kernel
theorem dX5_addToCup_29 : decode cX5_addToCup 29 = .ok (.getfield 165, 3) := by decide +kernel
theorem dX5_addToCup_32 : decode cX5_addToCup 32 = .ok (.dup2, 1) := by decide +kernel
theorem dX5_addToCup_33 : decode cX5_addToCup 33 = .ok (.iaload, 1) := by decide +kernel
theorem dX5_addToCup_34 : decode cX5_addToCup 34 = .ok (.iconst 0, 1) := by decide +kernel
theorem dX5_addToCup_35 : decode cX5_addToCup 35 = .ok (.bipush 21, 2) := by decide +kernel
theorem dX5_addToCup_37 : decode cX5_addToCup 37 = .ok (.aload_n 1, 1) := by decide +kernel
theorem dX5_addToCup_38 : decode cX5_addToCup 38 = .ok (.aload_n 3, 1) := by decide +kernel
theorem dX5_addToCup_39 : decode cX5_addToCup 39 = .ok (.invokevirtual 188, 3) := by decide +kernel
theorem dX5_addToCup_42 : decode cX5_addToCup 42 = .ok (.isub, 1) := by decide +kernel
theorem dX5_addToCup_43 : decode cX5_addToCup 43 = .ok (.invokestatic 234, 3) := by decide +kernel
theorem dX5_addToCup_46 : decode cX5_addToCup 46 = .ok (.iadd, 1) := by decide +kernel
theorem dX5_addToCup_47 : decode cX5_addToCup 47 = .ok (.iastore, 1) := by decide +kernel
theorem dX5_addToCup_48 : decode cX5_addToCup 48 = .ok (.iinc 2 1, 3) := by decide +kernel
theorem dX5_addToCup_51 : decode cX5_addToCup 51 = .ok (.goto (-49), 3) := by decide +kernel
theorem dX5_addToCup_54 : decode cX5_addToCup 54 = .ok (.return_, 1) := by decide +kernel
theorem dX5_standingInCup_0 : decode cX5_standingInCup 0 = .ok (.iconst 1, 1) := by decide +kernel
theorem dX5_standingInCup_1 : decode cX5_standingInCup 1 = .ok (.istore_n 2, 1) := by decide +kernel
theorem dX5_standingInCup_2 : decode cX5_standingInCup 2 = .ok (.iconst 0, 1) := by decide +kernel
theorem dX5_standingInCup_3 : decode cX5_standingInCup 3 = .ok (.istore_n 3, 1) := by decide +kernel
theorem dX5_standingInCup_4 : decode cX5_standingInCup 4 = .ok (.iload_n 3, 1) := by decide +kernel
theorem dX5_standingInCup_5 : decode cX5_standingInCup 5 = .ok (.aload_n 0, 1) := by decide +kernel
theorem dX5_standingInCup_6 : decode cX5_standingInCup 6 = .ok (.getfield 77, 3) := by decide +kernel
theorem dX5_standingInCup_9 : decode cX5_standingInCup 9 = .ok (.if_icmp .ge 27, 3) := by decide +kernel
theorem dX5_standingInCup_12 : decode cX5_standingInCup 12 = .ok (.aload_n 0, 1) := by decide +kernel
theorem dX5_standingInCup_13 : decode cX5_standingInCup 13 = .ok (.getfield 33, 3) := by decide +kernel
theorem dX5_standingInCup_16 : decode cX5_standingInCup 16 = .ok (.iload_n 3, 1) := by decide +kernel
theorem dX5_standingInCup_17 : decode cX5_standingInCup 17 = .ok (.iaload, 1) := by decide +kernel
theorem dX5_standingInCup_18 : decode cX5_standingInCup 18 = .ok (.aload_n 0, 1) := by decide +kernel
theorem dX5_standingInCup_19 : decode cX5_standingInCup 19 = .ok (.getfield 33, 3) := by decide +kernel
theorem dX5_standingInCup_22 : decode cX5_standingInCup 22 = .ok (.iload_n 1, 1) := by decide +kernel
theorem dX5_standingInCup_23 : decode cX5_standingInCup 23 = .ok (.iaload, 1) := by decide +kernel
theorem dX5_standingInCup_24 : decode cX5_standingInCup 24 = .ok (.if_icmp .le 6, 3) := by decide +kernel
theorem dX5_standingInCup_27 : decode cX5_standingInCup 27 = .ok (.iinc 2 1, 3) := by decide +kernel
theorem dX5_standingInCup_30 : decode cX5_standingInCup 30 = .ok (.iinc 3 1, 3) := by decide +kernel
theorem dX5_standingInCup_33 : decode cX5_standingInCup 33 = .ok (.goto (-29), 3) := by decide +kernel
theorem dX5_standingInCup_36 : decode cX5_standingInCup 36 = .ok (.iload_n 2, 1) := by decide +kernel
theorem dX5_standingInCup_37 : decode cX5_standingInCup 37 = .ok (.ireturn, 1) := by decide +kernel
theorem dX6_init_0 : decode cX6_init 0 = .ok (.aload_n 0, 1) := by decide +kernel
theorem dX6_init_1 : decode cX6_init 1 = .ok (.invokespecial 1, 3) := by decide +kernel
theorem dX6_init_4 : decode cX6_init 4 = .ok (.aload_n 0, 1) := by decide +kernel
theorem dX6_init_5 : decode cX6_init 5 = .ok (.sipush 1000, 3) := by decide +kernel
theorem dX6_init_8 : decode cX6_init 8 = .ok (.newarray .int, 2) := by decide +kernel
theorem dX6_init_10 : decode cX6_init 10 = .ok (.putfield 7, 3) := by decide +kernel
theorem dX6_init_13 : decode cX6_init 13 = .ok (.aload_n 0, 1) := by decide +kernel
theorem dX6_init_14 : decode cX6_init 14 = .ok (.bipush 16, 2) := by decide +kernel
theorem dX6_init_16 : decode cX6_init 16 = .ok (.newarray .int, 2) := by decide +kernel
theorem dX6_init_18 : decode cX6_init 18 = .ok (.putfield 13, 3) := by decide +kernel
theorem dX6_init_21 : decode cX6_init 21 = .ok (.aload_n 0, 1) := by decide +kernel
theorem dX6_init_22 : decode cX6_init 22 = .ok (.bipush 16, 2) := by decide +kernel
theorem dX6_init_24 : decode cX6_init 24 = .ok (.newarray .int, 2) := by decide +kernel
theorem dX6_init_26 : decode cX6_init 26 = .ok (.putfield 16, 3) := by decide +kernel
theorem dX6_init_29 : decode cX6_init 29 = .ok (.aload_n 0, 1) := by decide +kernel
theorem dX6_init_30 : decode cX6_init 30 = .ok (.bipush 64, 2) := by decide +kernel
theorem dX6_init_32 : decode cX6_init 32 = .ok (.newarray .int, 2) := by decide +kernel
theorem dX6_init_34 : decode cX6_init 34 = .ok (.putfield 19, 3) := by decide +kernel
theorem dX6_init_37 : decode cX6_init 37 = .ok (.aload_n 0, 1) := by decide +kernel
theorem dX6_init_38 : decode cX6_init 38 = .ok (.bipush 16, 2) := by decide +kernel
theorem dX6_init_40 : decode cX6_init 40 = .ok (.newarray .int, 2) := by decide +kernel
theorem dX6_init_42 : decode cX6_init 42 = .ok (.putfield 22, 3) := by decide +kernel
theorem dX6_init_45 : decode cX6_init 45 = .ok (.aload_n 0, 1) := by decide +kernel
theorem dX6_init_46 : decode cX6_init 46 = .ok (.bipush 16, 2) := by decide +kernel
theorem dX6_init_48 : decode cX6_init 48 = .ok (.newarray .boolean, 2) := by decide +kernel
theorem dX6_init_50 : decode cX6_init 50 = .ok (.putfield 25, 3) := by decide +kernel
theorem dX6_init_53 : decode cX6_init 53 = .ok (.aload_n 0, 1) := by decide +kernel
theorem dX6_init_54 : decode cX6_init 54 = .ok (.bipush 16, 2) := by decide +kernel
theorem dX6_init_56 : decode cX6_init 56 = .ok (.newarray .int, 2) := by decide +kernel
theorem dX6_init_58 : decode cX6_init 58 = .ok (.putfield 29, 3) := by decide +kernel
theorem dX6_init_61 : decode cX6_init 61 = .ok (.aload_n 0, 1) := by decide +kernel
theorem dX6_init_62 : decode cX6_init 62 = .ok (.bipush 16, 2) := by decide +kernel
theorem dX6_init_64 : decode cX6_init 64 = .ok (.newarray .int, 2) := by decide +kernel
theorem dX6_init_66 : decode cX6_init 66 = .ok (.putfield 32, 3) := by decide +kernel
theorem dX6_init_69 : decode cX6_init 69 = .ok (.aload_n 0, 1) := by decide +kernel
theorem dX6_init_70 : decode cX6_init 70 = .ok (.bipush 16, 2) := by decide +kernel
theorem dX6_init_72 : decode cX6_init 72 = .ok (.newarray .int, 2) := by decide +kernel
theorem dX6_init_74 : decode cX6_init 74 = .ok (.putfield 35, 3) := by decide +kernel
theorem dX6_init_77 : decode cX6_init 77 = .ok (.aload_n 0, 1) := by decide +kernel
theorem dX6_init_78 : decode cX6_init 78 = .ok (.iconst (-1), 1) := by decide +kernel
theorem dX6_init_79 : decode cX6_init 79 = .ok (.putfield 38, 3) := by decide +kernel
theorem dX6_init_82 : decode cX6_init 82 = .ok (.aload_n 0, 1) := by decide +kernel
theorem dX6_init_83 : decode cX6_init 83 = .ok (.bipush 16, 2) := by decide +kernel
theorem dX6_init_85 : decode cX6_init 85 = .ok (.newarray .int, 2) := by decide +kernel
theorem dX6_init_87 : decode cX6_init 87 = .ok (.putfield 42, 3) := by decide +kernel
theorem dX6_init_90 : decode cX6_init 90 = .ok (.aload_n 0, 1) := by decide +kernel
theorem dX6_init_91 : decode cX6_init 91 = .ok (.bipush 8, 2) := by decide +kernel
theorem dX6_init_93 : decode cX6_init 93 = .ok (.newarray .int, 2) := by decide +kernel
theorem dX6_init_95 : decode cX6_init 95 = .ok (.putfield 45, 3) := by decide +kernel
theorem dX6_init_98 : decode cX6_init 98 = .ok (.aload_n 0, 1) := by decide +kernel
theorem dX6_init_99 : decode cX6_init 99 = .ok (.bipush 8, 2) := by decide +kernel
theorem dX6_init_101 : decode cX6_init 101 = .ok (.newarray .int, 2) := by decide +kernel
theorem dX6_init_103 : decode cX6_init 103 = .ok (.putfield 48, 3) := by decide +kernel
theorem dX6_init_106 : decode cX6_init 106 = .ok (.aload_n 0, 1) := by decide +kernel
theorem dX6_init_107 : decode cX6_init 107 = .ok (.bipush 8, 2) := by decide +kernel
theorem dX6_init_109 : decode cX6_init 109 = .ok (.newarray .int, 2) := by decide +kernel
theorem dX6_init_111 : decode cX6_init 111 = .ok (.putfield 51, 3) := by decide +kernel
theorem dX6_init_114 : decode cX6_init 114 = .ok (.aload_n 0, 1) := by decide +kernel
theorem dX6_init_115 : decode cX6_init 115 = .ok (.bipush 8, 2) := by decide +kernel
theorem dX6_init_117 : decode cX6_init 117 = .ok (.newarray .int, 2) := by decide +kernel
theorem dX6_init_119 : decode cX6_init 119 = .ok (.putfield 54, 3) := by decide +kernel
theorem dX6_init_122 : decode cX6_init 122 = .ok (.aload_n 0, 1) := by decide +kernel
theorem dX6_init_123 : decode cX6_init 123 = .ok (.bipush 8, 2) := by decide +kernel
theorem dX6_init_125 : decode cX6_init 125 = .ok (.newarray .boolean, 2) := by decide +kernel
theorem dX6_init_127 : decode cX6_init 127 = .ok (.putfield 57, 3) := by decide +kernel
theorem dX6_init_130 : decode cX6_init 130 = .ok (.aload_n 0, 1) := by decide +kernel
theorem dX6_init_131 : decode cX6_init 131 = .ok (.bipush 8, 2) := by decide +kernel
theorem dX6_init_133 : decode cX6_init 133 = .ok (.newarray .int, 2) := by decide +kernel
theorem dX6_init_135 : decode cX6_init 135 = .ok (.putfield 60, 3) := by decide +kernel
theorem dX6_init_138 : decode cX6_init 138 = .ok (.aload_n 0, 1) := by decide +kernel
theorem dX6_init_139 : decode cX6_init 139 = .ok (.bipush 8, 2) := by decide +kernel
theorem dX6_init_141 : decode cX6_init 141 = .ok (.newarray .int, 2) := by decide +kernel
theorem dX6_init_143 : decode cX6_init 143 = .ok (.putfield 63, 3) := by decide +kernel
theorem dX6_init_146 : decode cX6_init 146 = .ok (.aload_n 0, 1) := by decide +kernel
theorem dX6_init_147 : decode cX6_init 147 = .ok (.bipush 8, 2) := by decide +kernel
theorem dX6_init_149 : decode cX6_init 149 = .ok (.newarray .int, 2) := by decide +kernel
theorem dX6_init_151 : decode cX6_init 151 = .ok (.putfield 66, 3) := by decide +kernel
theorem dX6_init_154 : decode cX6_init 154 = .ok (.aload_n 0, 1) := by decide +kernel
theorem dX6_init_155 : decode cX6_init 155 = .ok (.bipush 8, 2) := by decide +kernel
theorem dX6_init_157 : decode cX6_init 157 = .ok (.newarray .int, 2) := by decide +kernel
theorem dX6_init_159 : decode cX6_init 159 = .ok (.putfield 69, 3) := by decide +kernel
theorem dX6_init_162 : decode cX6_init 162 = .ok (.aload_n 0, 1) := by decide +kernel
theorem dX6_init_163 : decode cX6_init 163 = .ok (.bipush 8, 2) := by decide +kernel
theorem dX6_init_165 : decode cX6_init 165 = .ok (.newarray .int, 2) := by decide +kernel
theorem dX6_init_167 : decode cX6_init 167 = .ok (.putfield 72, 3) := by decide +kernel
theorem dX6_init_170 : decode cX6_init 170 = .ok (.aload_n 0, 1) := by decide +kernel
theorem dX6_init_171 : decode cX6_init 171 = .ok (.bipush 8, 2) := by decide +kernel
theorem dX6_init_173 : decode cX6_init 173 = .ok (.newarray .int, 2) := by decide +kernel
theorem dX6_init_175 : decode cX6_init 175 = .ok (.putfield 75, 3) := by decide +kernel
theorem dX6_init_178 : decode cX6_init 178 = .ok (.aload_n 0, 1) := by decide +kernel
theorem dX6_init_179 : decode cX6_init 179 = .ok (.sipush 128, 3) := by decide +kernel
theorem dX6_init_182 : decode cX6_init 182 = .ok (.newarray .int, 2) := by decide +kernel
theorem dX6_init_184 : decode cX6_init 184 = .ok (.putfield 78, 3) := by decide +kernel
theorem dX6_init_187 : decode cX6_init 187 = .ok (.aload_n 0, 1) := by decide +kernel
theorem dX6_init_188 : decode cX6_init 188 = .ok (.sipush 128, 3) := by decide +kernel
theorem dX6_init_191 : decode cX6_init 191 = .ok (.newarray .int, 2) := by decide +kernel
theorem dX6_init_193 : decode cX6_init 193 = .ok (.putfield 81, 3) := by decide +kernel
theorem dX6_init_196 : decode cX6_init 196 = .ok (.aload_n 0, 1) := by decide +kernel
theorem dX6_init_197 : decode cX6_init 197 = .ok (.sipush 400, 3) := by decide +kernel
theorem dX6_init_200 : decode cX6_init 200 = .ok (.newarray .int, 2) := by decide +kernel
theorem dX6_init_202 : decode cX6_init 202 = .ok (.putfield 84, 3) := by decide +kernel
theorem dX6_init_205 : decode cX6_init 205 = .ok (.aload_n 0, 1) := by decide +kernel
theorem dX6_init_206 : decode cX6_init 206 = .ok (.sipush 400, 3) := by decide +kernel
theorem dX6_init_209 : decode cX6_init 209 = .ok (.newarray .int, 2) := by decide +kernel
theorem dX6_init_211 : decode cX6_init 211 = .ok (.putfield 87, 3) := by decide +kernel
theorem dX6_init_214 : decode cX6_init 214 = .ok (.aload_n 0, 1) := by decide +kernel
theorem dX6_init_215 : decode cX6_init 215 = .ok (.sipush 400, 3) := by decide +kernel
theorem dX6_init_218 : decode cX6_init 218 = .ok (.newarray .int, 2) := by decide +kernel
theorem dX6_init_220 : decode cX6_init 220 = .ok (.putfield 90, 3) := by decide +kernel
theorem dX6_init_223 : decode cX6_init 223 = .ok (.aload_n 0, 1) := by decide +kernel
theorem dX6_init_224 : decode cX6_init 224 = .ok (.sipush 400, 3) := by decide +kernel
theorem dX6_init_227 : decode cX6_init 227 = .ok (.newarray .int, 2) := by decide +kernel
theorem dX6_init_229 : decode cX6_init 229 = .ok (.putfield 93, 3) := by decide +kernel
theorem dX6_init_232 : decode cX6_init 232 = .ok (.aload_n 0, 1) := by decide +kernel
theorem dX6_init_233 : decode cX6_init 233 = .ok (.sipush 400, 3) := by decide +kernel
theorem dX6_init_236 : decode cX6_init 236 = .ok (.newarray .int, 2) := by decide +kernel
theorem dX6_init_238 : decode cX6_init 238 = .ok (.putfield 96, 3) := by decide +kernel
theorem dX6_init_241 : decode cX6_init 241 = .ok (.aload_n 0, 1) := by decide +kernel
theorem dX6_init_242 : decode cX6_init 242 = .ok (.sipush 400, 3) := by decide +kernel
theorem dX6_init_245 : decode cX6_init 245 = .ok (.newarray .int, 2) := by decide +kernel
theorem dX6_init_247 : decode cX6_init 247 = .ok (.putfield 99, 3) := by decide +kernel
theorem dX6_init_250 : decode cX6_init 250 = .ok (.aload_n 0, 1) := by decide +kernel
theorem dX6_init_251 : decode cX6_init 251 = .ok (.bipush 62, 2) := by decide +kernel
theorem dX6_init_253 : decode cX6_init 253 = .ok (.newarray .int, 2) := by decide +kernel
theorem dX6_init_255 : decode cX6_init 255 = .ok (.dup, 1) := by decide +kernel
theorem dX6_init_256 : decode cX6_init 256 = .ok (.iconst 0, 1) := by decide +kernel
theorem dX6_init_257 : decode cX6_init 257 = .ok (.bipush 102, 2) := by decide +kernel
theorem dX6_init_259 : decode cX6_init 259 = .ok (.iastore, 1) := by decide +kernel
theorem dX6_init_260 : decode cX6_init 260 = .ok (.dup, 1) := by decide +kernel
theorem dX6_init_261 : decode cX6_init 261 = .ok (.iconst 1, 1) := by decide +kernel
theorem dX6_init_262 : decode cX6_init 262 = .ok (.bipush 111, 2) := by decide +kernel
theorem dX6_init_264 : decode cX6_init 264 = .ok (.iastore, 1) := by decide +kernel
theorem dX6_init_265 : decode cX6_init 265 = .ok (.dup, 1) := by decide +kernel
theorem dX6_init_266 : decode cX6_init 266 = .ok (.iconst 2, 1) := by decide +kernel
theorem dX6_init_267 : decode cX6_init 267 = .ok (.bipush 114, 2) := by decide +kernel
theorem dX6_init_269 : decode cX6_init 269 = .ok (.iastore, 1) := by decide +kernel
theorem dX6_init_270 : decode cX6_init 270 = .ok (.dup, 1) := by decide +kernel
theorem dX6_init_271 : decode cX6_init 271 = .ok (.iconst 3, 1) := by decide +kernel
theorem dX6_init_272 : decode cX6_init 272 = .ok (.bipush 109, 2) := by decide +kernel
theorem dX6_init_274 : decode cX6_init 274 = .ok (.iastore, 1) := by decide +kernel
theorem dX6_init_275 : decode cX6_init 275 = .ok (.dup, 1) := by decide +kernel
theorem dX6_init_276 : decode cX6_init 276 = .ok (.iconst 4, 1) := by decide +kernel
theorem dX6_init_277 : decode cX6_init 277 = .ok (.bipush 97, 2) := by decide +kernel
theorem dX6_init_279 : decode cX6_init 279 = .ok (.iastore, 1) := by decide +kernel
theorem dX6_init_280 : decode cX6_init 280 = .ok (.dup, 1) := by decide +kernel
theorem dX6_init_281 : decode cX6_init 281 = .ok (.iconst 5, 1) := by decide +kernel
theorem dX6_init_282 : decode cX6_init 282 = .ok (.bipush 116, 2) := by decide +kernel
theorem dX6_init_284 : decode cX6_init 284 = .ok (.iastore, 1) := by decide +kernel
theorem dX6_init_285 : decode cX6_init 285 = .ok (.dup, 1) := by decide +kernel
theorem dX6_init_286 : decode cX6_init 286 = .ok (.bipush 6, 2) := by decide +kernel
theorem dX6_init_288 : decode cX6_init 288 = .ok (.bipush 32, 2) := by decide +kernel
theorem dX6_init_290 : decode cX6_init 290 = .ok (.iastore, 1) := by decide +kernel
theorem dX6_init_291 : decode cX6_init 291 = .ok (.dup, 1) := by decide +kernel
theorem dX6_init_292 : decode cX6_init 292 = .ok (.bipush 7, 2) := by decide +kernel
theorem dX6_init_294 : decode cX6_init 294 = .ok (.bipush 108, 2) := by decide +kernel
theorem dX6_init_296 : decode cX6_init 296 = .ok (.iastore, 1) := by decide +kernel
theorem dX6_init_297 : decode cX6_init 297 = .ok (.dup, 1) := by decide +kernel
theorem dX6_init_298 : decode cX6_init 298 = .ok (.bipush 8, 2) := by decide +kernel
theorem dX6_init_300 : decode cX6_init 300 = .ok (.bipush 97, 2) := by decide +kernel
theorem dX6_init_302 : decode cX6_init 302 = .ok (.iastore, 1) := by decide +kernel
theorem dX6_init_303 : decode cX6_init 303 = .ok (.dup, 1) := by decide +kernel
theorem dX6_init_304 : decode cX6_init 304 = .ok (.bipush 9, 2) := by decide +kernel
theorem dX6_init_306 : decode cX6_init 306 = .ok (.bipush 112, 2) := by decide +kernel
