theorem dX4_readLaps_6 : decode cX4_readLaps 6 = .ok (.ifCond .eq 13, 3) := by decide +kernel
theorem dX4_readLaps_9 : decode cX4_readLaps 9 = .ok (.aload_n 0, 1) := by decide +kernel
theorem dX4_readLaps_10 : decode cX4_readLaps 10 = .ok (.iconst 1, 1) := by decide +kernel
theorem dX4_readLaps_11 : decode cX4_readLaps 11 = .ok (.bipush 6, 2) := by decide +kernel
theorem dX4_readLaps_13 : decode cX4_readLaps 13 = .ok (.invokevirtual 85, 3) := by decide +kernel
theorem dX4_readLaps_16 : decode cX4_readLaps 16 = .ok (.ifCond .ne 5, 3) := by decide +kernel
theorem dX4_readLaps_19 : decode cX4_readLaps 19 = .ok (.iconst 0, 1) := by decide +kernel
theorem dX4_readLaps_20 : decode cX4_readLaps 20 = .ok (.ireturn, 1) := by decide +kernel
theorem dX4_readLaps_21 : decode cX4_readLaps 21 = .ok (.aload_n 1, 1) := by decide +kernel
theorem dX4_readLaps_22 : decode cX4_readLaps 22 = .ok (.aload_n 0, 1) := by decide +kernel
theorem dX4_readLaps_23 : decode cX4_readLaps 23 = .ok (.getfield 89, 3) := by decide +kernel
theorem dX4_readLaps_26 : decode cX4_readLaps 26 = .ok (.putfield 92, 3) := by decide +kernel
theorem dX4_readLaps_29 : decode cX4_readLaps 29 = .ok (.iconst 1, 1) := by decide +kernel
theorem dX4_readLaps_30 : decode cX4_readLaps 30 = .ok (.ireturn, 1) := by decide +kernel
theorem dX4_readShootings_0 : decode cX4_readShootings 0 = .ok (.aload_n 0, 1) := by decide +kernel
theorem dX4_readShootings_1 : decode cX4_readShootings 1 = .ok (.ldc 94, 2) := by decide +kernel
theorem dX4_readShootings_3 : decode cX4_readShootings 3 = .ok (.invokevirtual 50, 3) := by decide +kernel
theorem dX4_readShootings_6 : decode cX4_readShootings 6 = .ok (.ifCond .ne 5, 3) := by decide +kernel
theorem dX4_readShootings_9 : decode cX4_readShootings 9 = .ok (.iconst 0, 1) := by decide +kernel
theorem dX4_readShootings_10 : decode cX4_readShootings 10 = .ok (.ireturn, 1) := by decide +kernel
theorem dX4_readShootings_11 : decode cX4_readShootings 11 = .ok (.iconst 1, 1) := by decide +kernel
theorem dX4_readShootings_12 : decode cX4_readShootings 12 = .ok (.istore_n 2, 1) := by decide +kernel
theorem dX4_readShootings_13 : decode cX4_readShootings 13 = .ok (.iconst 0, 1) := by decide +kernel
theorem dX4_readShootings_14 : decode cX4_readShootings 14 = .ok (.istore_n 3, 1) := by decide +kernel
theorem dX4_readShootings_15 : decode cX4_readShootings 15 = .ok (.iload_n 3, 1) := by decide +kernel
theorem dX4_readShootings_16 : decode cX4_readShootings 16 = .ok (.iconst 4, 1) := by decide +kernel
theorem dX4_readShootings_17 : decode cX4_readShootings 17 = .ok (.if_icmp .ge 54, 3) := by decide +kernel
theorem dX4_readShootings_20 : decode cX4_readShootings 20 = .ok (.iload_n 3, 1) := by decide +kernel
theorem dX4_readShootings_21 : decode cX4_readShootings 21 = .ok (.ifCond .eq 11, 3) := by decide +kernel
theorem dX4_readShootings_24 : decode cX4_readShootings 24 = .ok (.aload_n 0, 1) := by decide +kernel
theorem dX4_readShootings_25 : decode cX4_readShootings 25 = .ok (.getfield 37, 3) := by decide +kernel
theorem dX4_readShootings_28 : decode cX4_readShootings 28 = .ok (.iconst 2, 1) := by decide +kernel
theorem dX4_readShootings_29 : decode cX4_readShootings 29 = .ok (.if_icmp .ne 42, 3) := by decide +kernel
theorem dX4_readShootings_32 : decode cX4_readShootings 32 = .ok (.aload_n 0, 1) := by decide +kernel
theorem dX4_readShootings_33 : decode cX4_readShootings 33 = .ok (.iload_n 2, 1) := by decide +kernel
theorem dX4_readShootings_34 : decode cX4_readShootings 34 = .ok (.aload_n 1, 1) := by decide +kernel
theorem dX4_readShootings_35 : decode cX4_readShootings 35 = .ok (.getfield 92, 3) := by decide +kernel
theorem dX4_readShootings_38 : decode cX4_readShootings 38 = .ok (.iconst 1, 1) := by decide +kernel
theorem dX4_readShootings_39 : decode cX4_readShootings 39 = .ok (.isub, 1) := by decide +kernel
theorem dX4_readShootings_40 : decode cX4_readShootings 40 = .ok (.invokevirtual 85, 3) := by decide +kernel
theorem dX4_readShootings_43 : decode cX4_readShootings 43 = .ok (.ifCond .ne 5, 3) := by decide +kernel
theorem dX4_readShootings_46 : decode cX4_readShootings 46 = .ok (.iconst 0, 1) := by decide +kernel
theorem dX4_readShootings_47 : decode cX4_readShootings 47 = .ok (.ireturn, 1) := by decide +kernel
theorem dX4_readShootings_48 : decode cX4_readShootings 48 = .ok (.aload_n 0, 1) := by decide +kernel
theorem dX4_readShootings_49 : decode cX4_readShootings 49 = .ok (.getfield 89, 3) := by decide +kernel
theorem dX4_readShootings_52 : decode cX4_readShootings 52 = .ok (.iconst 1, 1) := by decide +kernel
theorem dX4_readShootings_53 : decode cX4_readShootings 53 = .ok (.iadd, 1) := by decide +kernel
theorem dX4_readShootings_54 : decode cX4_readShootings 54 = .ok (.istore_n 2, 1) := by decide +kernel
theorem dX4_readShootings_55 : decode cX4_readShootings 55 = .ok (.aload_n 1, 1) := by decide +kernel
theorem dX4_readShootings_56 : decode cX4_readShootings 56 = .ok (.dup, 1) := by decide +kernel
theorem dX4_readShootings_57 : decode cX4_readShootings 57 = .ok (.getfield 96, 3) := by decide +kernel
theorem dX4_readShootings_60 : decode cX4_readShootings 60 = .ok (.iconst 1, 1) := by decide +kernel
theorem dX4_readShootings_61 : decode cX4_readShootings 61 = .ok (.iadd, 1) := by decide +kernel
theorem dX4_readShootings_62 : decode cX4_readShootings 62 = .ok (.putfield 96, 3) := by decide +kernel
theorem dX4_readShootings_65 : decode cX4_readShootings 65 = .ok (.iinc 3 1, 3) := by decide +kernel
theorem dX4_readShootings_68 : decode cX4_readShootings 68 = .ok (.goto (-53), 3) := by decide +kernel
theorem dX4_readShootings_71 : decode cX4_readShootings 71 = .ok (.aload_n 0, 1) := by decide +kernel
theorem dX4_readShootings_72 : decode cX4_readShootings 72 = .ok (.getfield 37, 3) := by decide +kernel
theorem dX4_readShootings_75 : decode cX4_readShootings 75 = .ok (.iconst 2, 1) := by decide +kernel
theorem dX4_readShootings_76 : decode cX4_readShootings 76 = .ok (.if_icmp .ne 11, 3) := by decide +kernel
theorem dX4_readShootings_79 : decode cX4_readShootings 79 = .ok (.aload_n 0, 1) := by decide +kernel
theorem dX4_readShootings_80 : decode cX4_readShootings 80 = .ok (.iconst 2, 1) := by decide +kernel
theorem dX4_readShootings_81 : decode cX4_readShootings 81 = .ok (.invokevirtual 44, 3) := by decide +kernel
theorem dX4_readShootings_84 : decode cX4_readShootings 84 = .ok (.ifCond .eq 7, 3) := by decide +kernel
theorem dX4_readShootings_87 : decode cX4_readShootings 87 = .ok (.iconst 1, 1) := by decide +kernel
theorem dX4_readShootings_88 : decode cX4_readShootings 88 = .ok (.goto 4, 3) := by decide +kernel
theorem dX4_readShootings_91 : decode cX4_readShootings 91 = .ok (.iconst 0, 1) := by decide +kernel
theorem dX4_readShootings_92 : decode cX4_readShootings 92 = .ok (.ireturn, 1) := by decide +kernel
theorem dX4_readSpares_0 : decode cX4_readSpares 0 = .ok (.aload_n 0, 1) := by decide +kernel
theorem dX4_readSpares_1 : decode cX4_readSpares 1 = .ok (.ldc 99, 2) := by decide +kernel
theorem dX4_readSpares_3 : decode cX4_readSpares 3 = .ok (.invokevirtual 50, 3) := by decide +kernel
theorem dX4_readSpares_6 : decode cX4_readSpares 6 = .ok (.ifCond .eq 12, 3) := by decide +kernel
theorem dX4_readSpares_9 : decode cX4_readSpares 9 = .ok (.aload_n 0, 1) := by decide +kernel
theorem dX4_readSpares_10 : decode cX4_readSpares 10 = .ok (.iconst 0, 1) := by decide +kernel
theorem dX4_readSpares_11 : decode cX4_readSpares 11 = .ok (.iconst 3, 1) := by decide +kernel
theorem dX4_readSpares_12 : decode cX4_readSpares 12 = .ok (.invokevirtual 85, 3) := by decide +kernel
theorem dX4_readSpares_15 : decode cX4_readSpares 15 = .ok (.ifCond .ne 5, 3) := by decide +kernel
theorem dX4_readSpares_18 : decode cX4_readSpares 18 = .ok (.iconst 0, 1) := by decide +kernel
theorem dX4_readSpares_19 : decode cX4_readSpares 19 = .ok (.ireturn, 1) := by decide +kernel
theorem dX4_readSpares_20 : decode cX4_readSpares 20 = .ok (.aload_n 1, 1) := by decide +kernel
theorem dX4_readSpares_21 : decode cX4_readSpares 21 = .ok (.aload_n 0, 1) := by decide +kernel
theorem dX4_readSpares_22 : decode cX4_readSpares 22 = .ok (.getfield 89, 3) := by decide +kernel
theorem dX4_readSpares_25 : decode cX4_readSpares 25 = .ok (.putfield 101, 3) := by decide +kernel
theorem dX4_readSpares_28 : decode cX4_readSpares 28 = .ok (.iconst 1, 1) := by decide +kernel
theorem dX4_readSpares_29 : decode cX4_readSpares 29 = .ok (.ireturn, 1) := by decide +kernel
theorem dX4_readMiss_0 : decode cX4_readMiss 0 = .ok (.aload_n 0, 1) := by decide +kernel
theorem dX4_readMiss_1 : decode cX4_readMiss 1 = .ok (.ldc 103, 2) := by decide +kernel
theorem dX4_readMiss_3 : decode cX4_readMiss 3 = .ok (.invokevirtual 50, 3) := by decide +kernel
theorem dX4_readMiss_6 : decode cX4_readMiss 6 = .ok (.ifCond .ne 5, 3) := by decide +kernel
theorem dX4_readMiss_9 : decode cX4_readMiss 9 = .ok (.iconst 0, 1) := by decide +kernel
theorem dX4_readMiss_10 : decode cX4_readMiss 10 = .ok (.ireturn, 1) := by decide +kernel
theorem dX4_readMiss_11 : decode cX4_readMiss 11 = .ok (.aload_n 1, 1) := by decide +kernel
theorem dX4_readMiss_12 : decode cX4_readMiss 12 = .ok (.aload_n 0, 1) := by decide +kernel
theorem dX4_readMiss_13 : decode cX4_readMiss 13 = .ok (.ldc 105, 2) := by decide +kernel
theorem dX4_readMiss_15 : decode cX4_readMiss 15 = .ok (.invokevirtual 107, 3) := by decide +kernel
theorem dX4_readMiss_18 : decode cX4_readMiss 18 = .ok (.putfield 110, 3) := by decide +kernel
theorem dX4_readMiss_21 : decode cX4_readMiss 21 = .ok (.aload_n 1, 1) := by decide +kernel
theorem dX4_readMiss_22 : decode cX4_readMiss 22 = .ok (.getfield 110, 3) := by decide +kernel
theorem dX4_readMiss_25 : decode cX4_readMiss 25 = .ok (.ifCond .ne 18, 3) := by decide +kernel
theorem dX4_readMiss_28 : decode cX4_readMiss 28 = .ok (.aload_n 0, 1) := by decide +kernel
theorem dX4_readMiss_29 : decode cX4_readMiss 29 = .ok (.ldc 114, 2) := by decide +kernel
theorem dX4_readMiss_31 : decode cX4_readMiss 31 = .ok (.invokevirtual 107, 3) := by decide +kernel
theorem dX4_readMiss_34 : decode cX4_readMiss 34 = .ok (.ifCond .ne 9, 3) := by decide +kernel
theorem dX4_readMiss_37 : decode cX4_readMiss 37 = .ok (.aload_n 0, 1) := by decide +kernel
theorem dX4_readMiss_38 : decode cX4_readMiss 38 = .ok (.iconst 1, 1) := by decide +kernel
theorem dX4_readMiss_39 : decode cX4_readMiss 39 = .ok (.invokevirtual 44, 3) := by decide +kernel
theorem dX4_readMiss_42 : decode cX4_readMiss 42 = .ok (.ireturn, 1) := by decide +kernel
theorem dX4_readMiss_43 : decode cX4_readMiss 43 = .ok (.aload_n 0, 1) := by decide +kernel
theorem dX4_readMiss_44 : decode cX4_readMiss 44 = .ok (.invokevirtual 34, 3) := by decide +kernel
theorem dX4_readMiss_47 : decode cX4_readMiss 47 = .ok (.aload_n 0, 1) := by decide +kernel
theorem dX4_readMiss_48 : decode cX4_readMiss 48 = .ok (.iconst 0, 1) := by decide +kernel
theorem dX4_readMiss_49 : decode cX4_readMiss 49 = .ok (.sipush 600, 3) := by decide +kernel
theorem dX4_readMiss_52 : decode cX4_readMiss 52 = .ok (.invokevirtual 85, 3) := by decide +kernel
theorem dX4_readMiss_55 : decode cX4_readMiss 55 = .ok (.ifCond .ne 5, 3) := by decide +kernel
theorem dX4_readMiss_58 : decode cX4_readMiss 58 = .ok (.iconst 0, 1) := by decide +kernel
theorem dX4_readMiss_59 : decode cX4_readMiss 59 = .ok (.ireturn, 1) := by decide +kernel
theorem dX4_readMiss_60 : decode cX4_readMiss 60 = .ok (.aload_n 1, 1) := by decide +kernel
theorem dX4_readMiss_61 : decode cX4_readMiss 61 = .ok (.aload_n 0, 1) := by decide +kernel
theorem dX4_readMiss_62 : decode cX4_readMiss 62 = .ok (.getfield 89, 3) := by decide +kernel
theorem dX4_readMiss_65 : decode cX4_readMiss 65 = .ok (.putfield 116, 3) := by decide +kernel
theorem dX4_readMiss_68 : decode cX4_readMiss 68 = .ok (.iconst 1, 1) := by decide +kernel
theorem dX4_readMiss_69 : decode cX4_readMiss 69 = .ok (.ireturn, 1) := by decide +kernel
theorem dX4_readStart_0 : decode cX4_readStart 0 = .ok (.aload_n 0, 1) := by decide +kernel
theorem dX4_readStart_1 : decode cX4_readStart 1 = .ok (.ldc 119, 2) := by decide +kernel
theorem dX4_readStart_3 : decode cX4_readStart 3 = .ok (.invokevirtual 50, 3) := by decide +kernel
theorem dX4_readStart_6 : decode cX4_readStart 6 = .ok (.ifCond .ne 5, 3) := by decide +kernel
theorem dX4_readStart_9 : decode cX4_readStart 9 = .ok (.iconst 0, 1) := by decide +kernel
theorem dX4_readStart_10 : decode cX4_readStart 10 = .ok (.ireturn, 1) := by decide +kernel
theorem dX4_readStart_11 : decode cX4_readStart 11 = .ok (.aload_n 0, 1) := by decide +kernel
theorem dX4_readStart_12 : decode cX4_readStart 12 = .ok (.ldc 121, 2) := by decide +kernel
theorem dX4_readStart_14 : decode cX4_readStart 14 = .ok (.invokevirtual 107, 3) := by decide +kernel
theorem dX4_readStart_17 : decode cX4_readStart 17 = .ok (.ifCond .eq 14, 3) := by decide +kernel
theorem dX4_readStart_20 : decode cX4_readStart 20 = .ok (.aload_n 1, 1) := by decide +kernel
theorem dX4_readStart_21 : decode cX4_readStart 21 = .ok (.iconst 0, 1) := by decide +kernel
theorem dX4_readStart_22 : decode cX4_readStart 22 = .ok (.putfield 123, 3) := by decide +kernel
theorem dX4_readStart_25 : decode cX4_readStart 25 = .ok (.aload_n 0, 1) := by decide +kernel
theorem dX4_readStart_26 : decode cX4_readStart 26 = .ok (.invokevirtual 34, 3) := by decide +kernel
theorem dX4_readStart_29 : decode cX4_readStart 29 = .ok (.iconst 1, 1) := by decide +kernel
theorem dX4_readStart_30 : decode cX4_readStart 30 = .ok (.ireturn, 1) := by decide +kernel
theorem dX4_readStart_31 : decode cX4_readStart 31 = .ok (.aload_n 0, 1) := by decide +kernel
theorem dX4_readStart_32 : decode cX4_readStart 32 = .ok (.ldc 126, 2) := by decide +kernel
theorem dX4_readStart_34 : decode cX4_readStart 34 = .ok (.invokevirtual 107, 3) := by decide +kernel
theorem dX4_readStart_37 : decode cX4_readStart 37 = .ok (.istore_n 2, 1) := by decide +kernel
theorem dX4_readStart_38 : decode cX4_readStart 38 = .ok (.iload_n 2, 1) := by decide +kernel
theorem dX4_readStart_39 : decode cX4_readStart 39 = .ok (.ifCond .ne 18, 3) := by decide +kernel
theorem dX4_readStart_42 : decode cX4_readStart 42 = .ok (.aload_n 0, 1) := by decide +kernel
theorem dX4_readStart_43 : decode cX4_readStart 43 = .ok (.ldc 128, 2) := by decide +kernel
theorem dX4_readStart_45 : decode cX4_readStart 45 = .ok (.invokevirtual 107, 3) := by decide +kernel
theorem dX4_readStart_48 : decode cX4_readStart 48 = .ok (.ifCond .ne 9, 3) := by decide +kernel
theorem dX4_readStart_51 : decode cX4_readStart 51 = .ok (.aload_n 0, 1) := by decide +kernel
theorem dX4_readStart_52 : decode cX4_readStart 52 = .ok (.iconst 1, 1) := by decide +kernel
theorem dX4_readStart_53 : decode cX4_readStart 53 = .ok (.invokevirtual 44, 3) := by decide +kernel
theorem dX4_readStart_56 : decode cX4_readStart 56 = .ok (.ireturn, 1) := by decide +kernel
theorem dX4_readStart_57 : decode cX4_readStart 57 = .ok (.aload_n 1, 1) := by decide +kernel
theorem dX4_readStart_58 : decode cX4_readStart 58 = .ok (.iload_n 2, 1) := by decide +kernel
theorem dX4_readStart_59 : decode cX4_readStart 59 = .ok (.ifCond .eq 7, 3) := by decide +kernel
theorem dX4_readStart_62 : decode cX4_readStart 62 = .ok (.iconst 2, 1) := by decide +kernel
theorem dX4_readStart_63 : decode cX4_readStart 63 = .ok (.goto 4, 3) := by decide +kernel
theorem dX4_readStart_66 : decode cX4_readStart 66 = .ok (.iconst 1, 1) := by decide +kernel
theorem dX4_readStart_67 : decode cX4_readStart 67 = .ok (.putfield 123, 3) := by decide +kernel
theorem dX4_readStart_70 : decode cX4_readStart 70 = .ok (.aload_n 0, 1) := by decide +kernel
theorem dX4_readStart_71 : decode cX4_readStart 71 = .ok (.invokevirtual 34, 3) := by decide +kernel
theorem dX4_readStart_74 : decode cX4_readStart 74 = .ok (.aload_n 0, 1) := by decide +kernel
theorem dX4_readStart_75 : decode cX4_readStart 75 = .ok (.iload_n 2, 1) := by decide +kernel
theorem dX4_readStart_76 : decode cX4_readStart 76 = .ok (.ifCond .eq 7, 3) := by decide +kernel
theorem dX4_readStart_79 : decode cX4_readStart 79 = .ok (.iconst 0, 1) := by decide +kernel
theorem dX4_readStart_80 : decode cX4_readStart 80 = .ok (.goto 4, 3) := by decide +kernel
theorem dX4_readStart_83 : decode cX4_readStart 83 = .ok (.iconst 1, 1) := by decide +kernel
theorem dX4_readStart_84 : decode cX4_readStart 84 = .ok (.iload_n 2, 1) := by decide +kernel
theorem dX4_readStart_85 : decode cX4_readStart 85 = .ok (.ifCond .eq 9, 3) := by decide +kernel
theorem dX4_readStart_88 : decode cX4_readStart 88 = .ok (.sipush 3600, 3) := by decide +kernel
theorem dX4_readStart_91 : decode cX4_readStart 91 = .ok (.goto 6, 3) := by decide +kernel
theorem dX4_readStart_94 : decode cX4_readStart 94 = .ok (.sipush 600, 3) := by decide +kernel
theorem dX4_readStart_97 : decode cX4_readStart 97 = .ok (.invokevirtual 85, 3) := by decide +kernel
theorem dX4_readStart_100 : decode cX4_readStart 100 = .ok (.ifCond .ne 5, 3) := by decide +kernel
theorem dX4_readStart_103 : decode cX4_readStart 103 = .ok (.iconst 0, 1) := by decide +kernel
theorem dX4_readStart_104 : decode cX4_readStart 104 = .ok (.ireturn, 1) := by decide +kernel
theorem dX4_readStart_105 : decode cX4_readStart 105 = .ok (.aload_n 1, 1) := by decide +kernel
theorem dX4_readStart_106 : decode cX4_readStart 106 = .ok (.aload_n 0, 1) := by decide +kernel
theorem dX4_readStart_107 : decode cX4_readStart 107 = .ok (.getfield 89, 3) := by decide +kernel
theorem dX4_readStart_110 : decode cX4_readStart 110 = .ok (.putfield 130, 3) := by decide +kernel
theorem dX4_readStart_113 : decode cX4_readStart 113 = .ok (.iconst 1, 1) := by decide +kernel
theorem dX4_readStart_114 : decode cX4_readStart 114 = .ok (.ireturn, 1) := by decide +kernel
theorem dX4_readWord_0 : decode cX4_readWord 0 = .ok (.aload_n 0, 1) := by decide +kernel
theorem dX4_readWord_1 : decode cX4_readWord 1 = .ok (.aload_n 1, 1) := by decide +kernel
theorem dX4_readWord_2 : decode cX4_readWord 2 = .ok (.invokevirtual 107, 3) := by decide +kernel
theorem dX4_readWord_5 : decode cX4_readWord 5 = .ok (.ifCond .ne 9, 3) := by decide +kernel
theorem dX4_readWord_8 : decode cX4_readWord 8 = .ok (.aload_n 0, 1) := by decide +kernel
theorem dX4_readWord_9 : decode cX4_readWord 9 = .ok (.iconst 1, 1) := by decide +kernel
theorem dX4_readWord_10 : decode cX4_readWord 10 = .ok (.invokevirtual 44, 3) := by decide +kernel
theorem dX4_readWord_13 : decode cX4_readWord 13 = .ok (.ireturn, 1) := by decide +kernel
theorem dX4_readWord_14 : decode cX4_readWord 14 = .ok (.aload_n 0, 1) := by decide +kernel
theorem dX4_readWord_15 : decode cX4_readWord 15 = .ok (.invokevirtual 34, 3) := by decide +kernel
theorem dX4_readWord_18 : decode cX4_readWord 18 = .ok (.iconst 1, 1) := by decide +kernel
theorem dX4_readWord_19 : decode cX4_readWord 19 = .ok (.ireturn, 1) := by decide +kernel
theorem dX4_readSign_0 : decode cX4_readSign 0 = .ok (.aload_n 0, 1) := by decide +kernel
theorem dX4_readSign_1 : decode cX4_readSign 1 = .ok (.getfield 37, 3) := by decide +kernel
theorem dX4_readSign_4 : decode cX4_readSign 4 = .ok (.iconst 3, 1) := by decide +kernel
theorem dX4_readSign_5 : decode cX4_readSign 5 = .ok (.if_icmp .ne 16, 3) := by decide +kernel
theorem dX4_readSign_8 : decode cX4_readSign 8 = .ok (.aload_n 0, 1) := by decide +kernel
theorem dX4_readSign_9 : decode cX4_readSign 9 = .ok (.getfield 9, 3) := by decide +kernel
theorem dX4_readSign_12 : decode cX4_readSign 12 = .ok (.aload_n 0, 1) := by decide +kernel
theorem dX4_readSign_13 : decode cX4_readSign 13 = .ok (.getfield 54, 3) := by decide +kernel
theorem dX4_readSign_16 : decode cX4_readSign 16 = .ok (.baload, 1) := by decide +kernel
theorem dX4_readSign_17 : decode cX4_readSign 17 = .ok (.iload_n 1, 1) := by decide +kernel
theorem dX4_readSign_18 : decode cX4_readSign 18 = .ok (.if_icmp .eq 9, 3) := by decide +kernel
theorem dX4_readSign_21 : decode cX4_readSign 21 = .ok (.aload_n 0, 1) := by decide +kernel
theorem dX4_readSign_22 : decode cX4_readSign 22 = .ok (.iconst 1, 1) := by decide +kernel
theorem dX4_readSign_23 : decode cX4_readSign 23 = .ok (.invokevirtual 44, 3) := by decide +kernel
theorem dX4_readSign_26 : decode cX4_readSign 26 = .ok (.ireturn, 1) := by decide +kernel
theorem dX4_readSign_27 : decode cX4_readSign 27 = .ok (.aload_n 0, 1) := by decide +kernel
theorem dX4_readSign_28 : decode cX4_readSign 28 = .ok (.invokevirtual 34, 3) := by decide +kernel
theorem dX4_readSign_31 : decode cX4_readSign 31 = .ok (.iconst 1, 1) := by decide +kernel
theorem dX4_readSign_32 : decode cX4_readSign 32 = .ok (.ireturn, 1) := by decide +kernel
theorem dX4_readNumber_0 : decode cX4_readNumber 0 = .ok (.aload_n 0, 1) := by decide +kernel
theorem dX4_readNumber_1 : decode cX4_readNumber 1 = .ok (.getfield 37, 3) := by decide +kernel
theorem dX4_readNumber_4 : decode cX4_readNumber 4 = .ok (.iconst 2, 1) := by decide +kernel
theorem dX4_readNumber_5 : decode cX4_readNumber 5 = .ok (.if_icmp .eq 9, 3) := by decide +kernel
theorem dX4_readNumber_8 : decode cX4_readNumber 8 = .ok (.aload_n 0, 1) := by decide +kernel
theorem dX4_readNumber_9 : decode cX4_readNumber 9 = .ok (.iconst 1, 1) := by decide +kernel
theorem dX4_readNumber_10 : decode cX4_readNumber 10 = .ok (.invokevirtual 44, 3) := by decide +kernel
theorem dX4_readNumber_13 : decode cX4_readNumber 13 = .ok (.ireturn, 1) := by decide +kernel
theorem dX4_readNumber_14 : decode cX4_readNumber 14 = .ok (.aload_n 0, 1) := by decide +kernel
theorem dX4_readNumber_15 : decode cX4_readNumber 15 = .ok (.iconst 0, 1) := by decide +kernel
theorem dX4_readNumber_16 : decode cX4_readNumber 16 = .ok (.putfield 89, 3) := by decide +kernel
theorem dX4_readNumber_19 : decode cX4_readNumber 19 = .ok (.aload_n 0, 1) := by decide +kernel
theorem dX4_readNumber_20 : decode cX4_readNumber 20 = .ok (.getfield 54, 3) := by decide +kernel
theorem dX4_readNumber_23 : decode cX4_readNumber 23 = .ok (.istore_n 3, 1) := by decide +kernel
theorem dX4_readNumber_24 : decode cX4_readNumber 24 = .ok (.iload_n 3, 1) := by decide +kernel
theorem dX4_readNumber_25 : decode cX4_readNumber 25 = .ok (.aload_n 0, 1) := by decide +kernel
theorem dX4_readNumber_26 : decode cX4_readNumber 26 = .ok (.getfield 133, 3) := by decide +kernel
theorem dX4_readNumber_29 : decode cX4_readNumber 29 = .ok (.if_icmp .ge 35, 3) := by decide +kernel
theorem dX4_readNumber_32 : decode cX4_readNumber 32 = .ok (.aload_n 0, 1) := by decide +kernel
theorem dX4_readNumber_33 : decode cX4_readNumber 33 = .ok (.aload_n 0, 1) := by decide +kernel
theorem dX4_readNumber_34 : decode cX4_readNumber 34 = .ok (.getfield 89, 3) := by decide +kernel
theorem dX4_readNumber_37 : decode cX4_readNumber 37 = .ok (.bipush 10, 2) := by decide +kernel
theorem dX4_readNumber_39 : decode cX4_readNumber 39 = .ok (.imul, 1) := by decide +kernel
theorem dX4_readNumber_40 : decode cX4_readNumber 40 = .ok (.aload_n 0, 1) := by decide +kernel
theorem dX4_readNumber_41 : decode cX4_readNumber 41 = .ok (.getfield 9, 3) := by decide +kernel
theorem dX4_readNumber_44 : decode cX4_readNumber 44 = .ok (.iload_n 3, 1) := by decide +kernel
theorem dX4_readNumber_45 : decode cX4_readNumber 45 = .ok (.baload, 1) := by decide +kernel
theorem dX4_readNumber_46 : decode cX4_readNumber 46 = .ok (.iadd, 1) := by decide +kernel
theorem dX4_readNumber_47 : decode cX4_readNumber 47 = .ok (.bipush 48, 2) := by decide +kernel
theorem dX4_readNumber_49 : decode cX4_readNumber 49 = .ok (.isub, 1) := by decide +kernel
theorem dX4_readNumber_50 : decode cX4_readNumber 50 = .ok (.ldc 136, 2) := by decide +kernel
theorem dX4_readNumber_52 : decode cX4_readNumber 52 = .ok (.invokestatic 15, 3) := by decide +kernel
theorem dX4_readNumber_55 : decode cX4_readNumber 55 = .ok (.putfield 89, 3) := by decide +kernel
theorem dX4_readNumber_58 : decode cX4_readNumber 58 = .ok (.iinc 3 1, 3) := by decide +kernel
theorem dX4_readNumber_61 : decode cX4_readNumber 61 = .ok (.goto (-37), 3) := by decide +kernel
theorem dX4_readNumber_64 : decode cX4_readNumber 64 = .ok (.aload_n 0, 1) := by decide +kernel
theorem dX4_readNumber_65 : decode cX4_readNumber 65 = .ok (.getfield 89, 3) := by decide +kernel
theorem dX4_readNumber_68 : decode cX4_readNumber 68 = .ok (.iload_n 1, 1) := by decide +kernel
theorem dX4_readNumber_69 : decode cX4_readNumber 69 = .ok (.if_icmp .lt 11, 3) := by decide +kernel
theorem dX4_readNumber_72 : decode cX4_readNumber 72 = .ok (.aload_n 0, 1) := by decide +kernel
theorem dX4_readNumber_73 : decode cX4_readNumber 73 = .ok (.getfield 89, 3) := by decide +kernel
theorem dX4_readNumber_76 : decode cX4_readNumber 76 = .ok (.iload_n 2, 1) := by decide +kernel
theorem dX4_readNumber_77 : decode cX4_readNumber 77 = .ok (.if_icmp .le 9, 3) := by decide +kernel
theorem dX4_readNumber_80 : decode cX4_readNumber 80 = .ok (.aload_n 0, 1) := by decide +kernel
theorem dX4_readNumber_81 : decode cX4_readNumber 81 = .ok (.iconst 2, 1) := by decide +kernel
theorem dX4_readNumber_82 : decode cX4_readNumber 82 = .ok (.invokevirtual 44, 3) := by decide +kernel
theorem dX4_readNumber_85 : decode cX4_readNumber 85 = .ok (.ireturn, 1) := by decide +kernel
theorem dX4_readNumber_86 : decode cX4_readNumber 86 = .ok (.aload_n 0, 1) := by decide +kernel
theorem dX4_readNumber_87 : decode cX4_readNumber 87 = .ok (.invokevirtual 34, 3) := by decide +kernel
theorem dX4_readNumber_90 : decode cX4_readNumber 90 = .ok (.iconst 1, 1) := by decide +kernel
theorem dX4_readNumber_91 : decode cX4_readNumber 91 = .ok (.ireturn, 1) := by decide +kernel
theorem dX4_fail_0 : decode cX4_fail 0 = .ok (.aload_n 0, 1) := by decide +kernel
theorem dX4_fail_1 : decode cX4_fail 1 = .ok (.iload_n 1, 1) := by decide +kernel
theorem dX4_fail_2 : decode cX4_fail 2 = .ok (.putfield 137, 3) := by decide +kernel
theorem dX4_fail_5 : decode cX4_fail 5 = .ok (.aload_n 0, 1) := by decide +kernel
theorem dX4_fail_6 : decode cX4_fail 6 = .ok (.aload_n 0, 1) := by decide +kernel
theorem dX4_fail_7 : decode cX4_fail 7 = .ok (.getfield 54, 3) := by decide +kernel
theorem dX4_fail_10 : decode cX4_fail 10 = .ok (.putfield 31, 3) := by decide +kernel
theorem dX4_fail_13 : decode cX4_fail 13 = .ok (.iconst 0, 1) := by decide +kernel
theorem dX4_fail_14 : decode cX4_fail 14 = .ok (.ireturn, 1) := by decide +kernel
theorem dX4_isWord_0 : decode cX4_isWord 0 = .ok (.aload_n 0, 1) := by decide +kernel
theorem dX4_isWord_1 : decode cX4_isWord 1 = .ok (.getfield 37, 3) := by decide +kernel
theorem dX4_isWord_4 : decode cX4_isWord 4 = .ok (.iconst 1, 1) := by decide +kernel
theorem dX4_isWord_5 : decode cX4_isWord 5 = .ok (.if_icmp .ne 19, 3) := by decide +kernel
theorem dX4_isWord_8 : decode cX4_isWord 8 = .ok (.aload_n 0, 1) := by decide +kernel
theorem dX4_isWord_9 : decode cX4_isWord 9 = .ok (.getfield 133, 3) := by decide +kernel
theorem dX4_isWord_12 : decode cX4_isWord 12 = .ok (.aload_n 0, 1) := by decide +kernel
theorem dX4_isWord_13 : decode cX4_isWord 13 = .ok (.getfield 54, 3) := by decide +kernel
theorem dX4_isWord_16 : decode cX4_isWord 16 = .ok (.isub, 1) := by decide +kernel
theorem dX4_isWord_17 : decode cX4_isWord 17 = .ok (.aload_n 1, 1) := by decide +kernel
theorem dX4_isWord_18 : decode cX4_isWord 18 = .ok (.invokevirtual 140, 3) := by decide +kernel
theorem dX4_isWord_21 : decode cX4_isWord 21 = .ok (.if_icmp .eq 5, 3) := by decide +kernel
theorem dX4_isWord_24 : decode cX4_isWord 24 = .ok (.iconst 0, 1) := by decide +kernel
theorem dX4_isWord_25 : decode cX4_isWord 25 = .ok (.ireturn, 1) := by decide +kernel
theorem dX4_isWord_26 : decode cX4_isWord 26 = .ok (.iconst 0, 1) := by decide +kernel
theorem dX4_isWord_27 : decode cX4_isWord 27 = .ok (.istore_n 2, 1) := by decide +kernel
theorem dX4_isWord_28 : decode cX4_isWord 28 = .ok (.iload_n 2, 1) := by decide +kernel
theorem dX4_isWord_29 : decode cX4_isWord 29 = .ok (.aload_n 1, 1) := by decide +kernel
theorem dX4_isWord_30 : decode cX4_isWord 30 = .ok (.invokevirtual 140, 3) := by decide +kernel
theorem dX4_isWord_33 : decode cX4_isWord 33 = .ok (.if_icmp .ge 30, 3) := by decide +kernel
theorem dX4_isWord_36 : decode cX4_isWord 36 = .ok (.aload_n 0, 1) := by decide +kernel
theorem dX4_isWord_37 : decode cX4_isWord 37 = .ok (.getfield 9, 3) := by decide +kernel
theorem dX4_isWord_40 : decode cX4_isWord 40 = .ok (.aload_n 0, 1) := by decide +kernel
theorem dX4_isWord_41 : decode cX4_isWord 41 = .ok (.getfield 54, 3) := by decide +kernel
theorem dX4_isWord_44 : decode cX4_isWord 44 = .ok (.iload_n 2, 1) := by decide +kernel
theorem dX4_isWord_45 : decode cX4_isWord 45 = .ok (.iadd, 1) := by decide +kernel
theorem dX4_isWord_46 : decode cX4_isWord 46 = .ok (.baload, 1) := by decide +kernel
theorem dX4_isWord_47 : decode cX4_isWord 47 = .ok (.aload_n 1, 1) := by decide +kernel
theorem dX4_isWord_48 : decode cX4_isWord 48 = .ok (.iload_n 2, 1) := by decide +kernel
theorem dX4_isWord_49 : decode cX4_isWord 49 = .ok (.invokevirtual 145, 3) := by decide +kernel
theorem dX4_isWord_52 : decode cX4_isWord 52 = .ok (.if_icmp .eq 5, 3) := by decide +kernel
theorem dX4_isWord_55 : decode cX4_isWord 55 = .ok (.iconst 0, 1) := by decide +kernel
theorem dX4_isWord_56 : decode cX4_isWord 56 = .ok (.ireturn, 1) := by decide +kernel
theorem dX4_isWord_57 : decode cX4_isWord 57 = .ok (.iinc 2 1, 3) := by decide +kernel
theorem dX4_isWord_60 : decode cX4_isWord 60 = .ok (.goto (-32), 3) := by decide +kernel
theorem dX4_isWord_63 : decode cX4_isWord 63 = .ok (.iconst 1, 1) := by decide +kernel
theorem dX4_isWord_64 : decode cX4_isWord 64 = .ok (.ireturn, 1) := by decide +kernel
theorem dX4_step_0 : decode cX4_step 0 = .ok (.aload_n 0, 1) := by decide +kernel
theorem dX4_step_1 : decode cX4_step 1 = .ok (.aload_n 0, 1) := by decide +kernel
theorem dX4_step_2 : decode cX4_step 2 = .ok (.getfield 133, 3) := by decide +kernel
theorem dX4_step_5 : decode cX4_step 5 = .ok (.putfield 54, 3) := by decide +kernel
theorem dX4_step_8 : decode cX4_step 8 = .ok (.aload_n 0, 1) := by decide +kernel
theorem dX4_step_9 : decode cX4_step 9 = .ok (.getfield 54, 3) := by decide +kernel
theorem dX4_step_12 : decode cX4_step 12 = .ok (.aload_n 0, 1) := by decide +kernel
theorem dX4_step_13 : decode cX4_step 13 = .ok (.getfield 21, 3) := by decide +kernel
theorem dX4_step_16 : decode cX4_step 16 = .ok (.if_icmp .ge 28, 3) := by decide +kernel
theorem dX4_step_19 : decode cX4_step 19 = .ok (.aload_n 0, 1) := by decide +kernel
theorem dX4_step_20 : decode cX4_step 20 = .ok (.aload_n 0, 1) := by decide +kernel
theorem dX4_step_21 : decode cX4_step 21 = .ok (.getfield 54, 3) := by decide +kernel
theorem dX4_step_24 : decode cX4_step 24 = .ok (.invokevirtual 149, 3) := by decide +kernel
theorem dX4_step_27 : decode cX4_step 27 = .ok (.iconst 4, 1) := by decide +kernel
theorem dX4_step_28 : decode cX4_step 28 = .ok (.if_icmp .ne 16, 3) := by decide +kernel
theorem dX4_step_31 : decode cX4_step 31 = .ok (.aload_n 0, 1) := by decide +kernel
theorem dX4_step_32 : decode cX4_step 32 = .ok (.dup, 1) := by decide +kernel
theorem dX4_step_33 : decode cX4_step 33 = .ok (.getfield 54, 3) := by decide +kernel
theorem dX4_step_36 : decode cX4_step 36 = .ok (.iconst 1, 1) := by decide +kernel
theorem dX4_step_37 : decode cX4_step 37 = .ok (.iadd, 1) := by decide +kernel
theorem dX4_step_38 : decode cX4_step 38 = .ok (.putfield 54, 3) := by decide +kernel
theorem dX4_step_41 : decode cX4_step 41 = .ok (.goto (-33), 3) := by decide +kernel
theorem dX4_step_44 : decode cX4_step 44 = .ok (.aload_n 0, 1) := by decide +kernel
theorem dX4_step_45 : decode cX4_step 45 = .ok (.aload_n 0, 1) := by decide +kernel
theorem dX4_step_46 : decode cX4_step 46 = .ok (.aload_n 0, 1) := by decide +kernel
theorem dX4_step_47 : decode cX4_step 47 = .ok (.getfield 54, 3) := by decide +kernel
theorem dX4_step_50 : decode cX4_step 50 = .ok (.invokevirtual 149, 3) := by decide +kernel
theorem dX4_step_53 : decode cX4_step 53 = .ok (.putfield 37, 3) := by decide +kernel
theorem dX4_step_56 : decode cX4_step 56 = .ok (.aload_n 0, 1) := by decide +kernel
theorem dX4_step_57 : decode cX4_step 57 = .ok (.aload_n 0, 1) := by decide +kernel
theorem dX4_step_58 : decode cX4_step 58 = .ok (.getfield 54, 3) := by decide +kernel
theorem dX4_step_61 : decode cX4_step 61 = .ok (.iconst 1, 1) := by decide +kernel
theorem dX4_step_62 : decode cX4_step 62 = .ok (.iadd, 1) := by decide +kernel
theorem dX4_step_63 : decode cX4_step 63 = .ok (.aload_n 0, 1) := by decide +kernel
theorem dX4_step_64 : decode cX4_step 64 = .ok (.getfield 21, 3) := by decide +kernel
theorem dX4_step_67 : decode cX4_step 67 = .ok (.invokestatic 15, 3) := by decide +kernel
theorem dX4_step_70 : decode cX4_step 70 = .ok (.putfield 133, 3) := by decide +kernel
theorem dX4_step_73 : decode cX4_step 73 = .ok (.aload_n 0, 1) := by decide +kernel
theorem dX4_step_74 : decode cX4_step 74 = .ok (.getfield 37, 3) := by decide +kernel
theorem dX4_step_77 : decode cX4_step 77 = .ok (.iconst 1, 1) := by decide +kernel
theorem dX4_step_78 : decode cX4_step 78 = .ok (.if_icmp .eq 11, 3) := by decide +kernel
theorem dX4_step_81 : decode cX4_step 81 = .ok (.aload_n 0, 1) := by decide +kernel
theorem dX4_step_82 : decode cX4_step 82 = .ok (.getfield 37, 3) := by decide +kernel
theorem dX4_step_85 : decode cX4_step 85 = .ok (.iconst 2, 1) := by decide +kernel
theorem dX4_step_86 : decode cX4_step 86 = .ok (.if_icmp .ne 42, 3) := by decide +kernel
theorem dX4_step_89 : decode cX4_step 89 = .ok (.aload_n 0, 1) := by decide +kernel
theorem dX4_step_90 : decode cX4_step 90 = .ok (.getfield 133, 3) := by decide +kernel
theorem dX4_step_93 : decode cX4_step 93 = .ok (.aload_n 0, 1) := by decide +kernel
theorem dX4_step_94 : decode cX4_step 94 = .ok (.getfield 21, 3) := by decide +kernel
theorem dX4_step_97 : decode cX4_step 97 = .ok (.if_icmp .ge 31, 3) := by decide +kernel
theorem dX4_step_100 : decode cX4_step 100 = .ok (.aload_n 0, 1) := by decide +kernel
theorem dX4_step_101 : decode cX4_step 101 = .ok (.aload_n 0, 1) := by decide +kernel
theorem dX4_step_102 : decode cX4_step 102 = .ok (.getfield 133, 3) := by decide +kernel
theorem dX4_step_105 : decode cX4_step 105 = .ok (.invokevirtual 149, 3) := by decide +kernel
theorem dX4_step_108 : decode cX4_step 108 = .ok (.aload_n 0, 1) := by decide +kernel
theorem dX4_step_109 : decode cX4_step 109 = .ok (.getfield 37, 3) := by decide +kernel
theorem dX4_step_112 : decode cX4_step 112 = .ok (.if_icmp .ne 16, 3) := by decide +kernel
theorem dX4_step_115 : decode cX4_step 115 = .ok (.aload_n 0, 1) := by decide +kernel
theorem dX4_step_116 : decode cX4_step 116 = .ok (.dup, 1) := by decide +kernel
theorem dX4_step_117 : decode cX4_step 117 = .ok (.getfield 133, 3) := by decide +kernel
theorem dX4_step_120 : decode cX4_step 120 = .ok (.iconst 1, 1) := by decide +kernel
theorem dX4_step_121 : decode cX4_step 121 = .ok (.iadd, 1) := by decide +kernel
theorem dX4_step_122 : decode cX4_step 122 = .ok (.putfield 133, 3) := by decide +kernel
theorem dX4_step_125 : decode cX4_step 125 = .ok (.goto (-36), 3) := by decide +kernel
theorem dX4_step_128 : decode cX4_step 128 = .ok (.return_, 1) := by decide +kernel
theorem dX4_sortAt_0 : decode cX4_sortAt 0 = .ok (.iload_n 1, 1) := by decide +kernel
theorem dX4_sortAt_1 : decode cX4_sortAt 1 = .ok (.ifCond .lt 11, 3) := by decide +kernel
theorem dX4_sortAt_4 : decode cX4_sortAt 4 = .ok (.iload_n 1, 1) := by decide +kernel
theorem dX4_sortAt_5 : decode cX4_sortAt 5 = .ok (.aload_n 0, 1) := by decide +kernel
theorem dX4_sortAt_6 : decode cX4_sortAt 6 = .ok (.getfield 21, 3) := by decide +kernel
theorem dX4_sortAt_9 : decode cX4_sortAt 9 = .ok (.if_icmp .lt 5, 3) := by decide +kernel
theorem dX4_sortAt_12 : decode cX4_sortAt 12 = .ok (.iconst 0, 1) := by decide +kernel
theorem dX4_sortAt_13 : decode cX4_sortAt 13 = .ok (.ireturn, 1) := by decide +kernel
theorem dX4_sortAt_14 : decode cX4_sortAt 14 = .ok (.aload_n 0, 1) := by decide +kernel
theorem dX4_sortAt_15 : decode cX4_sortAt 15 = .ok (.getfield 9, 3) := by decide +kernel
theorem dX4_sortAt_18 : decode cX4_sortAt 18 = .ok (.iload_n 1, 1) := by decide +kernel
theorem dX4_sortAt_19 : decode cX4_sortAt 19 = .ok (.baload, 1) := by decide +kernel
theorem dX4_sortAt_20 : decode cX4_sortAt 20 = .ok (.istore_n 2, 1) := by decide +kernel
theorem dX4_sortAt_21 : decode cX4_sortAt 21 = .ok (.iload_n 2, 1) := by decide +kernel
theorem dX4_sortAt_22 : decode cX4_sortAt 22 = .ok (.bipush 10, 2) := by decide +kernel
theorem dX4_sortAt_24 : decode cX4_sortAt 24 = .ok (.if_icmp .eq 9, 3) := by decide +kernel
theorem dX4_sortAt_27 : decode cX4_sortAt 27 = .ok (.iload_n 2, 1) := by decide +kernel
theorem dX4_sortAt_28 : decode cX4_sortAt 28 = .ok (.bipush 32, 2) := by decide +kernel
theorem dX4_sortAt_30 : decode cX4_sortAt 30 = .ok (.if_icmp .ne 5, 3) := by decide +kernel
theorem dX4_sortAt_33 : decode cX4_sortAt 33 = .ok (.iconst 4, 1) := by decide +kernel
theorem dX4_sortAt_34 : decode cX4_sortAt 34 = .ok (.ireturn, 1) := by decide +kernel
theorem dX4_sortAt_35 : decode cX4_sortAt 35 = .ok (.iload_n 2, 1) := by decide +kernel
theorem dX4_sortAt_36 : decode cX4_sortAt 36 = .ok (.bipush 97, 2) := by decide +kernel
theorem dX4_sortAt_38 : decode cX4_sortAt 38 = .ok (.if_icmp .lt 11, 3) := by decide +kernel
theorem dX4_sortAt_41 : decode cX4_sortAt 41 = .ok (.iload_n 2, 1) := by decide +kernel
theorem dX4_sortAt_42 : decode cX4_sortAt 42 = .ok (.bipush 122, 2) := by decide +kernel
theorem dX4_sortAt_44 : decode cX4_sortAt 44 = .ok (.if_icmp .gt 5, 3) := by decide +kernel
theorem dX4_sortAt_47 : decode cX4_sortAt 47 = .ok (.iconst 1, 1) := by decide +kernel
theorem dX4_sortAt_48 : decode cX4_sortAt 48 = .ok (.ireturn, 1) := by decide +kernel
theorem dX4_sortAt_49 : decode cX4_sortAt 49 = .ok (.iload_n 2, 1) := by decide +kernel
theorem dX4_sortAt_50 : decode cX4_sortAt 50 = .ok (.bipush 48, 2) := by decide +kernel
theorem dX4_sortAt_52 : decode cX4_sortAt 52 = .ok (.if_icmp .lt 13, 3) := by decide +kernel
theorem dX4_sortAt_55 : decode cX4_sortAt 55 = .ok (.iload_n 2, 1) := by decide +kernel
theorem dX4_sortAt_56 : decode cX4_sortAt 56 = .ok (.bipush 57, 2) := by decide +kernel
theorem dX4_sortAt_58 : decode cX4_sortAt 58 = .ok (.if_icmp .gt 7, 3) := by decide +kernel
theorem dX4_sortAt_61 : decode cX4_sortAt 61 = .ok (.iconst 2, 1) := by decide +kernel
theorem dX4_sortAt_62 : decode cX4_sortAt 62 = .ok (.goto 4, 3) := by decide +kernel
theorem dX4_sortAt_65 : decode cX4_sortAt 65 = .ok (.iconst 3, 1) := by decide +kernel
theorem dX4_sortAt_66 : decode cX4_sortAt 66 = .ok (.ireturn, 1) := by decide +kernel
theorem dX5_init_0 : decode cX5_init 0 = .ok (.aload_n 0, 1) := by decide +kernel
theorem dX5_init_1 : decode cX5_init 1 = .ok (.invokespecial 1, 3) := by decide +kernel
theorem dX5_init_4 : decode cX5_init 4 = .ok (.aload_n 0, 1) := by decide +kernel
theorem dX5_init_5 : decode cX5_init 5 = .ok (.sipush 1000, 3) := by decide +kernel
theorem dX5_init_8 : decode cX5_init 8 = .ok (.newarray .byte, 2) := by decide +kernel
theorem dX5_init_10 : decode cX5_init 10 = .ok (.putfield 9, 3) := by decide +kernel
theorem dX5_init_13 : decode cX5_init 13 = .ok (.aload_n 0, 1) := by decide +kernel
theorem dX5_init_14 : decode cX5_init 14 = .ok (.bipush 8, 2) := by decide +kernel
theorem dX5_init_16 : decode cX5_init 16 = .ok (.anewarray 13, 3) := by decide +kernel
theorem dX5_init_19 : decode cX5_init 19 = .ok (.putfield 15, 3) := by decide +kernel
theorem dX5_init_22 : decode cX5_init 22 = .ok (.aload_n 0, 1) := by decide +kernel
theorem dX5_init_23 : decode cX5_init 23 = .ok (.iconst (-1), 1) := by decide +kernel
theorem dX5_init_24 : decode cX5_init 24 = .ok (.putfield 19, 3) := by decide +kernel
theorem dX5_init_27 : decode cX5_init 27 = .ok (.aload_n 0, 1) := by decide +kernel
theorem dX5_init_28 : decode cX5_init 28 = .ok (.bipush 16, 2) := by decide +kernel
theorem dX5_init_30 : decode cX5_init 30 = .ok (.newarray .int, 2) := by decide +kernel
theorem dX5_init_32 : decode cX5_init 32 = .ok (.putfield 23, 3) := by decide +kernel
theorem dX5_init_35 : decode cX5_init 35 = .ok (.aload_n 0, 1) := by decide +kernel
theorem dX5_init_36 : decode cX5_init 36 = .ok (.bipush 8, 2) := by decide +kernel
theorem dX5_init_38 : decode cX5_init 38 = .ok (.anewarray 27, 3) := by decide +kernel
theorem dX5_init_41 : decode cX5_init 41 = .ok (.putfield 29, 3) := by decide +kernel
theorem dX5_init_44 : decode cX5_init 44 = .ok (.aload_n 0, 1) := by decide +kernel
theorem dX5_init_45 : decode cX5_init 45 = .ok (.bipush 16, 2) := by decide +kernel
theorem dX5_init_47 : decode cX5_init 47 = .ok (.newarray .int, 2) := by decide +kernel
theorem dX5_init_49 : decode cX5_init 49 = .ok (.putfield 33, 3) := by decide +kernel
theorem dX5_init_52 : decode cX5_init 52 = .ok (.return_, 1) := by decide +kernel
theorem dX5_feed_0 : decode cX5_feed 0 = .ok (.aload_n 0, 1) := by decide +kernel
theorem dX5_feed_1 : decode cX5_feed 1 = .ok (.getfield 36, 3) := by decide +kernel
theorem dX5_feed_4 : decode cX5_feed 4 = .ok (.bipush 20, 2) := by decide +kernel
theorem dX5_feed_6 : decode cX5_feed 6 = .ok (.iadd, 1) := by decide +kernel
theorem dX5_feed_7 : decode cX5_feed 7 = .ok (.sipush 1000, 3) := by decide +kernel
theorem dX5_feed_10 : decode cX5_feed 10 = .ok (.if_icmp .le 5, 3) := by decide +kernel
theorem dX5_feed_13 : decode cX5_feed 13 = .ok (.iconst (-1), 1) := by decide +kernel
theorem dX5_feed_14 : decode cX5_feed 14 = .ok (.ireturn, 1) := by decide +kernel
theorem dX5_feed_15 : decode cX5_feed 15 = .ok (.aload_n 0, 1) := by decide +kernel
theorem dX5_feed_16 : decode cX5_feed 16 = .ok (.iload_n 1, 1) := by decide +kernel
theorem dX5_feed_17 : decode cX5_feed 17 = .ok (.invokevirtual 39, 3) := by decide +kernel
theorem dX5_feed_20 : decode cX5_feed 20 = .ok (.aload_n 0, 1) := by decide +kernel
theorem dX5_feed_21 : decode cX5_feed 21 = .ok (.iload_n 2, 1) := by decide +kernel
theorem dX5_feed_22 : decode cX5_feed 22 = .ok (.invokevirtual 39, 3) := by decide +kernel
theorem dX5_feed_25 : decode cX5_feed 25 = .ok (.aload_n 0, 1) := by decide +kernel
theorem dX5_feed_26 : decode cX5_feed 26 = .ok (.iload_n 3, 1) := by decide +kernel
theorem dX5_feed_27 : decode cX5_feed 27 = .ok (.invokevirtual 39, 3) := by decide +kernel
theorem dX5_feed_30 : decode cX5_feed 30 = .ok (.aload_n 0, 1) := by decide +kernel
theorem dX5_feed_31 : decode cX5_feed 31 = .ok (.iload 4, 2) := by decide +kernel
theorem dX5_feed_33 : decode cX5_feed 33 = .ok (.invokevirtual 39, 3) := by decide +kernel
theorem dX5_feed_36 : decode cX5_feed 36 = .ok (.aload_n 0, 1) := by decide +kernel
theorem dX5_feed_37 : decode cX5_feed 37 = .ok (.iload 5, 2) := by decide +kernel
theorem dX5_feed_39 : decode cX5_feed 39 = .ok (.invokevirtual 39, 3) := by decide +kernel
theorem dX5_feed_42 : decode cX5_feed 42 = .ok (.aload_n 0, 1) := by decide +kernel
theorem dX5_feed_43 : decode cX5_feed 43 = .ok (.getfield 36, 3) := by decide +kernel
theorem dX5_feed_46 : decode cX5_feed 46 = .ok (.ireturn, 1) := by decide +kernel
theorem dX5_putOnTape_0 : decode cX5_putOnTape 0 = .ok (.bipush 24, 2) := by decide +kernel
theorem dX5_putOnTape_2 : decode cX5_putOnTape 2 = .ok (.istore_n 2, 1) := by decide +kernel
theorem dX5_putOnTape_3 : decode cX5_putOnTape 3 = .ok (.iload_n 2, 1) := by decide +kernel
theorem dX5_putOnTape_4 : decode cX5_putOnTape 4 = .ok (.ifCond .lt 42, 3) := by decide +kernel
theorem dX5_putOnTape_7 : decode cX5_putOnTape 7 = .ok (.aload_n 0, 1) := by decide +kernel
theorem dX5_putOnTape_8 : decode cX5_putOnTape 8 = .ok (.getfield 36, 3) := by decide +kernel
theorem dX5_putOnTape_11 : decode cX5_putOnTape 11 = .ok (.sipush 1000, 3) := by decide +kernel
theorem dX5_putOnTape_14 : decode cX5_putOnTape 14 = .ok (.if_icmp .ge 32, 3) := by decide +kernel
theorem dX5_putOnTape_17 : decode cX5_putOnTape 17 = .ok (.aload_n 0, 1) := by decide +kernel
theorem dX5_putOnTape_18 : decode cX5_putOnTape 18 = .ok (.getfield 9, 3) := by decide +kernel
theorem dX5_putOnTape_21 : decode cX5_putOnTape 21 = .ok (.aload_n 0, 1) := by decide +kernel
theorem dX5_putOnTape_22 : decode cX5_putOnTape 22 = .ok (.getfield 36, 3) := by decide +kernel
theorem dX5_putOnTape_25 : decode cX5_putOnTape 25 = .ok (.iload_n 1, 1) := by decide +kernel
theorem dX5_putOnTape_26 : decode cX5_putOnTape 26 = .ok (.iload_n 2, 1) := by decide +kernel
theorem dX5_putOnTape_27 : decode cX5_putOnTape 27 = .ok (.ishr, 1) := by decide +kernel
theorem dX5_putOnTape_28 : decode cX5_putOnTape 28 = .ok (.i2b, 1) := by decide +kernel
theorem dX5_putOnTape_29 : decode cX5_putOnTape 29 = .ok (.bastore, 1) := by decide +kernel
theorem dX5_putOnTape_30 : decode cX5_putOnTape 30 = .ok (.aload_n 0, 1) := by decide +kernel
theorem dX5_putOnTape_31 : decode cX5_putOnTape 31 = .ok (.dup, 1) := by decide +kernel
theorem dX5_putOnTape_32 : decode cX5_putOnTape 32 = .ok (.getfield 36, 3) := by decide +kernel
theorem dX5_putOnTape_35 : decode cX5_putOnTape 35 = .ok (.iconst 1, 1) := by decide +kernel
theorem dX5_putOnTape_36 : decode cX5_putOnTape 36 = .ok (.iadd, 1) := by decide +kernel
theorem dX5_putOnTape_37 : decode cX5_putOnTape 37 = .ok (.putfield 36, 3) := by decide +kernel
theorem dX5_putOnTape_40 : decode cX5_putOnTape 40 = .ok (.iinc 2 (-8), 3) := by decide +kernel
theorem dX5_putOnTape_43 : decode cX5_putOnTape 43 = .ok (.goto (-40), 3) := by decide +kernel
theorem dX5_putOnTape_46 : decode cX5_putOnTape 46 = .ok (.return_, 1) := by decide +kernel
theorem dX5_formats_0 : decode cX5_formats 0 = .ok (.iload_n 1, 1) := by decide +kernel
theorem dX5_formats_1 : decode cX5_formats 1 = .ok (.ifCond .lt 11, 3) := by decide +kernel
theorem dX5_formats_4 : decode cX5_formats 4 = .ok (.iload_n 1, 1) := by decide +kernel
theorem dX5_formats_5 : decode cX5_formats 5 = .ok (.aload_n 0, 1) := by decide +kernel
theorem dX5_formats_6 : decode cX5_formats 6 = .ok (.getfield 36, 3) := by decide +kernel
theorem dX5_formats_9 : decode cX5_formats 9 = .ok (.if_icmp .le 6, 3) := by decide +kernel
theorem dX5_formats_12 : decode cX5_formats 12 = .ok (.bipush (-2), 2) := by decide +kernel
theorem dX5_formats_14 : decode cX5_formats 14 = .ok (.ireturn, 1) := by decide +kernel
theorem dX5_formats_15 : decode cX5_formats 15 = .ok (.new 43, 3) := by decide +kernel
theorem dX5_formats_18 : decode cX5_formats 18 = .ok (.dup, 1) := by decide +kernel
theorem dX5_formats_19 : decode cX5_formats 19 = .ok (.aload_n 0, 1) := by decide +kernel
theorem dX5_formats_20 : decode cX5_formats 20 = .ok (.getfield 9, 3) := by decide +kernel
theorem dX5_formats_23 : decode cX5_formats 23 = .ok (.iload_n 1, 1) := by decide +kernel
theorem dX5_formats_24 : decode cX5_formats 24 = .ok (.invokespecial 45, 3) := by decide +kernel
theorem dX5_formats_27 : decode cX5_formats 27 = .ok (.astore_n 2, 1) := by decide +kernel
theorem dX5_formats_28 : decode cX5_formats 28 = .ok (.aload_n 2, 1) := by decide +kernel
theorem dX5_formats_29 : decode cX5_formats 29 = .ok (.invokevirtual 48, 3) := by decide +kernel
theorem dX5_formats_32 : decode cX5_formats 32 = .ok (.istore_n 3, 1) := by decide +kernel
theorem dX5_formats_33 : decode cX5_formats 33 = .ok (.aload_n 0, 1) := by decide +kernel
theorem dX5_formats_34 : decode cX5_formats 34 = .ok (.iconst 0, 1) := by decide +kernel
theorem dX5_formats_35 : decode cX5_formats 35 = .ok (.putfield 36, 3) := by decide +kernel
theorem dX5_formats_38 : decode cX5_formats 38 = .ok (.aload_n 0, 1) := by decide +kernel
theorem dX5_formats_39 : decode cX5_formats 39 = .ok (.aload_n 2, 1) := by decide +kernel
theorem dX5_formats_40 : decode cX5_formats 40 = .ok (.getfield 52, 3) := by decide +kernel
theorem dX5_formats_43 : decode cX5_formats 43 = .ok (.putfield 55, 3) := by decide +kernel
theorem dX5_formats_46 : decode cX5_formats 46 = .ok (.aload_n 0, 1) := by decide +kernel
theorem dX5_formats_47 : decode cX5_formats 47 = .ok (.aload_n 2, 1) := by decide +kernel
theorem dX5_formats_48 : decode cX5_formats 48 = .ok (.getfield 58, 3) := by decide +kernel
theorem dX5_formats_51 : decode cX5_formats 51 = .ok (.putfield 19, 3) := by decide +kernel
theorem dX5_formats_54 : decode cX5_formats 54 = .ok (.iload_n 3, 1) := by decide +kernel
theorem dX5_formats_55 : decode cX5_formats 55 = .ok (.ifCond .ne 5, 3) := by decide +kernel
theorem dX5_formats_58 : decode cX5_formats 58 = .ok (.iconst (-1), 1) := by decide +kernel
theorem dX5_formats_59 : decode cX5_formats 59 = .ok (.ireturn, 1) := by decide +kernel
theorem dX5_formats_60 : decode cX5_formats 60 = .ok (.aload_n 0, 1) := by decide +kernel
theorem dX5_formats_61 : decode cX5_formats 61 = .ok (.aload_n 2, 1) := by decide +kernel
theorem dX5_formats_62 : decode cX5_formats 62 = .ok (.getfield 61, 3) := by decide +kernel
theorem dX5_formats_65 : decode cX5_formats 65 = .ok (.putfield 15, 3) := by decide +kernel
theorem dX5_formats_68 : decode cX5_formats 68 = .ok (.aload_n 0, 1) := by decide +kernel
theorem dX5_formats_69 : decode cX5_formats 69 = .ok (.aload_n 2, 1) := by decide +kernel
theorem dX5_formats_70 : decode cX5_formats 70 = .ok (.getfield 64, 3) := by decide +kernel
theorem dX5_formats_73 : decode cX5_formats 73 = .ok (.putfield 67, 3) := by decide +kernel
theorem dX5_formats_76 : decode cX5_formats 76 = .ok (.aload_n 0, 1) := by decide +kernel
theorem dX5_formats_77 : decode cX5_formats 77 = .ok (.getfield 67, 3) := by decide +kernel
theorem dX5_formats_80 : decode cX5_formats 80 = .ok (.ireturn, 1) := by decide +kernel
theorem dX5_fault_0 : decode cX5_fault 0 = .ok (.iload_n 1, 1) := by decide +kernel
theorem dX5_fault_1 : decode cX5_fault 1 = .ok (.lookupswitch 37 #[(0, 27), (1, 32)], 27) := by decide +kernel
theorem dX5_fault_28 : decode cX5_fault 28 = .ok (.aload_n 0, 1) := by decide +kernel
theorem dX5_fault_29 : decode cX5_fault 29 = .ok (.getfield 55, 3) := by decide +kernel
theorem dX5_fault_32 : decode cX5_fault 32 = .ok (.ireturn, 1) := by decide +kernel
theorem dX5_fault_33 : decode cX5_fault 33 = .ok (.aload_n 0, 1) := by decide +kernel
theorem dX5_fault_34 : decode cX5_fault 34 = .ok (.getfield 19, 3) := by decide +kernel
theorem dX5_fault_37 : decode cX5_fault 37 = .ok (.ireturn, 1) := by decide +kernel
theorem dX5_fault_38 : decode cX5_fault 38 = .ok (.iconst (-1), 1) := by decide +kernel
theorem dX5_fault_39 : decode cX5_fault 39 = .ok (.ireturn, 1) := by decide +kernel
theorem dX5_pass_0 : decode cX5_pass 0 = .ok (.iload_n 1, 1) := by decide +kernel
theorem dX5_pass_1 : decode cX5_pass 1 = .ok (.ifCond .lt 15, 3) := by decide +kernel
theorem dX5_pass_4 : decode cX5_pass 4 = .ok (.iload_n 1, 1) := by decide +kernel
theorem dX5_pass_5 : decode cX5_pass 5 = .ok (.sipush 200, 3) := by decide +kernel
theorem dX5_pass_8 : decode cX5_pass 8 = .ok (.aload_n 0, 1) := by decide +kernel
theorem dX5_pass_9 : decode cX5_pass 9 = .ok (.getfield 70, 3) := by decide +kernel
theorem dX5_pass_12 : decode cX5_pass 12 = .ok (.isub, 1) := by decide +kernel
theorem dX5_pass_13 : decode cX5_pass 13 = .ok (.if_icmp .le 5, 3) := by decide +kernel
theorem dX5_pass_16 : decode cX5_pass 16 = .ok (.iconst (-1), 1) := by decide +kernel
theorem dX5_pass_17 : decode cX5_pass 17 = .ok (.ireturn, 1) := by decide +kernel
theorem dX5_pass_18 : decode cX5_pass 18 = .ok (.aload_n 0, 1) := by decide +kernel
theorem dX5_pass_19 : decode cX5_pass 19 = .ok (.dup, 1) := by decide +kernel
theorem dX5_pass_20 : decode cX5_pass 20 = .ok (.getfield 70, 3) := by decide +kernel
theorem dX5_pass_23 : decode cX5_pass 23 = .ok (.iload_n 1, 1) := by decide +kernel
theorem dX5_pass_24 : decode cX5_pass 24 = .ok (.iadd, 1) := by decide +kernel
theorem dX5_pass_25 : decode cX5_pass 25 = .ok (.putfield 70, 3) := by decide +kernel
theorem dX5_pass_28 : decode cX5_pass 28 = .ok (.aload_n 0, 1) := by decide +kernel
theorem dX5_pass_29 : decode cX5_pass 29 = .ok (.getfield 70, 3) := by decide +kernel
theorem dX5_pass_32 : decode cX5_pass 32 = .ok (.ireturn, 1) := by decide +kernel
theorem dX5_racer_0 : decode cX5_racer 0 = .ok (.iload_n 1, 1) := by decide +kernel
theorem dX5_racer_1 : decode cX5_racer 1 = .ok (.invokestatic 73, 3) := by decide +kernel
theorem dX5_racer_4 : decode cX5_racer 4 = .ok (.ifCond .eq 12, 3) := by decide +kernel
theorem dX5_racer_7 : decode cX5_racer 7 = .ok (.aload_n 0, 1) := by decide +kernel
theorem dX5_racer_8 : decode cX5_racer 8 = .ok (.getfield 77, 3) := by decide +kernel
theorem dX5_racer_11 : decode cX5_racer 11 = .ok (.bipush 16, 2) := by decide +kernel
theorem dX5_racer_13 : decode cX5_racer 13 = .ok (.if_icmp .lt 5, 3) := by decide +kernel
theorem dX5_racer_16 : decode cX5_racer 16 = .ok (.iconst (-1), 1) := by decide +kernel
theorem dX5_racer_17 : decode cX5_racer 17 = .ok (.ireturn, 1) := by decide +kernel
theorem dX5_racer_18 : decode cX5_racer 18 = .ok (.aload_n 0, 1) := by decide +kernel
theorem dX5_racer_19 : decode cX5_racer 19 = .ok (.getfield 23, 3) := by decide +kernel
theorem dX5_racer_22 : decode cX5_racer 22 = .ok (.aload_n 0, 1) := by decide +kernel
theorem dX5_racer_23 : decode cX5_racer 23 = .ok (.getfield 77, 3) := by decide +kernel
theorem dX5_racer_26 : decode cX5_racer 26 = .ok (.iload_n 1, 1) := by decide +kernel
theorem dX5_racer_27 : decode cX5_racer 27 = .ok (.iastore, 1) := by decide +kernel
theorem dX5_racer_28 : decode cX5_racer 28 = .ok (.aload_n 0, 1) := by decide +kernel
theorem dX5_racer_29 : decode cX5_racer 29 = .ok (.dup, 1) := by decide +kernel
theorem dX5_racer_30 : decode cX5_racer 30 = .ok (.getfield 77, 3) := by decide +kernel
theorem dX5_racer_33 : decode cX5_racer 33 = .ok (.iconst 1, 1) := by decide +kernel
theorem dX5_racer_34 : decode cX5_racer 34 = .ok (.iadd, 1) := by decide +kernel
theorem dX5_racer_35 : decode cX5_racer 35 = .ok (.putfield 77, 3) := by decide +kernel
theorem dX5_racer_38 : decode cX5_racer 38 = .ok (.aload_n 0, 1) := by decide +kernel
theorem dX5_racer_39 : decode cX5_racer 39 = .ok (.getfield 77, 3) := by decide +kernel
theorem dX5_racer_42 : decode cX5_racer 42 = .ok (.iconst 1, 1) := by decide +kernel
theorem dX5_racer_43 : decode cX5_racer 43 = .ok (.isub, 1) := by decide +kernel
theorem dX5_racer_44 : decode cX5_racer 44 = .ok (.ireturn, 1) := by decide +kernel
theorem dX5_race_0 : decode cX5_race 0 = .ok (.iload_n 1, 1) := by decide +kernel
theorem dX5_race_1 : decode cX5_race 1 = .ok (.ifCond .lt 18, 3) := by decide +kernel
theorem dX5_race_4 : decode cX5_race 4 = .ok (.iload_n 1, 1) := by decide +kernel
theorem dX5_race_5 : decode cX5_race 5 = .ok (.bipush 8, 2) := by decide +kernel
theorem dX5_race_7 : decode cX5_race 7 = .ok (.if_icmp .ge 12, 3) := by decide +kernel
theorem dX5_race_10 : decode cX5_race 10 = .ok (.aload_n 0, 1) := by decide +kernel
theorem dX5_race_11 : decode cX5_race 11 = .ok (.getfield 80, 3) := by decide +kernel
theorem dX5_race_14 : decode cX5_race 14 = .ok (.bipush 8, 2) := by decide +kernel
theorem dX5_race_16 : decode cX5_race 16 = .ok (.if_icmp .lt 5, 3) := by decide +kernel
theorem dX5_race_19 : decode cX5_race 19 = .ok (.iconst (-1), 1) := by decide +kernel
theorem dX5_race_20 : decode cX5_race 20 = .ok (.ireturn, 1) := by decide +kernel
theorem dX5_race_21 : decode cX5_race 21 = .ok (.aload_n 0, 1) := by decide +kernel
theorem dX5_race_22 : decode cX5_race 22 = .ok (.getfield 15, 3) := by decide +kernel
theorem dX5_race_25 : decode cX5_race 25 = .ok (.iload_n 1, 1) := by decide +kernel
theorem dX5_race_26 : decode cX5_race 26 = .ok (.aaload, 1) := by decide +kernel
theorem dX5_race_27 : decode cX5_race 27 = .ok (.astore_n 3, 1) := by decide +kernel
theorem dX5_race_28 : decode cX5_race 28 = .ok (.aload_n 3, 1) := by decide +kernel
theorem dX5_race_29 : decode cX5_race 29 = .ok (.ifnonnull 5, 3) := by decide +kernel
theorem dX5_race_32 : decode cX5_race 32 = .ok (.iconst (-1), 1) := by decide +kernel
theorem dX5_race_33 : decode cX5_race 33 = .ok (.ireturn, 1) := by decide +kernel
theorem dX5_race_34 : decode cX5_race 34 = .ok (.aload_n 0, 1) := by decide +kernel
theorem dX5_race_35 : decode cX5_race 35 = .ok (.iload_n 2, 1) := by decide +kernel
theorem dX5_race_36 : decode cX5_race 36 = .ok (.invokevirtual 83, 3) := by decide +kernel
theorem dX5_race_39 : decode cX5_race 39 = .ok (.astore 4, 2) := by decide +kernel
theorem dX5_race_41 : decode cX5_race 41 = .ok (.aload_n 3, 1) := by decide +kernel
theorem dX5_race_42 : decode cX5_race 42 = .ok (.getfield 87, 3) := by decide +kernel
theorem dX5_race_45 : decode cX5_race 45 = .ok (.iconst 2, 1) := by decide +kernel
theorem dX5_race_46 : decode cX5_race 46 = .ok (.if_icmp .ne 16, 3) := by decide +kernel
theorem dX5_race_49 : decode cX5_race 49 = .ok (.aload 4, 2) := by decide +kernel
theorem dX5_race_51 : decode cX5_race 51 = .ok (.ifnull 7, 3) := by decide +kernel
theorem dX5_race_54 : decode cX5_race 54 = .ok (.iconst 1, 1) := by decide +kernel
theorem dX5_race_55 : decode cX5_race 55 = .ok (.goto 17, 3) := by decide +kernel
theorem dX5_race_58 : decode cX5_race 58 = .ok (.iconst 0, 1) := by decide +kernel
theorem dX5_race_59 : decode cX5_race 59 = .ok (.goto 13, 3) := by decide +kernel
theorem dX5_race_62 : decode cX5_race 62 = .ok (.iload_n 2, 1) := by decide +kernel
theorem dX5_race_63 : decode cX5_race 63 = .ok (.iconst (-1), 1) := by decide +kernel
theorem dX5_race_64 : decode cX5_race 64 = .ok (.if_icmp .ne 7, 3) := by decide +kernel
theorem dX5_race_67 : decode cX5_race 67 = .ok (.iconst 1, 1) := by decide +kernel
theorem dX5_race_68 : decode cX5_race 68 = .ok (.goto 4, 3) := by decide +kernel
theorem dX5_race_71 : decode cX5_race 71 = .ok (.iconst 0, 1) := by decide +kernel
theorem dX5_race_72 : decode cX5_race 72 = .ok (.istore 5, 2) := by decide +kernel
theorem dX5_race_74 : decode cX5_race 74 = .ok (.iload 5, 2) := by decide +kernel
theorem dX5_race_76 : decode cX5_race 76 = .ok (.ifCond .ne 5, 3) := by decide +kernel
theorem dX5_race_79 : decode cX5_race 79 = .ok (.iconst (-1), 1) := by decide +kernel
theorem dX5_race_80 : decode cX5_race 80 = .ok (.ireturn, 1) := by decide +kernel
theorem dX5_race_81 : decode cX5_race 81 = .ok (.aload_n 0, 1) := by decide +kernel
theorem dX5_race_82 : decode cX5_race 82 = .ok (.getfield 29, 3) := by decide +kernel
theorem dX5_race_85 : decode cX5_race 85 = .ok (.aload_n 0, 1) := by decide +kernel
theorem dX5_race_86 : decode cX5_race 86 = .ok (.getfield 80, 3) := by decide +kernel
theorem dX5_race_89 : decode cX5_race 89 = .ok (.new 27, 3) := by decide +kernel
theorem dX5_race_92 : decode cX5_race 92 = .ok (.dup, 1) := by decide +kernel
theorem dX5_race_93 : decode cX5_race 93 = .ok (.aload_n 3, 1) := by decide +kernel
theorem dX5_race_94 : decode cX5_race 94 = .ok (.aload 4, 2) := by decide +kernel
theorem dX5_race_96 : decode cX5_race 96 = .ok (.iload_n 2, 1) := by decide +kernel
theorem dX5_race_97 : decode cX5_race 97 = .ok (.invokespecial 90, 3) := by decide +kernel
theorem dX5_race_100 : decode cX5_race 100 = .ok (.aastore, 1) := by decide +kernel
theorem dX5_race_101 : decode cX5_race 101 = .ok (.aload_n 0, 1) := by decide +kernel
theorem dX5_race_102 : decode cX5_race 102 = .ok (.dup, 1) := by decide +kernel
theorem dX5_race_103 : decode cX5_race 103 = .ok (.getfield 80, 3) := by decide +kernel
theorem dX5_race_106 : decode cX5_race 106 = .ok (.iconst 1, 1) := by decide +kernel
theorem dX5_race_107 : decode cX5_race 107 = .ok (.iadd, 1) := by decide +kernel
theorem dX5_race_108 : decode cX5_race 108 = .ok (.putfield 80, 3) := by decide +kernel
theorem dX5_race_111 : decode cX5_race 111 = .ok (.aload_n 0, 1) := by decide +kernel
theorem dX5_race_112 : decode cX5_race 112 = .ok (.getfield 80, 3) := by decide +kernel
theorem dX5_race_115 : decode cX5_race 115 = .ok (.iconst 1, 1) := by decide +kernel
theorem dX5_race_116 : decode cX5_race 116 = .ok (.isub, 1) := by decide +kernel
theorem dX5_race_117 : decode cX5_race 117 = .ok (.ireturn, 1) := by decide +kernel
theorem dX5_enter_0 : decode cX5_enter 0 = .ok (.aload_n 0, 1) := by decide +kernel
theorem dX5_enter_1 : decode cX5_enter 1 = .ok (.iload_n 1, 1) := by decide +kernel
theorem dX5_enter_2 : decode cX5_enter 2 = .ok (.invokevirtual 83, 3) := by decide +kernel
theorem dX5_enter_5 : decode cX5_enter 5 = .ok (.astore_n 3, 1) := by decide +kernel
theorem dX5_enter_6 : decode cX5_enter 6 = .ok (.aload_n 3, 1) := by decide +kernel
theorem dX5_enter_7 : decode cX5_enter 7 = .ok (.ifnull 26, 3) := by decide +kernel
theorem dX5_enter_10 : decode cX5_enter 10 = .ok (.aload_n 0, 1) := by decide +kernel
theorem dX5_enter_11 : decode cX5_enter 11 = .ok (.iload_n 2, 1) := by decide +kernel
theorem dX5_enter_12 : decode cX5_enter 12 = .ok (.invokevirtual 93, 3) := by decide +kernel
theorem dX5_enter_15 : decode cX5_enter 15 = .ok (.ifCond .eq 18, 3) := by decide +kernel
theorem dX5_enter_18 : decode cX5_enter 18 = .ok (.aload_n 3, 1) := by decide +kernel
theorem dX5_enter_19 : decode cX5_enter 19 = .ok (.getfield 96, 3) := by decide +kernel
theorem dX5_enter_22 : decode cX5_enter 22 = .ok (.ifCond .gt 11, 3) := by decide +kernel
theorem dX5_enter_25 : decode cX5_enter 25 = .ok (.aload_n 3, 1) := by decide +kernel
theorem dX5_enter_26 : decode cX5_enter 26 = .ok (.iload_n 2, 1) := by decide +kernel
theorem dX5_enter_27 : decode cX5_enter 27 = .ok (.invokevirtual 99, 3) := by decide +kernel
theorem dX5_enter_30 : decode cX5_enter 30 = .ok (.ifnull 5, 3) := by decide +kernel
theorem dX5_enter_33 : decode cX5_enter 33 = .ok (.iconst (-1), 1) := by decide +kernel
theorem dX5_enter_34 : decode cX5_enter 34 = .ok (.ireturn, 1) := by decide +kernel
theorem dX5_enter_35 : decode cX5_enter 35 = .ok (.aload_n 3, 1) := by decide +kernel
theorem dX5_enter_36 : decode cX5_enter 36 = .ok (.iload_n 2, 1) := by decide +kernel
theorem dX5_enter_37 : decode cX5_enter 37 = .ok (.invokevirtual 103, 3) := by decide +kernel
theorem dX5_enter_40 : decode cX5_enter 40 = .ok (.aload_n 3, 1) := by decide +kernel
theorem dX5_enter_41 : decode cX5_enter 41 = .ok (.getfield 106, 3) := by decide +kernel
theorem dX5_enter_44 : decode cX5_enter 44 = .ok (.ireturn, 1) := by decide +kernel
theorem dX5_tell_0 : decode cX5_tell 0 = .ok (.aload_n 0, 1) := by decide +kernel
theorem dX5_tell_1 : decode cX5_tell 1 = .ok (.iload_n 1, 1) := by decide +kernel
theorem dX5_tell_2 : decode cX5_tell 2 = .ok (.invokevirtual 83, 3) := by decide +kernel
theorem dX5_tell_5 : decode cX5_tell 5 = .ok (.astore 6, 2) := by decide +kernel
theorem dX5_tell_7 : decode cX5_tell 7 = .ok (.aload 6, 2) := by decide +kernel
theorem dX5_tell_9 : decode cX5_tell 9 = .ok (.ifnull 13, 3) := by decide +kernel
theorem dX5_tell_12 : decode cX5_tell 12 = .ok (.aload_n 0, 1) := by decide +kernel
theorem dX5_tell_13 : decode cX5_tell 13 = .ok (.getfield 109, 3) := by decide +kernel
theorem dX5_tell_16 : decode cX5_tell 16 = .ok (.sipush 400, 3) := by decide +kernel
theorem dX5_tell_19 : decode cX5_tell 19 = .ok (.if_icmp .lt 5, 3) := by decide +kernel
theorem dX5_tell_22 : decode cX5_tell 22 = .ok (.iconst (-1), 1) := by decide +kernel
theorem dX5_tell_23 : decode cX5_tell 23 = .ok (.ireturn, 1) := by decide +kernel
theorem dX5_tell_24 : decode cX5_tell 24 = .ok (.aload 6, 2) := by decide +kernel
theorem dX5_tell_26 : decode cX5_tell 26 = .ok (.iload_n 2, 1) := by decide +kernel
theorem dX5_tell_27 : decode cX5_tell 27 = .ok (.invokevirtual 99, 3) := by decide +kernel
theorem dX5_tell_30 : decode cX5_tell 30 = .ok (.astore 7, 2) := by decide +kernel
