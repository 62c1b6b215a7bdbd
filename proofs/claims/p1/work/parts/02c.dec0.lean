theorem dX4_init_0 : decode cX4_init 0 = .ok (.aload_n 0, 1) := by decide +kernel
theorem dX4_init_1 : decode cX4_init 1 = .ok (.invokespecial 3, 3) := by decide +kernel
theorem dX4_init_4 : decode cX4_init 4 = .ok (.aload_n 0, 1) := by decide +kernel
theorem dX4_init_5 : decode cX4_init 5 = .ok (.aload_n 1, 1) := by decide +kernel
theorem dX4_init_6 : decode cX4_init 6 = .ok (.putfield 9, 3) := by decide +kernel
theorem dX4_init_9 : decode cX4_init 9 = .ok (.aload_n 0, 1) := by decide +kernel
theorem dX4_init_10 : decode cX4_init 10 = .ok (.iload_n 2, 1) := by decide +kernel
theorem dX4_init_11 : decode cX4_init 11 = .ok (.aload_n 1, 1) := by decide +kernel
theorem dX4_init_12 : decode cX4_init 12 = .ok (.arraylength, 1) := by decide +kernel
theorem dX4_init_13 : decode cX4_init 13 = .ok (.invokestatic 15, 3) := by decide +kernel
theorem dX4_init_16 : decode cX4_init 16 = .ok (.putfield 21, 3) := by decide +kernel
theorem dX4_init_19 : decode cX4_init 19 = .ok (.aload_n 0, 1) := by decide +kernel
theorem dX4_init_20 : decode cX4_init 20 = .ok (.bipush 8, 2) := by decide +kernel
theorem dX4_init_22 : decode cX4_init 22 = .ok (.anewarray 25, 3) := by decide +kernel
theorem dX4_init_25 : decode cX4_init 25 = .ok (.putfield 27, 3) := by decide +kernel
theorem dX4_init_28 : decode cX4_init 28 = .ok (.aload_n 0, 1) := by decide +kernel
theorem dX4_init_29 : decode cX4_init 29 = .ok (.iconst (-1), 1) := by decide +kernel
theorem dX4_init_30 : decode cX4_init 30 = .ok (.putfield 31, 3) := by decide +kernel
theorem dX4_init_33 : decode cX4_init 33 = .ok (.return_, 1) := by decide +kernel
theorem dX4_readFormats_0 : decode cX4_readFormats 0 = .ok (.aload_n 0, 1) := by decide +kernel
theorem dX4_readFormats_1 : decode cX4_readFormats 1 = .ok (.invokevirtual 34, 3) := by decide +kernel
theorem dX4_readFormats_4 : decode cX4_readFormats 4 = .ok (.iconst 0, 1) := by decide +kernel
theorem dX4_readFormats_5 : decode cX4_readFormats 5 = .ok (.istore_n 1, 1) := by decide +kernel
theorem dX4_readFormats_6 : decode cX4_readFormats 6 = .ok (.iload_n 1, 1) := by decide +kernel
theorem dX4_readFormats_7 : decode cX4_readFormats 7 = .ok (.bipush 8, 2) := by decide +kernel
theorem dX4_readFormats_9 : decode cX4_readFormats 9 = .ok (.if_icmp .ge 25, 3) := by decide +kernel
theorem dX4_readFormats_12 : decode cX4_readFormats 12 = .ok (.aload_n 0, 1) := by decide +kernel
theorem dX4_readFormats_13 : decode cX4_readFormats 13 = .ok (.getfield 37, 3) := by decide +kernel
theorem dX4_readFormats_16 : decode cX4_readFormats 16 = .ok (.ifCond .eq 18, 3) := by decide +kernel
theorem dX4_readFormats_34 : decode cX4_readFormats 34 = .ok (.aload_n 0, 1) := by decide +kernel
theorem dX4_readFormats_35 : decode cX4_readFormats 35 = .ok (.getfield 37, 3) := by decide +kernel
theorem dX4_readFormats_38 : decode cX4_readFormats 38 = .ok (.ifCond .eq 11, 3) := by decide +kernel
theorem dX4_readFormats_49 : decode cX4_readFormats 49 = .ok (.iconst 1, 1) := by decide +kernel
theorem dX4_readFormats_50 : decode cX4_readFormats 50 = .ok (.goto 4, 3) := by decide +kernel
theorem dX4_readFormats_54 : decode cX4_readFormats 54 = .ok (.ireturn, 1) := by decide +kernel
theorem dX4_step_0 : decode cX4_step 0 = .ok (.aload_n 0, 1) := by decide +kernel
theorem dX4_step_1 : decode cX4_step 1 = .ok (.aload_n 0, 1) := by decide +kernel
theorem dX4_step_2 : decode cX4_step 2 = .ok (.getfield 133, 3) := by decide +kernel
theorem dX4_step_5 : decode cX4_step 5 = .ok (.putfield 54, 3) := by decide +kernel
theorem dX4_step_8 : decode cX4_step 8 = .ok (.aload_n 0, 1) := by decide +kernel
theorem dX4_step_9 : decode cX4_step 9 = .ok (.getfield 54, 3) := by decide +kernel
theorem dX4_step_12 : decode cX4_step 12 = .ok (.aload_n 0, 1) := by decide +kernel
theorem dX4_step_13 : decode cX4_step 13 = .ok (.getfield 21, 3) := by decide +kernel
theorem dX4_step_16 : decode cX4_step 16 = .ok (.if_icmp .ge 28, 3) := by decide +kernel
theorem dX4_step_44 : decode cX4_step 44 = .ok (.aload_n 0, 1) := by decide +kernel
theorem dX4_step_45 : decode cX4_step 45 = .ok (.aload_n 0, 1) := by decide +kernel
theorem dX4_step_46 : decode cX4_step 46 = .ok (.aload_n 0, 1) := by decide +kernel
theorem dX4_step_47 : decode cX4_step 47 = .ok (.getfield 54, 3) := by decide +kernel
theorem dX4_step_50 : decode cX4_step 50 = .ok (.invokevirtual 149, 3) := by decide +kernel
theorem dX4_step_53 : decode cX4_step 53 = .ok (.putfield 37, 3) := by decide +kernel
theorem dX4_step_56 : decode cX4_step 56 = .ok (.aload_n 0, 1) := by decide +kernel
theorem dX4_step_57 : decode cX4_step 57 = .ok (.aload_n 0, 1) := by decide +kernel
theorem dX4_step_58 : decode cX4_step 58 = .ok (.getfield 54, 3) := by decide +kernel
theorem dX4_step_61 : decode cX4_step 61 = .ok (.iconst 1, 1) := by decide +kernel
theorem dX4_step_62 : decode cX4_step 62 = .ok (.iadd, 1) := by decide +kernel
theorem dX4_step_63 : decode cX4_step 63 = .ok (.aload_n 0, 1) := by decide +kernel
theorem dX4_step_64 : decode cX4_step 64 = .ok (.getfield 21, 3) := by decide +kernel
theorem dX4_step_67 : decode cX4_step 67 = .ok (.invokestatic 15, 3) := by decide +kernel
theorem dX4_step_70 : decode cX4_step 70 = .ok (.putfield 133, 3) := by decide +kernel
theorem dX4_step_73 : decode cX4_step 73 = .ok (.aload_n 0, 1) := by decide +kernel
theorem dX4_step_74 : decode cX4_step 74 = .ok (.getfield 37, 3) := by decide +kernel
theorem dX4_step_77 : decode cX4_step 77 = .ok (.iconst 1, 1) := by decide +kernel
theorem dX4_step_78 : decode cX4_step 78 = .ok (.if_icmp .eq 11, 3) := by decide +kernel
theorem dX4_step_81 : decode cX4_step 81 = .ok (.aload_n 0, 1) := by decide +kernel
theorem dX4_step_82 : decode cX4_step 82 = .ok (.getfield 37, 3) := by decide +kernel
theorem dX4_step_85 : decode cX4_step 85 = .ok (.iconst 2, 1) := by decide +kernel
theorem dX4_step_86 : decode cX4_step 86 = .ok (.if_icmp .ne 42, 3) := by decide +kernel
theorem dX4_step_128 : decode cX4_step 128 = .ok (.return_, 1) := by decide +kernel
theorem dX4_sortAt_0 : decode cX4_sortAt 0 = .ok (.iload_n 1, 1) := by decide +kernel
theorem dX4_sortAt_1 : decode cX4_sortAt 1 = .ok (.ifCond .lt 11, 3) := by decide +kernel
theorem dX4_sortAt_4 : decode cX4_sortAt 4 = .ok (.iload_n 1, 1) := by decide +kernel
theorem dX4_sortAt_5 : decode cX4_sortAt 5 = .ok (.aload_n 0, 1) := by decide +kernel
theorem dX4_sortAt_6 : decode cX4_sortAt 6 = .ok (.getfield 21, 3) := by decide +kernel
theorem dX4_sortAt_9 : decode cX4_sortAt 9 = .ok (.if_icmp .lt 5, 3) := by decide +kernel
theorem dX4_sortAt_12 : decode cX4_sortAt 12 = .ok (.iconst 0, 1) := by decide +kernel
theorem dX4_sortAt_13 : decode cX4_sortAt 13 = .ok (.ireturn, 1) := by decide +kernel
theorem dX5_init_0 : decode cX5_init 0 = .ok (.aload_n 0, 1) := by decide +kernel
theorem dX5_init_1 : decode cX5_init 1 = .ok (.invokespecial 1, 3) := by decide +kernel
theorem dX5_init_4 : decode cX5_init 4 = .ok (.aload_n 0, 1) := by decide +kernel
theorem dX5_init_5 : decode cX5_init 5 = .ok (.sipush 1000, 3) := by decide +kernel
theorem dX5_init_8 : decode cX5_init 8 = .ok (.newarray .byte, 2) := by decide +kernel
theorem dX5_init_10 : decode cX5_init 10 = .ok (.putfield 9, 3) := by decide +kernel
theorem dX5_init_13 : decode cX5_init 13 = .ok (.aload_n 0, 1) := by decide +kernel
theorem dX5_init_14 : decode cX5_init 14 = .ok (.bipush 8, 2) := by decide +kernel
theorem dX5_init_16 : decode cX5_init 16 = .ok (.anewarray 13, 3) := by decide +kernel
theorem dX5_init_19 : decode cX5_init 19 = .ok (.putfield 15, 3) := by decide +kernel
theorem dX5_init_22 : decode cX5_init 22 = .ok (.aload_n 0, 1) := by decide +kernel
theorem dX5_init_23 : decode cX5_init 23 = .ok (.iconst (-1), 1) := by decide +kernel
theorem dX5_init_24 : decode cX5_init 24 = .ok (.putfield 19, 3) := by decide +kernel
theorem dX5_init_27 : decode cX5_init 27 = .ok (.aload_n 0, 1) := by decide +kernel
theorem dX5_init_28 : decode cX5_init 28 = .ok (.bipush 16, 2) := by decide +kernel
theorem dX5_init_30 : decode cX5_init 30 = .ok (.newarray .int, 2) := by decide +kernel
theorem dX5_init_32 : decode cX5_init 32 = .ok (.putfield 23, 3) := by decide +kernel
theorem dX5_init_35 : decode cX5_init 35 = .ok (.aload_n 0, 1) := by decide +kernel
theorem dX5_init_36 : decode cX5_init 36 = .ok (.bipush 8, 2) := by decide +kernel
theorem dX5_init_38 : decode cX5_init 38 = .ok (.anewarray 27, 3) := by decide +kernel
theorem dX5_init_41 : decode cX5_init 41 = .ok (.putfield 29, 3) := by decide +kernel
theorem dX5_init_44 : decode cX5_init 44 = .ok (.aload_n 0, 1) := by decide +kernel
theorem dX5_init_45 : decode cX5_init 45 = .ok (.bipush 16, 2) := by decide +kernel
theorem dX5_init_47 : decode cX5_init 47 = .ok (.newarray .int, 2) := by decide +kernel
theorem dX5_init_49 : decode cX5_init 49 = .ok (.putfield 33, 3) := by decide +kernel
theorem dX5_init_52 : decode cX5_init 52 = .ok (.return_, 1) := by decide +kernel
theorem dX5_feed_0 : decode cX5_feed 0 = .ok (.aload_n 0, 1) := by decide +kernel
theorem dX5_feed_1 : decode cX5_feed 1 = .ok (.getfield 36, 3) := by decide +kernel
theorem dX5_feed_4 : decode cX5_feed 4 = .ok (.bipush 20, 2) := by decide +kernel
theorem dX5_feed_6 : decode cX5_feed 6 = .ok (.iadd, 1) := by decide +kernel
theorem dX5_feed_7 : decode cX5_feed 7 = .ok (.sipush 1000, 3) := by decide +kernel
theorem dX5_feed_10 : decode cX5_feed 10 = .ok (.if_icmp .le 5, 3) := by decide +kernel
theorem dX5_feed_15 : decode cX5_feed 15 = .ok (.aload_n 0, 1) := by decide +kernel
theorem dX5_feed_16 : decode cX5_feed 16 = .ok (.iload_n 1, 1) := by decide +kernel
theorem dX5_feed_17 : decode cX5_feed 17 = .ok (.invokevirtual 39, 3) := by decide +kernel
theorem dX5_feed_20 : decode cX5_feed 20 = .ok (.aload_n 0, 1) := by decide +kernel
theorem dX5_feed_21 : decode cX5_feed 21 = .ok (.iload_n 2, 1) := by decide +kernel
theorem dX5_feed_22 : decode cX5_feed 22 = .ok (.invokevirtual 39, 3) := by decide +kernel
theorem dX5_feed_25 : decode cX5_feed 25 = .ok (.aload_n 0, 1) := by decide +kernel
theorem dX5_feed_26 : decode cX5_feed 26 = .ok (.iload_n 3, 1) := by decide +kernel
theorem dX5_feed_27 : decode cX5_feed 27 = .ok (.invokevirtual 39, 3) := by decide +kernel
theorem dX5_feed_30 : decode cX5_feed 30 = .ok (.aload_n 0, 1) := by decide +kernel
theorem dX5_feed_31 : decode cX5_feed 31 = .ok (.iload 4, 2) := by decide +kernel
theorem dX5_feed_33 : decode cX5_feed 33 = .ok (.invokevirtual 39, 3) := by decide +kernel
theorem dX5_feed_36 : decode cX5_feed 36 = .ok (.aload_n 0, 1) := by decide +kernel
theorem dX5_feed_37 : decode cX5_feed 37 = .ok (.iload 5, 2) := by decide +kernel
theorem dX5_feed_39 : decode cX5_feed 39 = .ok (.invokevirtual 39, 3) := by decide +kernel
theorem dX5_feed_42 : decode cX5_feed 42 = .ok (.aload_n 0, 1) := by decide +kernel
theorem dX5_feed_43 : decode cX5_feed 43 = .ok (.getfield 36, 3) := by decide +kernel
theorem dX5_feed_46 : decode cX5_feed 46 = .ok (.ireturn, 1) := by decide +kernel
theorem dX5_putOnTape_0 : decode cX5_putOnTape 0 = .ok (.bipush 24, 2) := by decide +kernel
theorem dX5_putOnTape_2 : decode cX5_putOnTape 2 = .ok (.istore_n 2, 1) := by decide +kernel
theorem dX5_putOnTape_3 : decode cX5_putOnTape 3 = .ok (.iload_n 2, 1) := by decide +kernel
theorem dX5_putOnTape_4 : decode cX5_putOnTape 4 = .ok (.ifCond .lt 42, 3) := by decide +kernel
theorem dX5_putOnTape_7 : decode cX5_putOnTape 7 = .ok (.aload_n 0, 1) := by decide +kernel
theorem dX5_putOnTape_8 : decode cX5_putOnTape 8 = .ok (.getfield 36, 3) := by decide +kernel
theorem dX5_putOnTape_11 : decode cX5_putOnTape 11 = .ok (.sipush 1000, 3) := by decide +kernel
theorem dX5_putOnTape_14 : decode cX5_putOnTape 14 = .ok (.if_icmp .ge 32, 3) := by decide +kernel
theorem dX5_putOnTape_17 : decode cX5_putOnTape 17 = .ok (.aload_n 0, 1) := by decide +kernel
theorem dX5_putOnTape_18 : decode cX5_putOnTape 18 = .ok (.getfield 9, 3) := by decide +kernel
theorem dX5_putOnTape_21 : decode cX5_putOnTape 21 = .ok (.aload_n 0, 1) := by decide +kernel
theorem dX5_putOnTape_22 : decode cX5_putOnTape 22 = .ok (.getfield 36, 3) := by decide +kernel
theorem dX5_putOnTape_25 : decode cX5_putOnTape 25 = .ok (.iload_n 1, 1) := by decide +kernel
theorem dX5_putOnTape_26 : decode cX5_putOnTape 26 = .ok (.iload_n 2, 1) := by decide +kernel
theorem dX5_putOnTape_27 : decode cX5_putOnTape 27 = .ok (.ishr, 1) := by decide +kernel
theorem dX5_putOnTape_28 : decode cX5_putOnTape 28 = .ok (.i2b, 1) := by decide +kernel
theorem dX5_putOnTape_29 : decode cX5_putOnTape 29 = .ok (.bastore, 1) := by decide +kernel
theorem dX5_putOnTape_30 : decode cX5_putOnTape 30 = .ok (.aload_n 0, 1) := by decide +kernel
theorem dX5_putOnTape_31 : decode cX5_putOnTape 31 = .ok (.dup, 1) := by decide +kernel
theorem dX5_putOnTape_32 : decode cX5_putOnTape 32 = .ok (.getfield 36, 3) := by decide +kernel
theorem dX5_putOnTape_35 : decode cX5_putOnTape 35 = .ok (.iconst 1, 1) := by decide +kernel
theorem dX5_putOnTape_36 : decode cX5_putOnTape 36 = .ok (.iadd, 1) := by decide +kernel
theorem dX5_putOnTape_37 : decode cX5_putOnTape 37 = .ok (.putfield 36, 3) := by decide +kernel
theorem dX5_putOnTape_40 : decode cX5_putOnTape 40 = .ok (.iinc 2 (-8), 3) := by decide +kernel
theorem dX5_putOnTape_43 : decode cX5_putOnTape 43 = .ok (.goto (-40), 3) := by decide +kernel
theorem dX5_putOnTape_46 : decode cX5_putOnTape 46 = .ok (.return_, 1) := by decide +kernel
theorem dX5_formats_0 : decode cX5_formats 0 = .ok (.iload_n 1, 1) := by decide +kernel
theorem dX5_formats_1 : decode cX5_formats 1 = .ok (.ifCond .lt 11, 3) := by decide +kernel
theorem dX5_formats_4 : decode cX5_formats 4 = .ok (.iload_n 1, 1) := by decide +kernel
theorem dX5_formats_5 : decode cX5_formats 5 = .ok (.aload_n 0, 1) := by decide +kernel
theorem dX5_formats_6 : decode cX5_formats 6 = .ok (.getfield 36, 3) := by decide +kernel
theorem dX5_formats_9 : decode cX5_formats 9 = .ok (.if_icmp .le 6, 3) := by decide +kernel
theorem dX5_formats_12 : decode cX5_formats 12 = .ok (.bipush (-2), 2) := by decide +kernel
theorem dX5_formats_14 : decode cX5_formats 14 = .ok (.ireturn, 1) := by decide +kernel
theorem dX5_formats_15 : decode cX5_formats 15 = .ok (.new 43, 3) := by decide +kernel
theorem dX5_formats_18 : decode cX5_formats 18 = .ok (.dup, 1) := by decide +kernel
theorem dX5_formats_19 : decode cX5_formats 19 = .ok (.aload_n 0, 1) := by decide +kernel
theorem dX5_formats_20 : decode cX5_formats 20 = .ok (.getfield 9, 3) := by decide +kernel
theorem dX5_formats_23 : decode cX5_formats 23 = .ok (.iload_n 1, 1) := by decide +kernel
theorem dX5_formats_24 : decode cX5_formats 24 = .ok (.invokespecial 45, 3) := by decide +kernel
theorem dX5_formats_27 : decode cX5_formats 27 = .ok (.astore_n 2, 1) := by decide +kernel
theorem dX5_formats_28 : decode cX5_formats 28 = .ok (.aload_n 2, 1) := by decide +kernel
theorem dX5_formats_29 : decode cX5_formats 29 = .ok (.invokevirtual 48, 3) := by decide +kernel
theorem dX5_formats_32 : decode cX5_formats 32 = .ok (.istore_n 3, 1) := by decide +kernel
theorem dX5_formats_33 : decode cX5_formats 33 = .ok (.aload_n 0, 1) := by decide +kernel
theorem dX5_formats_34 : decode cX5_formats 34 = .ok (.iconst 0, 1) := by decide +kernel
theorem dX5_formats_35 : decode cX5_formats 35 = .ok (.putfield 36, 3) := by decide +kernel
theorem dX5_formats_38 : decode cX5_formats 38 = .ok (.aload_n 0, 1) := by decide +kernel
theorem dX5_formats_39 : decode cX5_formats 39 = .ok (.aload_n 2, 1) := by decide +kernel
theorem dX5_formats_40 : decode cX5_formats 40 = .ok (.getfield 52, 3) := by decide +kernel
theorem dX5_formats_43 : decode cX5_formats 43 = .ok (.putfield 55, 3) := by decide +kernel
theorem dX5_formats_46 : decode cX5_formats 46 = .ok (.aload_n 0, 1) := by decide +kernel
theorem dX5_formats_47 : decode cX5_formats 47 = .ok (.aload_n 2, 1) := by decide +kernel
theorem dX5_formats_48 : decode cX5_formats 48 = .ok (.getfield 58, 3) := by decide +kernel
theorem dX5_formats_51 : decode cX5_formats 51 = .ok (.putfield 19, 3) := by decide +kernel
theorem dX5_formats_54 : decode cX5_formats 54 = .ok (.iload_n 3, 1) := by decide +kernel
theorem dX5_formats_55 : decode cX5_formats 55 = .ok (.ifCond .ne 5, 3) := by decide +kernel
theorem dX5_formats_60 : decode cX5_formats 60 = .ok (.aload_n 0, 1) := by decide +kernel
theorem dX5_formats_61 : decode cX5_formats 61 = .ok (.aload_n 2, 1) := by decide +kernel
theorem dX5_formats_62 : decode cX5_formats 62 = .ok (.getfield 61, 3) := by decide +kernel
theorem dX5_formats_65 : decode cX5_formats 65 = .ok (.putfield 15, 3) := by decide +kernel
theorem dX5_formats_68 : decode cX5_formats 68 = .ok (.aload_n 0, 1) := by decide +kernel
theorem dX5_formats_69 : decode cX5_formats 69 = .ok (.aload_n 2, 1) := by decide +kernel
theorem dX5_formats_70 : decode cX5_formats 70 = .ok (.getfield 64, 3) := by decide +kernel
theorem dX5_formats_73 : decode cX5_formats 73 = .ok (.putfield 67, 3) := by decide +kernel
theorem dX5_formats_76 : decode cX5_formats 76 = .ok (.aload_n 0, 1) := by decide +kernel
theorem dX5_formats_77 : decode cX5_formats 77 = .ok (.getfield 67, 3) := by decide +kernel
theorem dX5_formats_80 : decode cX5_formats 80 = .ok (.ireturn, 1) := by decide +kernel
theorem dX5_fault_0 : decode cX5_fault 0 = .ok (.iload_n 1, 1) := by decide +kernel
theorem dX5_fault_1 : decode cX5_fault 1 = .ok (.lookupswitch 37 #[(0, 27), (1, 32)], 27) := by decide +kernel
theorem dX5_fault_28 : decode cX5_fault 28 = .ok (.aload_n 0, 1) := by decide +kernel
theorem dX5_fault_29 : decode cX5_fault 29 = .ok (.getfield 55, 3) := by decide +kernel
theorem dX5_fault_32 : decode cX5_fault 32 = .ok (.ireturn, 1) := by decide +kernel
theorem dX5_fault_33 : decode cX5_fault 33 = .ok (.aload_n 0, 1) := by decide +kernel
theorem dX5_fault_34 : decode cX5_fault 34 = .ok (.getfield 19, 3) := by decide +kernel
theorem dX5_fault_37 : decode cX5_fault 37 = .ok (.ireturn, 1) := by decide +kernel
theorem dX5_fault_38 : decode cX5_fault 38 = .ok (.iconst (-1), 1) := by decide +kernel
theorem dX5_fault_39 : decode cX5_fault 39 = .ok (.ireturn, 1) := by decide +kernel
theorem dX5_pass_0 : decode cX5_pass 0 = .ok (.iload_n 1, 1) := by decide +kernel
theorem dX5_pass_1 : decode cX5_pass 1 = .ok (.ifCond .lt 15, 3) := by decide +kernel
theorem dX5_pass_4 : decode cX5_pass 4 = .ok (.iload_n 1, 1) := by decide +kernel
theorem dX5_pass_5 : decode cX5_pass 5 = .ok (.sipush 200, 3) := by decide +kernel
theorem dX5_pass_8 : decode cX5_pass 8 = .ok (.aload_n 0, 1) := by decide +kernel
theorem dX5_pass_9 : decode cX5_pass 9 = .ok (.getfield 70, 3) := by decide +kernel
theorem dX5_pass_12 : decode cX5_pass 12 = .ok (.isub, 1) := by decide +kernel
theorem dX5_pass_13 : decode cX5_pass 13 = .ok (.if_icmp .le 5, 3) := by decide +kernel
theorem dX5_pass_16 : decode cX5_pass 16 = .ok (.iconst (-1), 1) := by decide +kernel
theorem dX5_pass_17 : decode cX5_pass 17 = .ok (.ireturn, 1) := by decide +kernel
theorem dX5_pass_18 : decode cX5_pass 18 = .ok (.aload_n 0, 1) := by decide +kernel
theorem dX5_pass_19 : decode cX5_pass 19 = .ok (.dup, 1) := by decide +kernel
theorem dX5_pass_20 : decode cX5_pass 20 = .ok (.getfield 70, 3) := by decide +kernel
theorem dX5_pass_23 : decode cX5_pass 23 = .ok (.iload_n 1, 1) := by decide +kernel
theorem dX5_pass_24 : decode cX5_pass 24 = .ok (.iadd, 1) := by decide +kernel
theorem dX5_pass_25 : decode cX5_pass 25 = .ok (.putfield 70, 3) := by decide +kernel
theorem dX5_pass_28 : decode cX5_pass 28 = .ok (.aload_n 0, 1) := by decide +kernel
theorem dX5_pass_29 : decode cX5_pass 29 = .ok (.getfield 70, 3) := by decide +kernel
theorem dX5_pass_32 : decode cX5_pass 32 = .ok (.ireturn, 1) := by decide +kernel
theorem dX5_racer_0 : decode cX5_racer 0 = .ok (.iload_n 1, 1) := by decide +kernel
theorem dX5_racer_1 : decode cX5_racer 1 = .ok (.invokestatic 73, 3) := by decide +kernel
theorem dX5_racer_4 : decode cX5_racer 4 = .ok (.ifCond .eq 12, 3) := by decide +kernel
theorem dX5_racer_7 : decode cX5_racer 7 = .ok (.aload_n 0, 1) := by decide +kernel
theorem dX5_racer_8 : decode cX5_racer 8 = .ok (.getfield 77, 3) := by decide +kernel
theorem dX5_racer_11 : decode cX5_racer 11 = .ok (.bipush 16, 2) := by decide +kernel
theorem dX5_racer_13 : decode cX5_racer 13 = .ok (.if_icmp .lt 5, 3) := by decide +kernel
theorem dX5_racer_16 : decode cX5_racer 16 = .ok (.iconst (-1), 1) := by decide +kernel
theorem dX5_racer_17 : decode cX5_racer 17 = .ok (.ireturn, 1) := by decide +kernel
theorem dX5_racer_18 : decode cX5_racer 18 = .ok (.aload_n 0, 1) := by decide +kernel
theorem dX5_racer_19 : decode cX5_racer 19 = .ok (.getfield 23, 3) := by decide +kernel
theorem dX5_racer_22 : decode cX5_racer 22 = .ok (.aload_n 0, 1) := by decide +kernel
theorem dX5_racer_23 : decode cX5_racer 23 = .ok (.getfield 77, 3) := by decide +kernel
theorem dX5_racer_26 : decode cX5_racer 26 = .ok (.iload_n 1, 1) := by decide +kernel
theorem dX5_racer_27 : decode cX5_racer 27 = .ok (.iastore, 1) := by decide +kernel
theorem dX5_racer_28 : decode cX5_racer 28 = .ok (.aload_n 0, 1) := by decide +kernel
theorem dX5_racer_29 : decode cX5_racer 29 = .ok (.dup, 1) := by decide +kernel
theorem dX5_racer_30 : decode cX5_racer 30 = .ok (.getfield 77, 3) := by decide +kernel
theorem dX5_racer_33 : decode cX5_racer 33 = .ok (.iconst 1, 1) := by decide +kernel
theorem dX5_racer_34 : decode cX5_racer 34 = .ok (.iadd, 1) := by decide +kernel
theorem dX5_racer_35 : decode cX5_racer 35 = .ok (.putfield 77, 3) := by decide +kernel
theorem dX5_racer_38 : decode cX5_racer 38 = .ok (.aload_n 0, 1) := by decide +kernel
theorem dX5_racer_39 : decode cX5_racer 39 = .ok (.getfield 77, 3) := by decide +kernel
theorem dX5_racer_42 : decode cX5_racer 42 = .ok (.iconst 1, 1) := by decide +kernel
theorem dX5_racer_43 : decode cX5_racer 43 = .ok (.isub, 1) := by decide +kernel
theorem dX5_racer_44 : decode cX5_racer 44 = .ok (.ireturn, 1) := by decide +kernel
theorem dX5_race_0 : decode cX5_race 0 = .ok (.iload_n 1, 1) := by decide +kernel
theorem dX5_race_1 : decode cX5_race 1 = .ok (.ifCond .lt 18, 3) := by decide +kernel
theorem dX5_race_4 : decode cX5_race 4 = .ok (.iload_n 1, 1) := by decide +kernel
theorem dX5_race_5 : decode cX5_race 5 = .ok (.bipush 8, 2) := by decide +kernel
theorem dX5_race_7 : decode cX5_race 7 = .ok (.if_icmp .ge 12, 3) := by decide +kernel
theorem dX5_race_10 : decode cX5_race 10 = .ok (.aload_n 0, 1) := by decide +kernel
theorem dX5_race_11 : decode cX5_race 11 = .ok (.getfield 80, 3) := by decide +kernel
theorem dX5_race_14 : decode cX5_race 14 = .ok (.bipush 8, 2) := by decide +kernel
theorem dX5_race_16 : decode cX5_race 16 = .ok (.if_icmp .lt 5, 3) := by decide +kernel
theorem dX5_race_19 : decode cX5_race 19 = .ok (.iconst (-1), 1) := by decide +kernel
theorem dX5_race_20 : decode cX5_race 20 = .ok (.ireturn, 1) := by decide +kernel
theorem dX5_race_21 : decode cX5_race 21 = .ok (.aload_n 0, 1) := by decide +kernel
theorem dX5_race_22 : decode cX5_race 22 = .ok (.getfield 15, 3) := by decide +kernel
theorem dX5_race_25 : decode cX5_race 25 = .ok (.iload_n 1, 1) := by decide +kernel
theorem dX5_race_26 : decode cX5_race 26 = .ok (.aaload, 1) := by decide +kernel
theorem dX5_race_27 : decode cX5_race 27 = .ok (.astore_n 3, 1) := by decide +kernel
theorem dX5_race_28 : decode cX5_race 28 = .ok (.aload_n 3, 1) := by decide +kernel
theorem dX5_race_29 : decode cX5_race 29 = .ok (.ifnonnull 5, 3) := by decide +kernel
theorem dX5_race_32 : decode cX5_race 32 = .ok (.iconst (-1), 1) := by decide +kernel
theorem dX5_race_33 : decode cX5_race 33 = .ok (.ireturn, 1) := by decide +kernel
theorem dX5_enter_0 : decode cX5_enter 0 = .ok (.aload_n 0, 1) := by decide +kernel
theorem dX5_enter_1 : decode cX5_enter 1 = .ok (.iload_n 1, 1) := by decide +kernel
theorem dX5_enter_2 : decode cX5_enter 2 = .ok (.invokevirtual 83, 3) := by decide +kernel
theorem dX5_enter_5 : decode cX5_enter 5 = .ok (.astore_n 3, 1) := by decide +kernel
theorem dX5_enter_6 : decode cX5_enter 6 = .ok (.aload_n 3, 1) := by decide +kernel
theorem dX5_enter_7 : decode cX5_enter 7 = .ok (.ifnull 26, 3) := by decide +kernel
theorem dX5_enter_33 : decode cX5_enter 33 = .ok (.iconst (-1), 1) := by decide +kernel
theorem dX5_enter_34 : decode cX5_enter 34 = .ok (.ireturn, 1) := by decide +kernel
theorem dX5_tell_0 : decode cX5_tell 0 = .ok (.aload_n 0, 1) := by decide +kernel
theorem dX5_tell_1 : decode cX5_tell 1 = .ok (.iload_n 1, 1) := by decide +kernel
theorem dX5_tell_2 : decode cX5_tell 2 = .ok (.invokevirtual 83, 3) := by decide +kernel
theorem dX5_tell_5 : decode cX5_tell 5 = .ok (.astore 6, 2) := by decide +kernel
theorem dX5_tell_7 : decode cX5_tell 7 = .ok (.aload 6, 2) := by decide +kernel
theorem dX5_tell_9 : decode cX5_tell 9 = .ok (.ifnull 13, 3) := by decide +kernel
theorem dX5_tell_22 : decode cX5_tell 22 = .ok (.iconst (-1), 1) := by decide +kernel
theorem dX5_tell_23 : decode cX5_tell 23 = .ok (.ireturn, 1) := by decide +kernel
theorem dX5_entry_0 : decode cX5_entry 0 = .ok (.aload_n 0, 1) := by decide +kernel
theorem dX5_entry_1 : decode cX5_entry 1 = .ok (.iload_n 1, 1) := by decide +kernel
theorem dX5_entry_2 : decode cX5_entry 2 = .ok (.invokevirtual 83, 3) := by decide +kernel
theorem dX5_entry_5 : decode cX5_entry 5 = .ok (.astore_n 3, 1) := by decide +kernel
theorem dX5_entry_6 : decode cX5_entry 6 = .ok (.aload_n 3, 1) := by decide +kernel
theorem dX5_entry_7 : decode cX5_entry 7 = .ok (.ifnull 15, 3) := by decide +kernel
theorem dX5_entry_22 : decode cX5_entry 22 = .ok (.iconst (-1), 1) := by decide +kernel
theorem dX5_entry_23 : decode cX5_entry 23 = .ok (.ireturn, 1) := by decide +kernel
theorem dX5_time_0 : decode cX5_time 0 = .ok (.aload_n 0, 1) := by decide +kernel
theorem dX5_time_1 : decode cX5_time 1 = .ok (.iload_n 1, 1) := by decide +kernel
theorem dX5_time_2 : decode cX5_time 2 = .ok (.invokevirtual 83, 3) := by decide +kernel
theorem dX5_time_5 : decode cX5_time 5 = .ok (.astore 5, 2) := by decide +kernel
theorem dX5_time_7 : decode cX5_time 7 = .ok (.aload 5, 2) := by decide +kernel
theorem dX5_time_9 : decode cX5_time 9 = .ok (.ifnull 11, 3) := by decide +kernel
theorem dX5_time_20 : decode cX5_time 20 = .ok (.bipush (-2), 2) := by decide +kernel
theorem dX5_time_22 : decode cX5_time 22 = .ok (.ireturn, 1) := by decide +kernel
theorem dX5_split_0 : decode cX5_split 0 = .ok (.aload_n 0, 1) := by decide +kernel
theorem dX5_split_1 : decode cX5_split 1 = .ok (.iload_n 1, 1) := by decide +kernel
theorem dX5_split_2 : decode cX5_split 2 = .ok (.invokevirtual 83, 3) := by decide +kernel
theorem dX5_split_5 : decode cX5_split 5 = .ok (.astore 5, 2) := by decide +kernel
theorem dX5_split_7 : decode cX5_split 7 = .ok (.aload 5, 2) := by decide +kernel
theorem dX5_split_9 : decode cX5_split 9 = .ok (.ifnull 25, 3) := by decide +kernel
theorem dX5_split_34 : decode cX5_split 34 = .ok (.bipush (-2), 2) := by decide +kernel
theorem dX5_split_36 : decode cX5_split 36 = .ok (.ireturn, 1) := by decide +kernel
theorem dX5_order_0 : decode cX5_order 0 = .ok (.aload_n 0, 1) := by decide +kernel
theorem dX5_order_1 : decode cX5_order 1 = .ok (.iload_n 1, 1) := by decide +kernel
theorem dX5_order_2 : decode cX5_order 2 = .ok (.invokevirtual 83, 3) := by decide +kernel
theorem dX5_order_5 : decode cX5_order 5 = .ok (.astore 4, 2) := by decide +kernel
theorem dX5_order_7 : decode cX5_order 7 = .ok (.aload 4, 2) := by decide +kernel
theorem dX5_order_9 : decode cX5_order 9 = .ok (.ifnull 11, 3) := by decide +kernel
theorem dX5_order_20 : decode cX5_order 20 = .ok (.iconst (-1), 1) := by decide +kernel
theorem dX5_order_21 : decode cX5_order 21 = .ok (.ireturn, 1) := by decide +kernel
theorem dX5_points_0 : decode cX5_points 0 = .ok (.aload_n 0, 1) := by decide +kernel
theorem dX5_points_1 : decode cX5_points 1 = .ok (.iload_n 1, 1) := by decide +kernel
theorem dX5_points_2 : decode cX5_points 2 = .ok (.invokevirtual 93, 3) := by decide +kernel
theorem dX5_points_5 : decode cX5_points 5 = .ok (.ifCond .eq 11, 3) := by decide +kernel
theorem dX5_points_16 : decode cX5_points 16 = .ok (.iconst (-1), 1) := by decide +kernel
theorem dX5_points_17 : decode cX5_points 17 = .ok (.ireturn, 1) := by decide +kernel
theorem dX5_standing_0 : decode cX5_standing 0 = .ok (.aload_n 0, 1) := by decide +kernel
theorem dX5_standing_1 : decode cX5_standing 1 = .ok (.iload_n 1, 1) := by decide +kernel
theorem dX5_standing_2 : decode cX5_standing 2 = .ok (.invokevirtual 93, 3) := by decide +kernel
theorem dX5_standing_5 : decode cX5_standing 5 = .ok (.ifCond .eq 11, 3) := by decide +kernel
theorem dX5_standing_16 : decode cX5_standing 16 = .ok (.iconst (-1), 1) := by decide +kernel
theorem dX5_standing_17 : decode cX5_standing 17 = .ok (.ireturn, 1) := by decide +kernel
theorem dX5_starters_0 : decode cX5_starters 0 = .ok (.iload_n 1, 1) := by decide +kernel
theorem dX5_starters_1 : decode cX5_starters 1 = .ok (.invokestatic 73, 3) := by decide +kernel
theorem dX5_starters_4 : decode cX5_starters 4 = .ok (.ifCond .eq 11, 3) := by decide +kernel
theorem dX5_starters_7 : decode cX5_starters 7 = .ok (.aload_n 0, 1) := by decide +kernel
theorem dX5_starters_8 : decode cX5_starters 8 = .ok (.iload_n 2, 1) := by decide +kernel
theorem dX5_starters_9 : decode cX5_starters 9 = .ok (.invokevirtual 168, 3) := by decide +kernel
theorem dX5_starters_12 : decode cX5_starters 12 = .ok (.ifCond .ne 5, 3) := by decide +kernel
theorem dX5_starters_15 : decode cX5_starters 15 = .ok (.iconst (-1), 1) := by decide +kernel
theorem dX5_starters_16 : decode cX5_starters 16 = .ok (.ireturn, 1) := by decide +kernel
theorem dX5_starters_17 : decode cX5_starters 17 = .ok (.aload_n 0, 1) := by decide +kernel
theorem dX5_starters_18 : decode cX5_starters 18 = .ok (.iload_n 2, 1) := by decide +kernel
theorem dX5_starters_19 : decode cX5_starters 19 = .ok (.invokevirtual 215, 3) := by decide +kernel
theorem dX5_starters_22 : decode cX5_starters 22 = .ok (.iconst 2, 1) := by decide +kernel
theorem dX5_starters_23 : decode cX5_starters 23 = .ok (.istore_n 3, 1) := by decide +kernel
theorem dX5_starters_24 : decode cX5_starters 24 = .ok (.iconst 0, 1) := by decide +kernel
theorem dX5_starters_25 : decode cX5_starters 25 = .ok (.istore 4, 2) := by decide +kernel
theorem dX5_starters_27 : decode cX5_starters 27 = .ok (.iload 4, 2) := by decide +kernel
theorem dX5_starters_29 : decode cX5_starters 29 = .ok (.aload_n 0, 1) := by decide +kernel
theorem dX5_starters_30 : decode cX5_starters 30 = .ok (.getfield 77, 3) := by decide +kernel
theorem dX5_starters_33 : decode cX5_starters 33 = .ok (.if_icmp .ge 43, 3) := by decide +kernel
theorem dX5_starters_76 : decode cX5_starters 76 = .ok (.iload_n 3, 1) := by decide +kernel
theorem dX5_starters_77 : decode cX5_starters 77 = .ok (.iconst 4, 1) := by decide +kernel
theorem dX5_starters_78 : decode cX5_starters 78 = .ok (.invokestatic 221, 3) := by decide +kernel
theorem dX5_starters_81 : decode cX5_starters 81 = .ok (.ireturn, 1) := by decide +kernel
theorem dX5_count_0 : decode cX5_count 0 = .ok (.iload_n 1, 1) := by decide +kernel
theorem dX5_count_1 : decode cX5_count 1 = .ok (.tableswitch 60 0 4 #[35, 40, 45, 50, 55], 35) := by decide +kernel
theorem dX5_count_36 : decode cX5_count 36 = .ok (.aload_n 0, 1) := by decide +kernel
theorem dX5_count_37 : decode cX5_count 37 = .ok (.getfield 70, 3) := by decide +kernel
theorem dX5_count_40 : decode cX5_count 40 = .ok (.ireturn, 1) := by decide +kernel
theorem dX5_count_41 : decode cX5_count 41 = .ok (.aload_n 0, 1) := by decide +kernel
theorem dX5_count_42 : decode cX5_count 42 = .ok (.getfield 67, 3) := by decide +kernel
theorem dX5_count_45 : decode cX5_count 45 = .ok (.ireturn, 1) := by decide +kernel
theorem dX5_count_46 : decode cX5_count 46 = .ok (.aload_n 0, 1) := by decide +kernel
theorem dX5_count_47 : decode cX5_count 47 = .ok (.getfield 77, 3) := by decide +kernel
theorem dX5_count_50 : decode cX5_count 50 = .ok (.ireturn, 1) := by decide +kernel
theorem dX5_count_51 : decode cX5_count 51 = .ok (.aload_n 0, 1) := by decide +kernel
theorem dX5_count_52 : decode cX5_count 52 = .ok (.getfield 80, 3) := by decide +kernel
theorem dX5_count_55 : decode cX5_count 55 = .ok (.ireturn, 1) := by decide +kernel
theorem dX5_count_56 : decode cX5_count 56 = .ok (.aload_n 0, 1) := by decide +kernel
theorem dX5_count_57 : decode cX5_count 57 = .ok (.getfield 109, 3) := by decide +kernel
theorem dX5_count_60 : decode cX5_count 60 = .ok (.ireturn, 1) := by decide +kernel
theorem dX5_count_61 : decode cX5_count 61 = .ok (.iconst (-1), 1) := by decide +kernel
theorem dX5_count_62 : decode cX5_count 62 = .ok (.ireturn, 1) := by decide +kernel
theorem dX5_raceAt_0 : decode cX5_raceAt 0 = .ok (.iload_n 1, 1) := by decide +kernel
theorem dX5_raceAt_1 : decode cX5_raceAt 1 = .ok (.ifCond .lt 20, 3) := by decide +kernel
theorem dX5_raceAt_4 : decode cX5_raceAt 4 = .ok (.iload_n 1, 1) := by decide +kernel
theorem dX5_raceAt_5 : decode cX5_raceAt 5 = .ok (.aload_n 0, 1) := by decide +kernel
theorem dX5_raceAt_6 : decode cX5_raceAt 6 = .ok (.getfield 80, 3) := by decide +kernel
theorem dX5_raceAt_9 : decode cX5_raceAt 9 = .ok (.if_icmp .ge 12, 3) := by decide +kernel
theorem dX5_raceAt_21 : decode cX5_raceAt 21 = .ok (.aconst_null, 1) := by decide +kernel
theorem dX5_raceAt_22 : decode cX5_raceAt 22 = .ok (.areturn, 1) := by decide +kernel
theorem dX5_isRacer_0 : decode cX5_isRacer 0 = .ok (.iload_n 1, 1) := by decide +kernel
theorem dX5_isRacer_1 : decode cX5_isRacer 1 = .ok (.ifCond .lt 15, 3) := by decide +kernel
theorem dX5_isRacer_4 : decode cX5_isRacer 4 = .ok (.iload_n 1, 1) := by decide +kernel
theorem dX5_isRacer_5 : decode cX5_isRacer 5 = .ok (.aload_n 0, 1) := by decide +kernel
theorem dX5_isRacer_6 : decode cX5_isRacer 6 = .ok (.getfield 77, 3) := by decide +kernel
theorem dX5_isRacer_9 : decode cX5_isRacer 9 = .ok (.if_icmp .ge 7, 3) := by decide +kernel
theorem dX5_isRacer_16 : decode cX5_isRacer 16 = .ok (.iconst 0, 1) := by decide +kernel
theorem dX5_isRacer_17 : decode cX5_isRacer 17 = .ok (.ireturn, 1) := by decide +kernel
theorem dX5_isDay_0 : decode cX5_isDay 0 = .ok (.iload_n 1, 1) := by decide +kernel
theorem dX5_isDay_1 : decode cX5_isDay 1 = .ok (.ifCond .lt 15, 3) := by decide +kernel
theorem dX5_isDay_4 : decode cX5_isDay 4 = .ok (.iload_n 1, 1) := by decide +kernel
theorem dX5_isDay_5 : decode cX5_isDay 5 = .ok (.aload_n 0, 1) := by decide +kernel
theorem dX5_isDay_6 : decode cX5_isDay 6 = .ok (.getfield 70, 3) := by decide +kernel
theorem dX5_isDay_9 : decode cX5_isDay 9 = .ok (.if_icmp .gt 7, 3) := by decide +kernel
theorem dX5_isDay_12 : decode cX5_isDay 12 = .ok (.iconst 1, 1) := by decide +kernel
theorem dX5_isDay_13 : decode cX5_isDay 13 = .ok (.goto 4, 3) := by decide +kernel
theorem dX5_isDay_16 : decode cX5_isDay 16 = .ok (.iconst 0, 1) := by decide +kernel
theorem dX5_isDay_17 : decode cX5_isDay 17 = .ok (.ireturn, 1) := by decide +kernel
theorem dX5_isNation_0 : decode cX5_isNation 0 = .ok (.iload_n 0, 1) := by decide +kernel
theorem dX5_isNation_1 : decode cX5_isNation 1 = .ok (.ifCond .lt 13, 3) := by decide +kernel
theorem dX5_isNation_4 : decode cX5_isNation 4 = .ok (.iload_n 0, 1) := by decide +kernel
theorem dX5_isNation_5 : decode cX5_isNation 5 = .ok (.bipush 8, 2) := by decide +kernel
theorem dX5_isNation_7 : decode cX5_isNation 7 = .ok (.if_icmp .ge 7, 3) := by decide +kernel
theorem dX5_isNation_10 : decode cX5_isNation 10 = .ok (.iconst 1, 1) := by decide +kernel
theorem dX5_isNation_11 : decode cX5_isNation 11 = .ok (.goto 4, 3) := by decide +kernel
theorem dX5_isNation_14 : decode cX5_isNation 14 = .ok (.iconst 0, 1) := by decide +kernel
theorem dX5_isNation_15 : decode cX5_isNation 15 = .ok (.ireturn, 1) := by decide +kernel
theorem dX5_workOut_0 : decode cX5_workOut 0 = .ok (.iconst 0, 1) := by decide +kernel
theorem dX5_workOut_1 : decode cX5_workOut 1 = .ok (.istore_n 3, 1) := by decide +kernel
theorem dX5_workOut_2 : decode cX5_workOut 2 = .ok (.iload_n 3, 1) := by decide +kernel
theorem dX5_workOut_3 : decode cX5_workOut 3 = .ok (.iload_n 1, 1) := by decide +kernel
theorem dX5_workOut_4 : decode cX5_workOut 4 = .ok (.if_icmp .ge 27, 3) := by decide +kernel
theorem dX5_workOut_31 : decode cX5_workOut 31 = .ok (.return_, 1) := by decide +kernel
theorem dX5_addUpCup_0 : decode cX5_addUpCup 0 = .ok (.aload_n 0, 1) := by decide +kernel
theorem dX5_addUpCup_1 : decode cX5_addUpCup 1 = .ok (.aload_n 0, 1) := by decide +kernel
theorem dX5_addUpCup_2 : decode cX5_addUpCup 2 = .ok (.getfield 80, 3) := by decide +kernel
theorem dX5_addUpCup_5 : decode cX5_addUpCup 5 = .ok (.iload_n 1, 1) := by decide +kernel
theorem dX5_addUpCup_6 : decode cX5_addUpCup 6 = .ok (.invokevirtual 171, 3) := by decide +kernel
theorem dX5_addUpCup_9 : decode cX5_addUpCup 9 = .ok (.iconst 0, 1) := by decide +kernel
theorem dX5_addUpCup_10 : decode cX5_addUpCup 10 = .ok (.istore_n 2, 1) := by decide +kernel
theorem dX5_addUpCup_11 : decode cX5_addUpCup 11 = .ok (.iload_n 2, 1) := by decide +kernel
theorem dX5_addUpCup_12 : decode cX5_addUpCup 12 = .ok (.aload_n 0, 1) := by decide +kernel
theorem dX5_addUpCup_13 : decode cX5_addUpCup 13 = .ok (.getfield 77, 3) := by decide +kernel
theorem dX5_addUpCup_16 : decode cX5_addUpCup 16 = .ok (.if_icmp .ge 16, 3) := by decide +kernel
theorem dX5_addUpCup_32 : decode cX5_addUpCup 32 = .ok (.iconst 0, 1) := by decide +kernel
theorem dX5_addUpCup_33 : decode cX5_addUpCup 33 = .ok (.istore_n 2, 1) := by decide +kernel
theorem dX5_addUpCup_34 : decode cX5_addUpCup 34 = .ok (.iload_n 2, 1) := by decide +kernel
theorem dX5_addUpCup_35 : decode cX5_addUpCup 35 = .ok (.aload_n 0, 1) := by decide +kernel
theorem dX5_addUpCup_36 : decode cX5_addUpCup 36 = .ok (.getfield 80, 3) := by decide +kernel
theorem dX5_addUpCup_39 : decode cX5_addUpCup 39 = .ok (.if_icmp .ge 19, 3) := by decide +kernel
theorem dX5_addUpCup_58 : decode cX5_addUpCup 58 = .ok (.return_, 1) := by decide +kernel
theorem dX6_init_0 : decode cX6_init 0 = .ok (.aload_n 0, 1) := by decide +kernel
theorem dX6_init_1 : decode cX6_init 1 = .ok (.invokespecial 1, 3) := by decide +kernel
theorem dX6_init_4 : decode cX6_init 4 = .ok (.aload_n 0, 1) := by decide +kernel
theorem dX6_init_5 : decode cX6_init 5 = .ok (.sipush 1000, 3) := by decide +kernel
theorem dX6_init_8 : decode cX6_init 8 = .ok (.newarray .int, 2) := by decide +kernel
theorem dX6_init_10 : decode cX6_init 10 = .ok (.putfield 7, 3) := by decide +kernel
theorem dX6_init_13 : decode cX6_init 13 = .ok (.aload_n 0, 1) := by decide +kernel
theorem dX6_init_14 : decode cX6_init 14 = .ok (.bipush 16, 2) := by decide +kernel
theorem dX6_init_16 : decode cX6_init 16 = .ok (.newarray .int, 2) := by decide +kernel
theorem dX6_init_18 : decode cX6_init 18 = .ok (.putfield 13, 3) := by decide +kernel
theorem dX6_init_21 : decode cX6_init 21 = .ok (.aload_n 0, 1) := by decide +kernel
theorem dX6_init_22 : decode cX6_init 22 = .ok (.bipush 16, 2) := by decide +kernel
theorem dX6_init_24 : decode cX6_init 24 = .ok (.newarray .int, 2) := by decide +kernel
theorem dX6_init_26 : decode cX6_init 26 = .ok (.putfield 16, 3) := by decide +kernel
theorem dX6_init_29 : decode cX6_init 29 = .ok (.aload_n 0, 1) := by decide +kernel
theorem dX6_init_30 : decode cX6_init 30 = .ok (.bipush 64, 2) := by decide +kernel
theorem dX6_init_32 : decode cX6_init 32 = .ok (.newarray .int, 2) := by decide +kernel
theorem dX6_init_34 : decode cX6_init 34 = .ok (.putfield 19, 3) := by decide +kernel
theorem dX6_init_37 : decode cX6_init 37 = .ok (.aload_n 0, 1) := by decide +kernel
theorem dX6_init_38 : decode cX6_init 38 = .ok (.bipush 16, 2) := by decide +kernel
theorem dX6_init_40 : decode cX6_init 40 = .ok (.newarray .int, 2) := by decide +kernel
theorem dX6_init_42 : decode cX6_init 42 = .ok (.putfield 22, 3) := by decide +kernel
theorem dX6_init_45 : decode cX6_init 45 = .ok (.aload_n 0, 1) := by decide +kernel
theorem dX6_init_46 : decode cX6_init 46 = .ok (.bipush 16, 2) := by decide +kernel
theorem dX6_init_48 : decode cX6_init 48 = .ok (.newarray .boolean, 2) := by decide +kernel
theorem dX6_init_50 : decode cX6_init 50 = .ok (.putfield 25, 3) := by decide +kernel
theorem dX6_init_53 : decode cX6_init 53 = .ok (.aload_n 0, 1) := by decide +kernel
theorem dX6_init_54 : decode cX6_init 54 = .ok (.bipush 16, 2) := by decide +kernel
theorem dX6_init_56 : decode cX6_init 56 = .ok (.newarray .int, 2) := by decide +kernel
theorem dX6_init_58 : decode cX6_init 58 = .ok (.putfield 29, 3) := by decide +kernel
theorem dX6_init_61 : decode cX6_init 61 = .ok (.aload_n 0, 1) := by decide +kernel
theorem dX6_init_62 : decode cX6_init 62 = .ok (.bipush 16, 2) := by decide +kernel
theorem dX6_init_64 : decode cX6_init 64 = .ok (.newarray .int, 2) := by decide +kernel
theorem dX6_init_66 : decode cX6_init 66 = .ok (.putfield 32, 3) := by decide +kernel
theorem dX6_init_69 : decode cX6_init 69 = .ok (.aload_n 0, 1) := by decide +kernel
theorem dX6_init_70 : decode cX6_init 70 = .ok (.bipush 16, 2) := by decide +kernel
theorem dX6_init_72 : decode cX6_init 72 = .ok (.newarray .int, 2) := by decide +kernel
theorem dX6_init_74 : decode cX6_init 74 = .ok (.putfield 35, 3) := by decide +kernel
theorem dX6_init_77 : decode cX6_init 77 = .ok (.aload_n 0, 1) := by decide +kernel
theorem dX6_init_78 : decode cX6_init 78 = .ok (.iconst (-1), 1) := by decide +kernel
theorem dX6_init_79 : decode cX6_init 79 = .ok (.putfield 38, 3) := by decide +kernel
theorem dX6_init_82 : decode cX6_init 82 = .ok (.aload_n 0, 1) := by decide +kernel
theorem dX6_init_83 : decode cX6_init 83 = .ok (.bipush 16, 2) := by decide +kernel
theorem dX6_init_85 : decode cX6_init 85 = .ok (.newarray .int, 2) := by decide +kernel
theorem dX6_init_87 : decode cX6_init 87 = .ok (.putfield 42, 3) := by decide +kernel
theorem dX6_init_90 : decode cX6_init 90 = .ok (.aload_n 0, 1) := by decide +kernel
theorem dX6_init_91 : decode cX6_init 91 = .ok (.bipush 8, 2) := by decide +kernel
theorem dX6_init_93 : decode cX6_init 93 = .ok (.newarray .int, 2) := by decide +kernel
theorem dX6_init_95 : decode cX6_init 95 = .ok (.putfield 45, 3) := by decide +kernel
theorem dX6_init_98 : decode cX6_init 98 = .ok (.aload_n 0, 1) := by decide +kernel
theorem dX6_init_99 : decode cX6_init 99 = .ok (.bipush 8, 2) := by decide +kernel
theorem dX6_init_101 : decode cX6_init 101 = .ok (.newarray .int, 2) := by decide +kernel
theorem dX6_init_103 : decode cX6_init 103 = .ok (.putfield 48, 3) := by decide +kernel
theorem dX6_init_106 : decode cX6_init 106 = .ok (.aload_n 0, 1) := by decide +kernel
theorem dX6_init_107 : decode cX6_init 107 = .ok (.bipush 8, 2) := by decide +kernel
theorem dX6_init_109 : decode cX6_init 109 = .ok (.newarray .int, 2) := by decide +kernel
theorem dX6_init_111 : decode cX6_init 111 = .ok (.putfield 51, 3) := by decide +kernel
theorem dX6_init_114 : decode cX6_init 114 = .ok (.aload_n 0, 1) := by decide +kernel
theorem dX6_init_115 : decode cX6_init 115 = .ok (.bipush 8, 2) := by decide +kernel
theorem dX6_init_117 : decode cX6_init 117 = .ok (.newarray .int, 2) := by decide +kernel
theorem dX6_init_119 : decode cX6_init 119 = .ok (.putfield 54, 3) := by decide +kernel
theorem dX6_init_122 : decode cX6_init 122 = .ok (.aload_n 0, 1) := by decide +kernel
theorem dX6_init_123 : decode cX6_init 123 = .ok (.bipush 8, 2) := by decide +kernel
theorem dX6_init_125 : decode cX6_init 125 = .ok (.newarray .boolean, 2) := by decide +kernel
theorem dX6_init_127 : decode cX6_init 127 = .ok (.putfield 57, 3) := by decide +kernel
theorem dX6_init_130 : decode cX6_init 130 = .ok (.aload_n 0, 1) := by decide +kernel
theorem dX6_init_131 : decode cX6_init 131 = .ok (.bipush 8, 2) := by decide +kernel
theorem dX6_init_133 : decode cX6_init 133 = .ok (.newarray .int, 2) := by decide +kernel
theorem dX6_init_135 : decode cX6_init 135 = .ok (.putfield 60, 3) := by decide +kernel
theorem dX6_init_138 : decode cX6_init 138 = .ok (.aload_n 0, 1) := by decide +kernel
theorem dX6_init_139 : decode cX6_init 139 = .ok (.bipush 8, 2) := by decide +kernel
theorem dX6_init_141 : decode cX6_init 141 = .ok (.newarray .int, 2) := by decide +kernel
theorem dX6_init_143 : decode cX6_init 143 = .ok (.putfield 63, 3) := by decide +kernel
theorem dX6_init_146 : decode cX6_init 146 = .ok (.aload_n 0, 1) := by decide +kernel
theorem dX6_init_147 : decode cX6_init 147 = .ok (.bipush 8, 2) := by decide +kernel
theorem dX6_init_149 : decode cX6_init 149 = .ok (.newarray .int, 2) := by decide +kernel
theorem dX6_init_151 : decode cX6_init 151 = .ok (.putfield 66, 3) := by decide +kernel
theorem dX6_init_154 : decode cX6_init 154 = .ok (.aload_n 0, 1) := by decide +kernel
theorem dX6_init_155 : decode cX6_init 155 = .ok (.bipush 8, 2) := by decide +kernel
theorem dX6_init_157 : decode cX6_init 157 = .ok (.newarray .int, 2) := by decide +kernel
theorem dX6_init_159 : decode cX6_init 159 = .ok (.putfield 69, 3) := by decide +kernel
theorem dX6_init_162 : decode cX6_init 162 = .ok (.aload_n 0, 1) := by decide +kernel
theorem dX6_init_163 : decode cX6_init 163 = .ok (.bipush 8, 2) := by decide +kernel
theorem dX6_init_165 : decode cX6_init 165 = .ok (.newarray .int, 2) := by decide +kernel
theorem dX6_init_167 : decode cX6_init 167 = .ok (.putfield 72, 3) := by decide +kernel
theorem dX6_init_170 : decode cX6_init 170 = .ok (.aload_n 0, 1) := by decide +kernel
theorem dX6_init_171 : decode cX6_init 171 = .ok (.bipush 8, 2) := by decide +kernel
theorem dX6_init_173 : decode cX6_init 173 = .ok (.newarray .int, 2) := by decide +kernel
theorem dX6_init_175 : decode cX6_init 175 = .ok (.putfield 75, 3) := by decide +kernel
theorem dX6_init_178 : decode cX6_init 178 = .ok (.aload_n 0, 1) := by decide +kernel
theorem dX6_init_179 : decode cX6_init 179 = .ok (.sipush 128, 3) := by decide +kernel
theorem dX6_init_182 : decode cX6_init 182 = .ok (.newarray .int, 2) := by decide +kernel
theorem dX6_init_184 : decode cX6_init 184 = .ok (.putfield 78, 3) := by decide +kernel
theorem dX6_init_187 : decode cX6_init 187 = .ok (.aload_n 0, 1) := by decide +kernel
theorem dX6_init_188 : decode cX6_init 188 = .ok (.sipush 128, 3) := by decide +kernel
theorem dX6_init_191 : decode cX6_init 191 = .ok (.newarray .int, 2) := by decide +kernel
theorem dX6_init_193 : decode cX6_init 193 = .ok (.putfield 81, 3) := by decide +kernel
theorem dX6_init_196 : decode cX6_init 196 = .ok (.aload_n 0, 1) := by decide +kernel
theorem dX6_init_197 : decode cX6_init 197 = .ok (.sipush 400, 3) := by decide +kernel
theorem dX6_init_200 : decode cX6_init 200 = .ok (.newarray .int, 2) := by decide +kernel
theorem dX6_init_202 : decode cX6_init 202 = .ok (.putfield 84, 3) := by decide +kernel
theorem dX6_init_205 : decode cX6_init 205 = .ok (.aload_n 0, 1) := by decide +kernel
theorem dX6_init_206 : decode cX6_init 206 = .ok (.sipush 400, 3) := by decide +kernel
theorem dX6_init_209 : decode cX6_init 209 = .ok (.newarray .int, 2) := by decide +kernel
theorem dX6_init_211 : decode cX6_init 211 = .ok (.putfield 87, 3) := by decide +kernel
theorem dX6_init_214 : decode cX6_init 214 = .ok (.aload_n 0, 1) := by decide +kernel
theorem dX6_init_215 : decode cX6_init 215 = .ok (.sipush 400, 3) := by decide +kernel
theorem dX6_init_218 : decode cX6_init 218 = .ok (.newarray .int, 2) := by decide +kernel
theorem dX6_init_220 : decode cX6_init 220 = .ok (.putfield 90, 3) := by decide +kernel
theorem dX6_init_223 : decode cX6_init 223 = .ok (.aload_n 0, 1) := by decide +kernel
theorem dX6_init_224 : decode cX6_init 224 = .ok (.sipush 400, 3) := by decide +kernel
theorem dX6_init_227 : decode cX6_init 227 = .ok (.newarray .int, 2) := by decide +kernel
theorem dX6_init_229 : decode cX6_init 229 = .ok (.putfield 93, 3) := by decide +kernel
theorem dX6_init_232 : decode cX6_init 232 = .ok (.aload_n 0, 1) := by decide +kernel
theorem dX6_init_233 : decode cX6_init 233 = .ok (.sipush 400, 3) := by decide +kernel
theorem dX6_init_236 : decode cX6_init 236 = .ok (.newarray .int, 2) := by decide +kernel
theorem dX6_init_238 : decode cX6_init 238 = .ok (.putfield 96, 3) := by decide +kernel
theorem dX6_init_241 : decode cX6_init 241 = .ok (.aload_n 0, 1) := by decide +kernel
theorem dX6_init_242 : decode cX6_init 242 = .ok (.sipush 400, 3) := by decide +kernel
theorem dX6_init_245 : decode cX6_init 245 = .ok (.newarray .int, 2) := by decide +kernel
theorem dX6_init_247 : decode cX6_init 247 = .ok (.putfield 99, 3) := by decide +kernel
theorem dX6_init_250 : decode cX6_init 250 = .ok (.aload_n 0, 1) := by decide +kernel
theorem dX6_init_251 : decode cX6_init 251 = .ok (.bipush 62, 2) := by decide +kernel
theorem dX6_init_253 : decode cX6_init 253 = .ok (.newarray .int, 2) := by decide +kernel
theorem dX6_init_255 : decode cX6_init 255 = .ok (.dup, 1) := by decide +kernel
theorem dX6_init_256 : decode cX6_init 256 = .ok (.iconst 0, 1) := by decide +kernel
theorem dX6_init_257 : decode cX6_init 257 = .ok (.bipush 102, 2) := by decide +kernel
theorem dX6_init_259 : decode cX6_init 259 = .ok (.iastore, 1) := by decide +kernel
theorem dX6_init_260 : decode cX6_init 260 = .ok (.dup, 1) := by decide +kernel
theorem dX6_init_261 : decode cX6_init 261 = .ok (.iconst 1, 1) := by decide +kernel
theorem dX6_init_262 : decode cX6_init 262 = .ok (.bipush 111, 2) := by decide +kernel
theorem dX6_init_264 : decode cX6_init 264 = .ok (.iastore, 1) := by decide +kernel
theorem dX6_init_265 : decode cX6_init 265 = .ok (.dup, 1) := by decide +kernel
theorem dX6_init_266 : decode cX6_init 266 = .ok (.iconst 2, 1) := by decide +kernel
theorem dX6_init_267 : decode cX6_init 267 = .ok (.bipush 114, 2) := by decide +kernel
theorem dX6_init_269 : decode cX6_init 269 = .ok (.iastore, 1) := by decide +kernel
theorem dX6_init_270 : decode cX6_init 270 = .ok (.dup, 1) := by decide +kernel
theorem dX6_init_271 : decode cX6_init 271 = .ok (.iconst 3, 1) := by decide +kernel
theorem dX6_init_272 : decode cX6_init 272 = .ok (.bipush 109, 2) := by decide +kernel
theorem dX6_init_274 : decode cX6_init 274 = .ok (.iastore, 1) := by decide +kernel
theorem dX6_init_275 : decode cX6_init 275 = .ok (.dup, 1) := by decide +kernel
theorem dX6_init_276 : decode cX6_init 276 = .ok (.iconst 4, 1) := by decide +kernel
theorem dX6_init_277 : decode cX6_init 277 = .ok (.bipush 97, 2) := by decide +kernel
theorem dX6_init_279 : decode cX6_init 279 = .ok (.iastore, 1) := by decide +kernel
theorem dX6_init_280 : decode cX6_init 280 = .ok (.dup, 1) := by decide +kernel
theorem dX6_init_281 : decode cX6_init 281 = .ok (.iconst 5, 1) := by decide +kernel
theorem dX6_init_282 : decode cX6_init 282 = .ok (.bipush 116, 2) := by decide +kernel
theorem dX6_init_284 : decode cX6_init 284 = .ok (.iastore, 1) := by decide +kernel
theorem dX6_init_285 : decode cX6_init 285 = .ok (.dup, 1) := by decide +kernel
theorem dX6_init_286 : decode cX6_init 286 = .ok (.bipush 6, 2) := by decide +kernel
theorem dX6_init_288 : decode cX6_init 288 = .ok (.bipush 32, 2) := by decide +kernel
theorem dX6_init_290 : decode cX6_init 290 = .ok (.iastore, 1) := by decide +kernel
theorem dX6_init_291 : decode cX6_init 291 = .ok (.dup, 1) := by decide +kernel
theorem dX6_init_292 : decode cX6_init 292 = .ok (.bipush 7, 2) := by decide +kernel
theorem dX6_init_294 : decode cX6_init 294 = .ok (.bipush 108, 2) := by decide +kernel
theorem dX6_init_296 : decode cX6_init 296 = .ok (.iastore, 1) := by decide +kernel
theorem dX6_init_297 : decode cX6_init 297 = .ok (.dup, 1) := by decide +kernel
theorem dX6_init_298 : decode cX6_init 298 = .ok (.bipush 8, 2) := by decide +kernel
theorem dX6_init_300 : decode cX6_init 300 = .ok (.bipush 97, 2) := by decide +kernel
theorem dX6_init_302 : decode cX6_init 302 = .ok (.iastore, 1) := by decide +kernel
theorem dX6_init_303 : decode cX6_init 303 = .ok (.dup, 1) := by decide +kernel
theorem dX6_init_304 : decode cX6_init 304 = .ok (.bipush 9, 2) := by decide +kernel
theorem dX6_init_306 : decode cX6_init 306 = .ok (.bipush 112, 2) := by decide +kernel
theorem dX6_init_308 : decode cX6_init 308 = .ok (.iastore, 1) := by decide +kernel
theorem dX6_init_309 : decode cX6_init 309 = .ok (.dup, 1) := by decide +kernel
theorem dX6_init_310 : decode cX6_init 310 = .ok (.bipush 10, 2) := by decide +kernel
theorem dX6_init_312 : decode cX6_init 312 = .ok (.bipush 115, 2) := by decide +kernel
theorem dX6_init_314 : decode cX6_init 314 = .ok (.iastore, 1) := by decide +kernel
theorem dX6_init_315 : decode cX6_init 315 = .ok (.dup, 1) := by decide +kernel
theorem dX6_init_316 : decode cX6_init 316 = .ok (.bipush 11, 2) := by decide +kernel
theorem dX6_init_318 : decode cX6_init 318 = .ok (.bipush 32, 2) := by decide +kernel
theorem dX6_init_320 : decode cX6_init 320 = .ok (.iastore, 1) := by decide +kernel
theorem dX6_init_321 : decode cX6_init 321 = .ok (.dup, 1) := by decide +kernel
theorem dX6_init_322 : decode cX6_init 322 = .ok (.bipush 12, 2) := by decide +kernel
theorem dX6_init_324 : decode cX6_init 324 = .ok (.bipush 115, 2) := by decide +kernel
theorem dX6_init_326 : decode cX6_init 326 = .ok (.iastore, 1) := by decide +kernel
theorem dX6_init_327 : decode cX6_init 327 = .ok (.dup, 1) := by decide +kernel
theorem dX6_init_328 : decode cX6_init 328 = .ok (.bipush 13, 2) := by decide +kernel
theorem dX6_init_330 : decode cX6_init 330 = .ok (.bipush 104, 2) := by decide +kernel
theorem dX6_init_332 : decode cX6_init 332 = .ok (.iastore, 1) := by decide +kernel
theorem dX6_init_333 : decode cX6_init 333 = .ok (.dup, 1) := by decide +kernel
theorem dX6_init_334 : decode cX6_init 334 = .ok (.bipush 14, 2) := by decide +kernel
theorem dX6_init_336 : decode cX6_init 336 = .ok (.bipush 111, 2) := by decide +kernel
theorem dX6_init_338 : decode cX6_init 338 = .ok (.iastore, 1) := by decide +kernel
theorem dX6_init_339 : decode cX6_init 339 = .ok (.dup, 1) := by decide +kernel
theorem dX6_init_340 : decode cX6_init 340 = .ok (.bipush 15, 2) := by decide +kernel
theorem dX6_init_342 : decode cX6_init 342 = .ok (.bipush 111, 2) := by decide +kernel
theorem dX6_init_344 : decode cX6_init 344 = .ok (.iastore, 1) := by decide +kernel
theorem dX6_init_345 : decode cX6_init 345 = .ok (.dup, 1) := by decide +kernel
theorem dX6_init_346 : decode cX6_init 346 = .ok (.bipush 16, 2) := by decide +kernel
theorem dX6_init_348 : decode cX6_init 348 = .ok (.bipush 116, 2) := by decide +kernel
theorem dX6_init_350 : decode cX6_init 350 = .ok (.iastore, 1) := by decide +kernel
theorem dX6_init_351 : decode cX6_init 351 = .ok (.dup, 1) := by decide +kernel
theorem dX6_init_352 : decode cX6_init 352 = .ok (.bipush 17, 2) := by decide +kernel
theorem dX6_init_354 : decode cX6_init 354 = .ok (.bipush 32, 2) := by decide +kernel
theorem dX6_init_356 : decode cX6_init 356 = .ok (.iastore, 1) := by decide +kernel
theorem dX6_init_357 : decode cX6_init 357 = .ok (.dup, 1) := by decide +kernel
theorem dX6_init_358 : decode cX6_init 358 = .ok (.bipush 18, 2) := by decide +kernel
theorem dX6_init_360 : decode cX6_init 360 = .ok (.bipush 115, 2) := by decide +kernel
theorem dX6_init_362 : decode cX6_init 362 = .ok (.iastore, 1) := by decide +kernel
theorem dX6_init_363 : decode cX6_init 363 = .ok (.dup, 1) := by decide +kernel
theorem dX6_init_364 : decode cX6_init 364 = .ok (.bipush 19, 2) := by decide +kernel
theorem dX6_init_366 : decode cX6_init 366 = .ok (.bipush 112, 2) := by decide +kernel
theorem dX6_init_368 : decode cX6_init 368 = .ok (.iastore, 1) := by decide +kernel
theorem dX6_init_369 : decode cX6_init 369 = .ok (.dup, 1) := by decide +kernel
theorem dX6_init_370 : decode cX6_init 370 = .ok (.bipush 20, 2) := by decide +kernel
theorem dX6_init_372 : decode cX6_init 372 = .ok (.bipush 97, 2) := by decide +kernel
theorem dX6_init_374 : decode cX6_init 374 = .ok (.iastore, 1) := by decide +kernel
theorem dX6_init_375 : decode cX6_init 375 = .ok (.dup, 1) := by decide +kernel
theorem dX6_init_376 : decode cX6_init 376 = .ok (.bipush 21, 2) := by decide +kernel
theorem dX6_init_378 : decode cX6_init 378 = .ok (.bipush 114, 2) := by decide +kernel
theorem dX6_init_380 : decode cX6_init 380 = .ok (.iastore, 1) := by decide +kernel
theorem dX6_init_381 : decode cX6_init 381 = .ok (.dup, 1) := by decide +kernel
theorem dX6_init_382 : decode cX6_init 382 = .ok (.bipush 22, 2) := by decide +kernel
theorem dX6_init_384 : decode cX6_init 384 = .ok (.bipush 101, 2) := by decide +kernel
theorem dX6_init_386 : decode cX6_init 386 = .ok (.iastore, 1) := by decide +kernel
theorem dX6_init_387 : decode cX6_init 387 = .ok (.dup, 1) := by decide +kernel
theorem dX6_init_388 : decode cX6_init 388 = .ok (.bipush 23, 2) := by decide +kernel
theorem dX6_init_390 : decode cX6_init 390 = .ok (.bipush 115, 2) := by decide +kernel
theorem dX6_init_392 : decode cX6_init 392 = .ok (.iastore, 1) := by decide +kernel
theorem dX6_init_393 : decode cX6_init 393 = .ok (.dup, 1) := by decide +kernel
theorem dX6_init_394 : decode cX6_init 394 = .ok (.bipush 24, 2) := by decide +kernel
theorem dX6_init_396 : decode cX6_init 396 = .ok (.bipush 32, 2) := by decide +kernel
theorem dX6_init_398 : decode cX6_init 398 = .ok (.iastore, 1) := by decide +kernel
theorem dX6_init_399 : decode cX6_init 399 = .ok (.dup, 1) := by decide +kernel
theorem dX6_init_400 : decode cX6_init 400 = .ok (.bipush 25, 2) := by decide +kernel
theorem dX6_init_402 : decode cX6_init 402 = .ok (.bipush 109, 2) := by decide +kernel
theorem dX6_init_404 : decode cX6_init 404 = .ok (.iastore, 1) := by decide +kernel
theorem dX6_init_405 : decode cX6_init 405 = .ok (.dup, 1) := by decide +kernel
theorem dX6_init_406 : decode cX6_init 406 = .ok (.bipush 26, 2) := by decide +kernel
theorem dX6_init_408 : decode cX6_init 408 = .ok (.bipush 105, 2) := by decide +kernel
theorem dX6_init_410 : decode cX6_init 410 = .ok (.iastore, 1) := by decide +kernel
theorem dX6_init_411 : decode cX6_init 411 = .ok (.dup, 1) := by decide +kernel
theorem dX6_init_412 : decode cX6_init 412 = .ok (.bipush 27, 2) := by decide +kernel
theorem dX6_init_414 : decode cX6_init 414 = .ok (.bipush 115, 2) := by decide +kernel
theorem dX6_init_416 : decode cX6_init 416 = .ok (.iastore, 1) := by decide +kernel
theorem dX6_init_417 : decode cX6_init 417 = .ok (.dup, 1) := by decide +kernel
theorem dX6_init_418 : decode cX6_init 418 = .ok (.bipush 28, 2) := by decide +kernel
theorem dX6_init_420 : decode cX6_init 420 = .ok (.bipush 115, 2) := by decide +kernel
theorem dX6_init_422 : decode cX6_init 422 = .ok (.iastore, 1) := by decide +kernel
theorem dX6_init_423 : decode cX6_init 423 = .ok (.dup, 1) := by decide +kernel
theorem dX6_init_424 : decode cX6_init 424 = .ok (.bipush 29, 2) := by decide +kernel
theorem dX6_init_426 : decode cX6_init 426 = .ok (.bipush 32, 2) := by decide +kernel
theorem dX6_init_428 : decode cX6_init 428 = .ok (.iastore, 1) := by decide +kernel
theorem dX6_init_429 : decode cX6_init 429 = .ok (.dup, 1) := by decide +kernel
theorem dX6_init_430 : decode cX6_init 430 = .ok (.bipush 30, 2) := by decide +kernel
theorem dX6_init_432 : decode cX6_init 432 = .ok (.bipush 108, 2) := by decide +kernel
theorem dX6_init_434 : decode cX6_init 434 = .ok (.iastore, 1) := by decide +kernel
theorem dX6_init_435 : decode cX6_init 435 = .ok (.dup, 1) := by decide +kernel
theorem dX6_init_436 : decode cX6_init 436 = .ok (.bipush 31, 2) := by decide +kernel
theorem dX6_init_438 : decode cX6_init 438 = .ok (.bipush 111, 2) := by decide +kernel
theorem dX6_init_440 : decode cX6_init 440 = .ok (.iastore, 1) := by decide +kernel
theorem dX6_init_441 : decode cX6_init 441 = .ok (.dup, 1) := by decide +kernel
theorem dX6_init_442 : decode cX6_init 442 = .ok (.bipush 32, 2) := by decide +kernel
theorem dX6_init_444 : decode cX6_init 444 = .ok (.bipush 111, 2) := by decide +kernel
theorem dX6_init_446 : decode cX6_init 446 = .ok (.iastore, 1) := by decide +kernel
theorem dX6_init_447 : decode cX6_init 447 = .ok (.dup, 1) := by decide +kernel
theorem dX6_init_448 : decode cX6_init 448 = .ok (.bipush 33, 2) := by decide +kernel
theorem dX6_init_450 : decode cX6_init 450 = .ok (.bipush 112, 2) := by decide +kernel
theorem dX6_init_452 : decode cX6_init 452 = .ok (.iastore, 1) := by decide +kernel
theorem dX6_init_453 : decode cX6_init 453 = .ok (.dup, 1) := by decide +kernel
theorem dX6_init_454 : decode cX6_init 454 = .ok (.bipush 34, 2) := by decide +kernel
theorem dX6_init_456 : decode cX6_init 456 = .ok (.bipush 32, 2) := by decide +kernel
theorem dX6_init_458 : decode cX6_init 458 = .ok (.iastore, 1) := by decide +kernel
theorem dX6_init_459 : decode cX6_init 459 = .ok (.dup, 1) := by decide +kernel
theorem dX6_init_460 : decode cX6_init 460 = .ok (.bipush 35, 2) := by decide +kernel
theorem dX6_init_462 : decode cX6_init 462 = .ok (.bipush 97, 2) := by decide +kernel
theorem dX6_init_464 : decode cX6_init 464 = .ok (.iastore, 1) := by decide +kernel
theorem dX6_init_465 : decode cX6_init 465 = .ok (.dup, 1) := by decide +kernel
