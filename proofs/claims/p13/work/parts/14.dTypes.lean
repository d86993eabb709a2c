theorem dTypes_init_0 : decode bTypes_init 0 = .ok (.aload_n 0, 1) := by decide +kernel
theorem dTypes_init_1 : decode bTypes_init 1 = .ok (.invokespecial 3, 3) := by decide +kernel
theorem dTypes_init_4 : decode bTypes_init 4 = .ok (.aload_n 0, 1) := by decide +kernel
theorem dTypes_init_5 : decode bTypes_init 5 = .ok (.bipush 16, 2) := by decide +kernel
theorem dTypes_init_7 : decode bTypes_init 7 = .ok (.newarray .int, 2) := by decide +kernel
theorem dTypes_init_9 : decode bTypes_init 9 = .ok (.putfield 9, 3) := by decide +kernel
theorem dTypes_init_12 : decode bTypes_init 12 = .ok (.aload_n 0, 1) := by decide +kernel
theorem dTypes_init_13 : decode bTypes_init 13 = .ok (.bipush 16, 2) := by decide +kernel
theorem dTypes_init_15 : decode bTypes_init 15 = .ok (.newarray .int, 2) := by decide +kernel
theorem dTypes_init_17 : decode bTypes_init 17 = .ok (.putfield 15, 3) := by decide +kernel
theorem dTypes_init_20 : decode bTypes_init 20 = .ok (.aload_n 0, 1) := by decide +kernel
theorem dTypes_init_21 : decode bTypes_init 21 = .ok (.bipush 16, 2) := by decide +kernel
theorem dTypes_init_23 : decode bTypes_init 23 = .ok (.newarray .int, 2) := by decide +kernel
theorem dTypes_init_25 : decode bTypes_init 25 = .ok (.putfield 18, 3) := by decide +kernel
theorem dTypes_init_28 : decode bTypes_init 28 = .ok (.aload_n 0, 1) := by decide +kernel
theorem dTypes_init_29 : decode bTypes_init 29 = .ok (.bipush 16, 2) := by decide +kernel
theorem dTypes_init_31 : decode bTypes_init 31 = .ok (.newarray .int, 2) := by decide +kernel
theorem dTypes_init_33 : decode bTypes_init 33 = .ok (.putfield 21, 3) := by decide +kernel
theorem dTypes_init_36 : decode bTypes_init 36 = .ok (.aload_n 0, 1) := by decide +kernel
theorem dTypes_init_37 : decode bTypes_init 37 = .ok (.iconst 0, 1) := by decide +kernel
theorem dTypes_init_38 : decode bTypes_init 38 = .ok (.putfield 24, 3) := by decide +kernel
theorem dTypes_init_41 : decode bTypes_init 41 = .ok (.aload_n 0, 1) := by decide +kernel
theorem dTypes_init_42 : decode bTypes_init 42 = .ok (.iconst 0, 1) := by decide +kernel
theorem dTypes_init_43 : decode bTypes_init 43 = .ok (.iconst 0, 1) := by decide +kernel
theorem dTypes_init_44 : decode bTypes_init 44 = .ok (.iconst 0, 1) := by decide +kernel
theorem dTypes_init_45 : decode bTypes_init 45 = .ok (.iconst 0, 1) := by decide +kernel
theorem dTypes_init_46 : decode bTypes_init 46 = .ok (.invokevirtual 28, 3) := by decide +kernel
theorem dTypes_init_49 : decode bTypes_init 49 = .ok (.pop, 1) := by decide +kernel
theorem dTypes_init_50 : decode bTypes_init 50 = .ok (.aload_n 0, 1) := by decide +kernel
theorem dTypes_init_51 : decode bTypes_init 51 = .ok (.iconst 1, 1) := by decide +kernel
theorem dTypes_init_52 : decode bTypes_init 52 = .ok (.iconst 0, 1) := by decide +kernel
theorem dTypes_init_53 : decode bTypes_init 53 = .ok (.iconst 0, 1) := by decide +kernel
theorem dTypes_init_54 : decode bTypes_init 54 = .ok (.iconst 0, 1) := by decide +kernel
theorem dTypes_init_55 : decode bTypes_init 55 = .ok (.invokevirtual 28, 3) := by decide +kernel
theorem dTypes_init_58 : decode bTypes_init 58 = .ok (.pop, 1) := by decide +kernel
theorem dTypes_init_59 : decode bTypes_init 59 = .ok (.aload_n 0, 1) := by decide +kernel
theorem dTypes_init_60 : decode bTypes_init 60 = .ok (.iconst 2, 1) := by decide +kernel
theorem dTypes_init_61 : decode bTypes_init 61 = .ok (.ldc 32, 2) := by decide +kernel
theorem dTypes_init_63 : decode bTypes_init 63 = .ok (.ldc 33, 2) := by decide +kernel
theorem dTypes_init_65 : decode bTypes_init 65 = .ok (.iconst 0, 1) := by decide +kernel
theorem dTypes_init_66 : decode bTypes_init 66 = .ok (.invokevirtual 28, 3) := by decide +kernel
theorem dTypes_init_69 : decode bTypes_init 69 = .ok (.pop, 1) := by decide +kernel
theorem dTypes_init_70 : decode bTypes_init 70 = .ok (.aload_n 0, 1) := by decide +kernel
theorem dTypes_init_71 : decode bTypes_init 71 = .ok (.iconst 2, 1) := by decide +kernel
theorem dTypes_init_72 : decode bTypes_init 72 = .ok (.iconst 0, 1) := by decide +kernel
theorem dTypes_init_73 : decode bTypes_init 73 = .ok (.ldc 33, 2) := by decide +kernel
theorem dTypes_init_75 : decode bTypes_init 75 = .ok (.iconst 0, 1) := by decide +kernel
theorem dTypes_init_76 : decode bTypes_init 76 = .ok (.invokevirtual 28, 3) := by decide +kernel
theorem dTypes_init_79 : decode bTypes_init 79 = .ok (.pop, 1) := by decide +kernel
theorem dTypes_init_80 : decode bTypes_init 80 = .ok (.aload_n 0, 1) := by decide +kernel
theorem dTypes_init_81 : decode bTypes_init 81 = .ok (.iconst 2, 1) := by decide +kernel
theorem dTypes_init_82 : decode bTypes_init 82 = .ok (.iconst 1, 1) := by decide +kernel
theorem dTypes_init_83 : decode bTypes_init 83 = .ok (.ldc 33, 2) := by decide +kernel
theorem dTypes_init_85 : decode bTypes_init 85 = .ok (.iconst 0, 1) := by decide +kernel
theorem dTypes_init_86 : decode bTypes_init 86 = .ok (.invokevirtual 28, 3) := by decide +kernel
theorem dTypes_init_89 : decode bTypes_init 89 = .ok (.pop, 1) := by decide +kernel
theorem dTypes_init_90 : decode bTypes_init 90 = .ok (.return_, 1) := by decide +kernel
theorem dTypes_has_0 : decode bTypes_has 0 = .ok (.iload_n 1, 1) := by decide +kernel
theorem dTypes_has_1 : decode bTypes_has 1 = .ok (.ifCond .lt 15, 3) := by decide +kernel
theorem dTypes_has_4 : decode bTypes_has 4 = .ok (.iload_n 1, 1) := by decide +kernel
theorem dTypes_has_5 : decode bTypes_has 5 = .ok (.aload_n 0, 1) := by decide +kernel
theorem dTypes_has_6 : decode bTypes_has 6 = .ok (.getfield 24, 3) := by decide +kernel
theorem dTypes_has_9 : decode bTypes_has 9 = .ok (.if_icmp .ge 7, 3) := by decide +kernel
theorem dTypes_has_12 : decode bTypes_has 12 = .ok (.iconst 1, 1) := by decide +kernel
theorem dTypes_has_13 : decode bTypes_has 13 = .ok (.goto 4, 3) := by decide +kernel
theorem dTypes_has_16 : decode bTypes_has 16 = .ok (.iconst 0, 1) := by decide +kernel
theorem dTypes_has_17 : decode bTypes_has 17 = .ok (.ireturn, 1) := by decide +kernel
theorem dTypes_classOf_0 : decode bTypes_classOf 0 = .ok (.aload_n 0, 1) := by decide +kernel
theorem dTypes_classOf_1 : decode bTypes_classOf 1 = .ok (.iload_n 1, 1) := by decide +kernel
theorem dTypes_classOf_2 : decode bTypes_classOf 2 = .ok (.invokevirtual 34, 3) := by decide +kernel
theorem dTypes_classOf_5 : decode bTypes_classOf 5 = .ok (.ifCond .eq 12, 3) := by decide +kernel
theorem dTypes_classOf_8 : decode bTypes_classOf 8 = .ok (.aload_n 0, 1) := by decide +kernel
theorem dTypes_classOf_9 : decode bTypes_classOf 9 = .ok (.getfield 9, 3) := by decide +kernel
theorem dTypes_classOf_12 : decode bTypes_classOf 12 = .ok (.iload_n 1, 1) := by decide +kernel
theorem dTypes_classOf_13 : decode bTypes_classOf 13 = .ok (.iaload, 1) := by decide +kernel
theorem dTypes_classOf_14 : decode bTypes_classOf 14 = .ok (.goto 4, 3) := by decide +kernel
theorem dTypes_classOf_17 : decode bTypes_classOf 17 = .ok (.iconst (-1), 1) := by decide +kernel
theorem dTypes_classOf_18 : decode bTypes_classOf 18 = .ok (.ireturn, 1) := by decide +kernel
theorem dTypes_leftOf_0 : decode bTypes_leftOf 0 = .ok (.aload_n 0, 1) := by decide +kernel
theorem dTypes_leftOf_1 : decode bTypes_leftOf 1 = .ok (.iload_n 1, 1) := by decide +kernel
theorem dTypes_leftOf_2 : decode bTypes_leftOf 2 = .ok (.invokevirtual 34, 3) := by decide +kernel
theorem dTypes_leftOf_5 : decode bTypes_leftOf 5 = .ok (.ifCond .eq 12, 3) := by decide +kernel
theorem dTypes_leftOf_8 : decode bTypes_leftOf 8 = .ok (.aload_n 0, 1) := by decide +kernel
theorem dTypes_leftOf_9 : decode bTypes_leftOf 9 = .ok (.getfield 15, 3) := by decide +kernel
theorem dTypes_leftOf_12 : decode bTypes_leftOf 12 = .ok (.iload_n 1, 1) := by decide +kernel
theorem dTypes_leftOf_13 : decode bTypes_leftOf 13 = .ok (.iaload, 1) := by decide +kernel
theorem dTypes_leftOf_14 : decode bTypes_leftOf 14 = .ok (.goto 4, 3) := by decide +kernel
theorem dTypes_leftOf_17 : decode bTypes_leftOf 17 = .ok (.iconst 0, 1) := by decide +kernel
theorem dTypes_leftOf_18 : decode bTypes_leftOf 18 = .ok (.ireturn, 1) := by decide +kernel
theorem dTypes_rightOf_0 : decode bTypes_rightOf 0 = .ok (.aload_n 0, 1) := by decide +kernel
theorem dTypes_rightOf_1 : decode bTypes_rightOf 1 = .ok (.iload_n 1, 1) := by decide +kernel
theorem dTypes_rightOf_2 : decode bTypes_rightOf 2 = .ok (.invokevirtual 34, 3) := by decide +kernel
theorem dTypes_rightOf_5 : decode bTypes_rightOf 5 = .ok (.ifCond .eq 12, 3) := by decide +kernel
theorem dTypes_rightOf_8 : decode bTypes_rightOf 8 = .ok (.aload_n 0, 1) := by decide +kernel
theorem dTypes_rightOf_9 : decode bTypes_rightOf 9 = .ok (.getfield 18, 3) := by decide +kernel
theorem dTypes_rightOf_12 : decode bTypes_rightOf 12 = .ok (.iload_n 1, 1) := by decide +kernel
theorem dTypes_rightOf_13 : decode bTypes_rightOf 13 = .ok (.iaload, 1) := by decide +kernel
theorem dTypes_rightOf_14 : decode bTypes_rightOf 14 = .ok (.goto 4, 3) := by decide +kernel
theorem dTypes_rightOf_17 : decode bTypes_rightOf 17 = .ok (.iconst 0, 1) := by decide +kernel
theorem dTypes_rightOf_18 : decode bTypes_rightOf 18 = .ok (.ireturn, 1) := by decide +kernel
theorem dTypes_countOf_0 : decode bTypes_countOf 0 = .ok (.aload_n 0, 1) := by decide +kernel
theorem dTypes_countOf_1 : decode bTypes_countOf 1 = .ok (.iload_n 1, 1) := by decide +kernel
theorem dTypes_countOf_2 : decode bTypes_countOf 2 = .ok (.invokevirtual 34, 3) := by decide +kernel
theorem dTypes_countOf_5 : decode bTypes_countOf 5 = .ok (.ifCond .eq 15, 3) := by decide +kernel
theorem dTypes_countOf_8 : decode bTypes_countOf 8 = .ok (.aload_n 0, 1) := by decide +kernel
theorem dTypes_countOf_9 : decode bTypes_countOf 9 = .ok (.getfield 21, 3) := by decide +kernel
theorem dTypes_countOf_12 : decode bTypes_countOf 12 = .ok (.iload_n 1, 1) := by decide +kernel
theorem dTypes_countOf_13 : decode bTypes_countOf 13 = .ok (.iaload, 1) := by decide +kernel
theorem dTypes_countOf_14 : decode bTypes_countOf 14 = .ok (.invokestatic 38, 3) := by decide +kernel
theorem dTypes_countOf_17 : decode bTypes_countOf 17 = .ok (.goto 4, 3) := by decide +kernel
theorem dTypes_countOf_20 : decode bTypes_countOf 20 = .ok (.iconst 0, 1) := by decide +kernel
theorem dTypes_countOf_21 : decode bTypes_countOf 21 = .ok (.ireturn, 1) := by decide +kernel
theorem dTypes_goesDown_0 : decode bTypes_goesDown 0 = .ok (.aload_n 0, 1) := by decide +kernel
theorem dTypes_goesDown_1 : decode bTypes_goesDown 1 = .ok (.iload_n 1, 1) := by decide +kernel
theorem dTypes_goesDown_2 : decode bTypes_goesDown 2 = .ok (.invokevirtual 34, 3) := by decide +kernel
theorem dTypes_goesDown_5 : decode bTypes_goesDown 5 = .ok (.ifCond .eq 16, 3) := by decide +kernel
theorem dTypes_goesDown_8 : decode bTypes_goesDown 8 = .ok (.aload_n 0, 1) := by decide +kernel
theorem dTypes_goesDown_9 : decode bTypes_goesDown 9 = .ok (.getfield 21, 3) := by decide +kernel
theorem dTypes_goesDown_12 : decode bTypes_goesDown 12 = .ok (.iload_n 1, 1) := by decide +kernel
theorem dTypes_goesDown_13 : decode bTypes_goesDown 13 = .ok (.iaload, 1) := by decide +kernel
theorem dTypes_goesDown_14 : decode bTypes_goesDown 14 = .ok (.ifCond .ge 7, 3) := by decide +kernel
theorem dTypes_goesDown_17 : decode bTypes_goesDown 17 = .ok (.iconst 1, 1) := by decide +kernel
theorem dTypes_goesDown_18 : decode bTypes_goesDown 18 = .ok (.goto 4, 3) := by decide +kernel
theorem dTypes_goesDown_21 : decode bTypes_goesDown 21 = .ok (.iconst 0, 1) := by decide +kernel
theorem dTypes_goesDown_22 : decode bTypes_goesDown 22 = .ok (.ireturn, 1) := by decide +kernel
theorem dTypes_extentOf_0 : decode bTypes_extentOf 0 = .ok (.aload_n 0, 1) := by decide +kernel
theorem dTypes_extentOf_1 : decode bTypes_extentOf 1 = .ok (.iload_n 1, 1) := by decide +kernel
theorem dTypes_extentOf_2 : decode bTypes_extentOf 2 = .ok (.invokevirtual 44, 3) := by decide +kernel
theorem dTypes_extentOf_5 : decode bTypes_extentOf 5 = .ok (.istore_n 2, 1) := by decide +kernel
theorem dTypes_extentOf_6 : decode bTypes_extentOf 6 = .ok (.iload_n 2, 1) := by decide +kernel
theorem dTypes_extentOf_7 : decode bTypes_extentOf 7 = .ok (.iconst 3, 1) := by decide +kernel
theorem dTypes_extentOf_8 : decode bTypes_extentOf 8 = .ok (.if_icmp .ne 11, 3) := by decide +kernel
theorem dTypes_extentOf_11 : decode bTypes_extentOf 11 = .ok (.aload_n 0, 1) := by decide +kernel
theorem dTypes_extentOf_12 : decode bTypes_extentOf 12 = .ok (.iload_n 1, 1) := by decide +kernel
theorem dTypes_extentOf_13 : decode bTypes_extentOf 13 = .ok (.invokevirtual 47, 3) := by decide +kernel
theorem dTypes_extentOf_16 : decode bTypes_extentOf 16 = .ok (.goto 13, 3) := by decide +kernel
theorem dTypes_extentOf_19 : decode bTypes_extentOf 19 = .ok (.iload_n 2, 1) := by decide +kernel
theorem dTypes_extentOf_20 : decode bTypes_extentOf 20 = .ok (.iconst 4, 1) := by decide +kernel
theorem dTypes_extentOf_21 : decode bTypes_extentOf 21 = .ok (.if_icmp .ne 7, 3) := by decide +kernel
theorem dTypes_extentOf_24 : decode bTypes_extentOf 24 = .ok (.iload_n 1, 1) := by decide +kernel
theorem dTypes_extentOf_25 : decode bTypes_extentOf 25 = .ok (.goto 4, 3) := by decide +kernel
theorem dTypes_extentOf_28 : decode bTypes_extentOf 28 = .ok (.iconst 0, 1) := by decide +kernel
theorem dTypes_extentOf_29 : decode bTypes_extentOf 29 = .ok (.ireturn, 1) := by decide +kernel
theorem dTypes_fromRight_0 : decode bTypes_fromRight 0 = .ok (.aload_n 0, 1) := by decide +kernel
theorem dTypes_fromRight_1 : decode bTypes_fromRight 1 = .ok (.iload_n 1, 1) := by decide +kernel
theorem dTypes_fromRight_2 : decode bTypes_fromRight 2 = .ok (.invokevirtual 50, 3) := by decide +kernel
theorem dTypes_fromRight_5 : decode bTypes_fromRight 5 = .ok (.ifCond .eq 15, 3) := by decide +kernel
theorem dTypes_fromRight_8 : decode bTypes_fromRight 8 = .ok (.iload_n 2, 1) := by decide +kernel
theorem dTypes_fromRight_9 : decode bTypes_fromRight 9 = .ok (.i2l, 1) := by decide +kernel
theorem dTypes_fromRight_10 : decode bTypes_fromRight 10 = .ok (.aload_n 0, 1) := by decide +kernel
theorem dTypes_fromRight_11 : decode bTypes_fromRight 11 = .ok (.iload_n 1, 1) := by decide +kernel
theorem dTypes_fromRight_12 : decode bTypes_fromRight 12 = .ok (.invokevirtual 53, 3) := by decide +kernel
theorem dTypes_fromRight_15 : decode bTypes_fromRight 15 = .ok (.i2l, 1) := by decide +kernel
theorem dTypes_fromRight_16 : decode bTypes_fromRight 16 = .ok (.lsub, 1) := by decide +kernel
theorem dTypes_fromRight_17 : decode bTypes_fromRight 17 = .ok (.goto 12, 3) := by decide +kernel
theorem dTypes_fromRight_20 : decode bTypes_fromRight 20 = .ok (.aload_n 0, 1) := by decide +kernel
theorem dTypes_fromRight_21 : decode bTypes_fromRight 21 = .ok (.iload_n 1, 1) := by decide +kernel
theorem dTypes_fromRight_22 : decode bTypes_fromRight 22 = .ok (.invokevirtual 53, 3) := by decide +kernel
theorem dTypes_fromRight_25 : decode bTypes_fromRight 25 = .ok (.i2l, 1) := by decide +kernel
theorem dTypes_fromRight_26 : decode bTypes_fromRight 26 = .ok (.iload_n 2, 1) := by decide +kernel
theorem dTypes_fromRight_27 : decode bTypes_fromRight 27 = .ok (.i2l, 1) := by decide +kernel
theorem dTypes_fromRight_28 : decode bTypes_fromRight 28 = .ok (.lsub, 1) := by decide +kernel
theorem dTypes_fromRight_29 : decode bTypes_fromRight 29 = .ok (.lstore_n 3, 1) := by decide +kernel
theorem dTypes_fromRight_30 : decode bTypes_fromRight 30 = .ok (.lload_n 3, 1) := by decide +kernel
theorem dTypes_fromRight_31 : decode bTypes_fromRight 31 = .ok (.lconst 0, 1) := by decide +kernel
theorem dTypes_fromRight_32 : decode bTypes_fromRight 32 = .ok (.lcmp, 1) := by decide +kernel
theorem dTypes_fromRight_33 : decode bTypes_fromRight 33 = .ok (.ifCond .lt 19, 3) := by decide +kernel
theorem dTypes_fromRight_36 : decode bTypes_fromRight 36 = .ok (.lload_n 3, 1) := by decide +kernel
theorem dTypes_fromRight_37 : decode bTypes_fromRight 37 = .ok (.aload_n 0, 1) := by decide +kernel
theorem dTypes_fromRight_38 : decode bTypes_fromRight 38 = .ok (.iload_n 1, 1) := by decide +kernel
theorem dTypes_fromRight_39 : decode bTypes_fromRight 39 = .ok (.invokevirtual 47, 3) := by decide +kernel
theorem dTypes_fromRight_42 : decode bTypes_fromRight 42 = .ok (.i2l, 1) := by decide +kernel
theorem dTypes_fromRight_43 : decode bTypes_fromRight 43 = .ok (.lcmp, 1) := by decide +kernel
theorem dTypes_fromRight_44 : decode bTypes_fromRight 44 = .ok (.ifCond .ge 8, 3) := by decide +kernel
theorem dTypes_fromRight_47 : decode bTypes_fromRight 47 = .ok (.lload_n 3, 1) := by decide +kernel
theorem dTypes_fromRight_48 : decode bTypes_fromRight 48 = .ok (.l2i, 1) := by decide +kernel
theorem dTypes_fromRight_49 : decode bTypes_fromRight 49 = .ok (.goto 4, 3) := by decide +kernel
theorem dTypes_fromRight_52 : decode bTypes_fromRight 52 = .ok (.iconst (-1), 1) := by decide +kernel
theorem dTypes_fromRight_53 : decode bTypes_fromRight 53 = .ok (.ireturn, 1) := by decide +kernel
theorem dTypes_put_0 : decode bTypes_put 0 = .ok (.aload_n 0, 1) := by decide +kernel
theorem dTypes_put_1 : decode bTypes_put 1 = .ok (.aload_n 0, 1) := by decide +kernel
theorem dTypes_put_2 : decode bTypes_put 2 = .ok (.getfield 9, 3) := by decide +kernel
theorem dTypes_put_5 : decode bTypes_put 5 = .ok (.aload_n 0, 1) := by decide +kernel
theorem dTypes_put_6 : decode bTypes_put 6 = .ok (.getfield 24, 3) := by decide +kernel
theorem dTypes_put_9 : decode bTypes_put 9 = .ok (.iconst 1, 1) := by decide +kernel
theorem dTypes_put_10 : decode bTypes_put 10 = .ok (.iadd, 1) := by decide +kernel
theorem dTypes_put_11 : decode bTypes_put 11 = .ok (.invokestatic 56, 3) := by decide +kernel
theorem dTypes_put_14 : decode bTypes_put 14 = .ok (.putfield 9, 3) := by decide +kernel
theorem dTypes_put_17 : decode bTypes_put 17 = .ok (.aload_n 0, 1) := by decide +kernel
theorem dTypes_put_18 : decode bTypes_put 18 = .ok (.aload_n 0, 1) := by decide +kernel
theorem dTypes_put_19 : decode bTypes_put 19 = .ok (.getfield 15, 3) := by decide +kernel
theorem dTypes_put_22 : decode bTypes_put 22 = .ok (.aload_n 0, 1) := by decide +kernel
theorem dTypes_put_23 : decode bTypes_put 23 = .ok (.getfield 24, 3) := by decide +kernel
theorem dTypes_put_26 : decode bTypes_put 26 = .ok (.iconst 1, 1) := by decide +kernel
theorem dTypes_put_27 : decode bTypes_put 27 = .ok (.iadd, 1) := by decide +kernel
theorem dTypes_put_28 : decode bTypes_put 28 = .ok (.invokestatic 56, 3) := by decide +kernel
theorem dTypes_put_31 : decode bTypes_put 31 = .ok (.putfield 15, 3) := by decide +kernel
theorem dTypes_put_34 : decode bTypes_put 34 = .ok (.aload_n 0, 1) := by decide +kernel
theorem dTypes_put_35 : decode bTypes_put 35 = .ok (.aload_n 0, 1) := by decide +kernel
theorem dTypes_put_36 : decode bTypes_put 36 = .ok (.getfield 18, 3) := by decide +kernel
theorem dTypes_put_39 : decode bTypes_put 39 = .ok (.aload_n 0, 1) := by decide +kernel
theorem dTypes_put_40 : decode bTypes_put 40 = .ok (.getfield 24, 3) := by decide +kernel
theorem dTypes_put_43 : decode bTypes_put 43 = .ok (.iconst 1, 1) := by decide +kernel
theorem dTypes_put_44 : decode bTypes_put 44 = .ok (.iadd, 1) := by decide +kernel
theorem dTypes_put_45 : decode bTypes_put 45 = .ok (.invokestatic 56, 3) := by decide +kernel
theorem dTypes_put_48 : decode bTypes_put 48 = .ok (.putfield 18, 3) := by decide +kernel
theorem dTypes_put_51 : decode bTypes_put 51 = .ok (.aload_n 0, 1) := by decide +kernel
theorem dTypes_put_52 : decode bTypes_put 52 = .ok (.aload_n 0, 1) := by decide +kernel
theorem dTypes_put_53 : decode bTypes_put 53 = .ok (.getfield 21, 3) := by decide +kernel
theorem dTypes_put_56 : decode bTypes_put 56 = .ok (.aload_n 0, 1) := by decide +kernel
theorem dTypes_put_57 : decode bTypes_put 57 = .ok (.getfield 24, 3) := by decide +kernel
theorem dTypes_put_60 : decode bTypes_put 60 = .ok (.iconst 1, 1) := by decide +kernel
theorem dTypes_put_61 : decode bTypes_put 61 = .ok (.iadd, 1) := by decide +kernel
theorem dTypes_put_62 : decode bTypes_put 62 = .ok (.invokestatic 56, 3) := by decide +kernel
theorem dTypes_put_65 : decode bTypes_put 65 = .ok (.putfield 21, 3) := by decide +kernel
theorem dTypes_put_68 : decode bTypes_put 68 = .ok (.aload_n 0, 1) := by decide +kernel
theorem dTypes_put_69 : decode bTypes_put 69 = .ok (.getfield 9, 3) := by decide +kernel
theorem dTypes_put_72 : decode bTypes_put 72 = .ok (.aload_n 0, 1) := by decide +kernel
theorem dTypes_put_73 : decode bTypes_put 73 = .ok (.getfield 24, 3) := by decide +kernel
theorem dTypes_put_76 : decode bTypes_put 76 = .ok (.iload_n 1, 1) := by decide +kernel
theorem dTypes_put_77 : decode bTypes_put 77 = .ok (.iastore, 1) := by decide +kernel
theorem dTypes_put_78 : decode bTypes_put 78 = .ok (.aload_n 0, 1) := by decide +kernel
theorem dTypes_put_79 : decode bTypes_put 79 = .ok (.getfield 15, 3) := by decide +kernel
theorem dTypes_put_82 : decode bTypes_put 82 = .ok (.aload_n 0, 1) := by decide +kernel
theorem dTypes_put_83 : decode bTypes_put 83 = .ok (.getfield 24, 3) := by decide +kernel
theorem dTypes_put_86 : decode bTypes_put 86 = .ok (.iload_n 2, 1) := by decide +kernel
theorem dTypes_put_87 : decode bTypes_put 87 = .ok (.iastore, 1) := by decide +kernel
theorem dTypes_put_88 : decode bTypes_put 88 = .ok (.aload_n 0, 1) := by decide +kernel
theorem dTypes_put_89 : decode bTypes_put 89 = .ok (.getfield 18, 3) := by decide +kernel
theorem dTypes_put_92 : decode bTypes_put 92 = .ok (.aload_n 0, 1) := by decide +kernel
theorem dTypes_put_93 : decode bTypes_put 93 = .ok (.getfield 24, 3) := by decide +kernel
theorem dTypes_put_96 : decode bTypes_put 96 = .ok (.iload_n 3, 1) := by decide +kernel
theorem dTypes_put_97 : decode bTypes_put 97 = .ok (.iastore, 1) := by decide +kernel
theorem dTypes_put_98 : decode bTypes_put 98 = .ok (.aload_n 0, 1) := by decide +kernel
theorem dTypes_put_99 : decode bTypes_put 99 = .ok (.getfield 21, 3) := by decide +kernel
theorem dTypes_put_102 : decode bTypes_put 102 = .ok (.aload_n 0, 1) := by decide +kernel
theorem dTypes_put_103 : decode bTypes_put 103 = .ok (.getfield 24, 3) := by decide +kernel
theorem dTypes_put_106 : decode bTypes_put 106 = .ok (.iload 4, 2) := by decide +kernel
theorem dTypes_put_108 : decode bTypes_put 108 = .ok (.iastore, 1) := by decide +kernel
theorem dTypes_put_109 : decode bTypes_put 109 = .ok (.aload_n 0, 1) := by decide +kernel
theorem dTypes_put_110 : decode bTypes_put 110 = .ok (.dup, 1) := by decide +kernel
theorem dTypes_put_111 : decode bTypes_put 111 = .ok (.getfield 24, 3) := by decide +kernel
theorem dTypes_put_114 : decode bTypes_put 114 = .ok (.iconst 1, 1) := by decide +kernel
theorem dTypes_put_115 : decode bTypes_put 115 = .ok (.iadd, 1) := by decide +kernel
theorem dTypes_put_116 : decode bTypes_put 116 = .ok (.putfield 24, 3) := by decide +kernel
theorem dTypes_put_119 : decode bTypes_put 119 = .ok (.aload_n 0, 1) := by decide +kernel
theorem dTypes_put_120 : decode bTypes_put 120 = .ok (.getfield 24, 3) := by decide +kernel
theorem dTypes_put_123 : decode bTypes_put 123 = .ok (.iconst 1, 1) := by decide +kernel
theorem dTypes_put_124 : decode bTypes_put 124 = .ok (.isub, 1) := by decide +kernel
theorem dTypes_put_125 : decode bTypes_put 125 = .ok (.ireturn, 1) := by decide +kernel
theorem dObjects_init_0 : decode bObjects_init 0 = .ok (.aload_n 0, 1) := by decide +kernel
theorem dObjects_init_1 : decode bObjects_init 1 = .ok (.invokespecial 3, 3) := by decide +kernel
theorem dObjects_init_4 : decode bObjects_init 4 = .ok (.aload_n 0, 1) := by decide +kernel
theorem dObjects_init_5 : decode bObjects_init 5 = .ok (.bipush 16, 2) := by decide +kernel
theorem dObjects_init_7 : decode bObjects_init 7 = .ok (.newarray .int, 2) := by decide +kernel
theorem dObjects_init_9 : decode bObjects_init 9 = .ok (.putfield 9, 3) := by decide +kernel
theorem dObjects_init_12 : decode bObjects_init 12 = .ok (.aload_n 0, 1) := by decide +kernel
theorem dObjects_init_13 : decode bObjects_init 13 = .ok (.bipush 16, 2) := by decide +kernel
theorem dObjects_init_15 : decode bObjects_init 15 = .ok (.newarray .int, 2) := by decide +kernel
theorem dObjects_init_17 : decode bObjects_init 17 = .ok (.putfield 15, 3) := by decide +kernel
theorem dObjects_init_20 : decode bObjects_init 20 = .ok (.aload_n 0, 1) := by decide +kernel
theorem dObjects_init_21 : decode bObjects_init 21 = .ok (.bipush 16, 2) := by decide +kernel
theorem dObjects_init_23 : decode bObjects_init 23 = .ok (.newarray .int, 2) := by decide +kernel
theorem dObjects_init_25 : decode bObjects_init 25 = .ok (.putfield 18, 3) := by decide +kernel
theorem dObjects_init_28 : decode bObjects_init 28 = .ok (.aload_n 0, 1) := by decide +kernel
theorem dObjects_init_29 : decode bObjects_init 29 = .ok (.new 21, 3) := by decide +kernel
theorem dObjects_init_32 : decode bObjects_init 32 = .ok (.dup, 1) := by decide +kernel
theorem dObjects_init_33 : decode bObjects_init 33 = .ok (.bipush 16, 2) := by decide +kernel
theorem dObjects_init_35 : decode bObjects_init 35 = .ok (.invokespecial 23, 3) := by decide +kernel
theorem dObjects_init_38 : decode bObjects_init 38 = .ok (.putfield 26, 3) := by decide +kernel
theorem dObjects_init_41 : decode bObjects_init 41 = .ok (.aload_n 0, 1) := by decide +kernel
theorem dObjects_init_42 : decode bObjects_init 42 = .ok (.iconst 0, 1) := by decide +kernel
theorem dObjects_init_43 : decode bObjects_init 43 = .ok (.putfield 30, 3) := by decide +kernel
theorem dObjects_init_46 : decode bObjects_init 46 = .ok (.return_, 1) := by decide +kernel
theorem dObjects_has_0 : decode bObjects_has 0 = .ok (.iload_n 1, 1) := by decide +kernel
theorem dObjects_has_1 : decode bObjects_has 1 = .ok (.ifCond .lt 15, 3) := by decide +kernel
theorem dObjects_has_4 : decode bObjects_has 4 = .ok (.iload_n 1, 1) := by decide +kernel
theorem dObjects_has_5 : decode bObjects_has 5 = .ok (.aload_n 0, 1) := by decide +kernel
theorem dObjects_has_6 : decode bObjects_has 6 = .ok (.getfield 30, 3) := by decide +kernel
theorem dObjects_has_9 : decode bObjects_has 9 = .ok (.if_icmp .ge 7, 3) := by decide +kernel
theorem dObjects_has_12 : decode bObjects_has 12 = .ok (.iconst 1, 1) := by decide +kernel
theorem dObjects_has_13 : decode bObjects_has 13 = .ok (.goto 4, 3) := by decide +kernel
theorem dObjects_has_16 : decode bObjects_has 16 = .ok (.iconst 0, 1) := by decide +kernel
theorem dObjects_has_17 : decode bObjects_has 17 = .ok (.ireturn, 1) := by decide +kernel
theorem dObjects_whatOf_0 : decode bObjects_whatOf 0 = .ok (.aload_n 0, 1) := by decide +kernel
theorem dObjects_whatOf_1 : decode bObjects_whatOf 1 = .ok (.iload_n 1, 1) := by decide +kernel
theorem dObjects_whatOf_2 : decode bObjects_whatOf 2 = .ok (.invokevirtual 34, 3) := by decide +kernel
theorem dObjects_whatOf_5 : decode bObjects_whatOf 5 = .ok (.ifCond .eq 12, 3) := by decide +kernel
theorem dObjects_whatOf_8 : decode bObjects_whatOf 8 = .ok (.aload_n 0, 1) := by decide +kernel
theorem dObjects_whatOf_9 : decode bObjects_whatOf 9 = .ok (.getfield 9, 3) := by decide +kernel
theorem dObjects_whatOf_12 : decode bObjects_whatOf 12 = .ok (.iload_n 1, 1) := by decide +kernel
theorem dObjects_whatOf_13 : decode bObjects_whatOf 13 = .ok (.iaload, 1) := by decide +kernel
theorem dObjects_whatOf_14 : decode bObjects_whatOf 14 = .ok (.goto 4, 3) := by decide +kernel
theorem dObjects_whatOf_17 : decode bObjects_whatOf 17 = .ok (.iconst (-1), 1) := by decide +kernel
theorem dObjects_whatOf_18 : decode bObjects_whatOf 18 = .ok (.ireturn, 1) := by decide +kernel
theorem dObjects_typeOfObject_0 : decode bObjects_typeOfObject 0 = .ok (.aload_n 0, 1) := by decide +kernel
theorem dObjects_typeOfObject_1 : decode bObjects_typeOfObject 1 = .ok (.iload_n 1, 1) := by decide +kernel
theorem dObjects_typeOfObject_2 : decode bObjects_typeOfObject 2 = .ok (.invokevirtual 34, 3) := by decide +kernel
theorem dObjects_typeOfObject_5 : decode bObjects_typeOfObject 5 = .ok (.ifCond .eq 12, 3) := by decide +kernel
theorem dObjects_typeOfObject_8 : decode bObjects_typeOfObject 8 = .ok (.aload_n 0, 1) := by decide +kernel
theorem dObjects_typeOfObject_9 : decode bObjects_typeOfObject 9 = .ok (.getfield 15, 3) := by decide +kernel
theorem dObjects_typeOfObject_12 : decode bObjects_typeOfObject 12 = .ok (.iload_n 1, 1) := by decide +kernel
theorem dObjects_typeOfObject_13 : decode bObjects_typeOfObject 13 = .ok (.iaload, 1) := by decide +kernel
theorem dObjects_typeOfObject_14 : decode bObjects_typeOfObject 14 = .ok (.goto 4, 3) := by decide +kernel
theorem dObjects_typeOfObject_17 : decode bObjects_typeOfObject 17 = .ok (.iconst (-1), 1) := by decide +kernel
theorem dObjects_typeOfObject_18 : decode bObjects_typeOfObject 18 = .ok (.ireturn, 1) := by decide +kernel
theorem dObjects_numberOf_0 : decode bObjects_numberOf 0 = .ok (.aload_n 0, 1) := by decide +kernel
theorem dObjects_numberOf_1 : decode bObjects_numberOf 1 = .ok (.iload_n 1, 1) := by decide +kernel
theorem dObjects_numberOf_2 : decode bObjects_numberOf 2 = .ok (.invokevirtual 34, 3) := by decide +kernel
theorem dObjects_numberOf_5 : decode bObjects_numberOf 5 = .ok (.ifCond .eq 12, 3) := by decide +kernel
theorem dObjects_numberOf_8 : decode bObjects_numberOf 8 = .ok (.aload_n 0, 1) := by decide +kernel
theorem dObjects_numberOf_9 : decode bObjects_numberOf 9 = .ok (.getfield 18, 3) := by decide +kernel
theorem dObjects_numberOf_12 : decode bObjects_numberOf 12 = .ok (.iload_n 1, 1) := by decide +kernel
theorem dObjects_numberOf_13 : decode bObjects_numberOf 13 = .ok (.iaload, 1) := by decide +kernel
theorem dObjects_numberOf_14 : decode bObjects_numberOf 14 = .ok (.goto 4, 3) := by decide +kernel
theorem dObjects_numberOf_17 : decode bObjects_numberOf 17 = .ok (.iconst 0, 1) := by decide +kernel
theorem dObjects_numberOf_18 : decode bObjects_numberOf 18 = .ok (.ireturn, 1) := by decide +kernel
theorem dObjects_put_0 : decode bObjects_put 0 = .ok (.aload_n 0, 1) := by decide +kernel
theorem dObjects_put_1 : decode bObjects_put 1 = .ok (.aload_n 0, 1) := by decide +kernel
theorem dObjects_put_2 : decode bObjects_put 2 = .ok (.getfield 9, 3) := by decide +kernel
theorem dObjects_put_5 : decode bObjects_put 5 = .ok (.aload_n 0, 1) := by decide +kernel
theorem dObjects_put_6 : decode bObjects_put 6 = .ok (.getfield 30, 3) := by decide +kernel
theorem dObjects_put_9 : decode bObjects_put 9 = .ok (.iconst 1, 1) := by decide +kernel
theorem dObjects_put_10 : decode bObjects_put 10 = .ok (.iadd, 1) := by decide +kernel
theorem dObjects_put_11 : decode bObjects_put 11 = .ok (.invokestatic 38, 3) := by decide +kernel
theorem dObjects_put_14 : decode bObjects_put 14 = .ok (.putfield 9, 3) := by decide +kernel
theorem dObjects_put_17 : decode bObjects_put 17 = .ok (.aload_n 0, 1) := by decide +kernel
theorem dObjects_put_18 : decode bObjects_put 18 = .ok (.aload_n 0, 1) := by decide +kernel
theorem dObjects_put_19 : decode bObjects_put 19 = .ok (.getfield 15, 3) := by decide +kernel
theorem dObjects_put_22 : decode bObjects_put 22 = .ok (.aload_n 0, 1) := by decide +kernel
theorem dObjects_put_23 : decode bObjects_put 23 = .ok (.getfield 30, 3) := by decide +kernel
theorem dObjects_put_26 : decode bObjects_put 26 = .ok (.iconst 1, 1) := by decide +kernel
theorem dObjects_put_27 : decode bObjects_put 27 = .ok (.iadd, 1) := by decide +kernel
theorem dObjects_put_28 : decode bObjects_put 28 = .ok (.invokestatic 38, 3) := by decide +kernel
theorem dObjects_put_31 : decode bObjects_put 31 = .ok (.putfield 15, 3) := by decide +kernel
theorem dObjects_put_34 : decode bObjects_put 34 = .ok (.aload_n 0, 1) := by decide +kernel
theorem dObjects_put_35 : decode bObjects_put 35 = .ok (.aload_n 0, 1) := by decide +kernel
theorem dObjects_put_36 : decode bObjects_put 36 = .ok (.getfield 18, 3) := by decide +kernel
theorem dObjects_put_39 : decode bObjects_put 39 = .ok (.aload_n 0, 1) := by decide +kernel
theorem dObjects_put_40 : decode bObjects_put 40 = .ok (.getfield 30, 3) := by decide +kernel
theorem dObjects_put_43 : decode bObjects_put 43 = .ok (.iconst 1, 1) := by decide +kernel
theorem dObjects_put_44 : decode bObjects_put 44 = .ok (.iadd, 1) := by decide +kernel
theorem dObjects_put_45 : decode bObjects_put 45 = .ok (.invokestatic 38, 3) := by decide +kernel
theorem dObjects_put_48 : decode bObjects_put 48 = .ok (.putfield 18, 3) := by decide +kernel
theorem dObjects_put_51 : decode bObjects_put 51 = .ok (.aload_n 0, 1) := by decide +kernel
theorem dObjects_put_52 : decode bObjects_put 52 = .ok (.getfield 26, 3) := by decide +kernel
theorem dObjects_put_55 : decode bObjects_put 55 = .ok (.aload_n 0, 1) := by decide +kernel
theorem dObjects_put_56 : decode bObjects_put 56 = .ok (.getfield 30, 3) := by decide +kernel
theorem dObjects_put_59 : decode bObjects_put 59 = .ok (.iconst 1, 1) := by decide +kernel
theorem dObjects_put_60 : decode bObjects_put 60 = .ok (.iadd, 1) := by decide +kernel
theorem dObjects_put_61 : decode bObjects_put 61 = .ok (.invokevirtual 42, 3) := by decide +kernel
theorem dObjects_put_64 : decode bObjects_put 64 = .ok (.aload_n 0, 1) := by decide +kernel
theorem dObjects_put_65 : decode bObjects_put 65 = .ok (.getfield 9, 3) := by decide +kernel
theorem dObjects_put_68 : decode bObjects_put 68 = .ok (.aload_n 0, 1) := by decide +kernel
theorem dObjects_put_69 : decode bObjects_put 69 = .ok (.getfield 30, 3) := by decide +kernel
theorem dObjects_put_72 : decode bObjects_put 72 = .ok (.iload_n 1, 1) := by decide +kernel
theorem dObjects_put_73 : decode bObjects_put 73 = .ok (.iastore, 1) := by decide +kernel
theorem dObjects_put_74 : decode bObjects_put 74 = .ok (.aload_n 0, 1) := by decide +kernel
theorem dObjects_put_75 : decode bObjects_put 75 = .ok (.getfield 15, 3) := by decide +kernel
theorem dObjects_put_78 : decode bObjects_put 78 = .ok (.aload_n 0, 1) := by decide +kernel
theorem dObjects_put_79 : decode bObjects_put 79 = .ok (.getfield 30, 3) := by decide +kernel
theorem dObjects_put_82 : decode bObjects_put 82 = .ok (.iload_n 2, 1) := by decide +kernel
theorem dObjects_put_83 : decode bObjects_put 83 = .ok (.iastore, 1) := by decide +kernel
theorem dObjects_put_84 : decode bObjects_put 84 = .ok (.aload_n 0, 1) := by decide +kernel
theorem dObjects_put_85 : decode bObjects_put 85 = .ok (.getfield 18, 3) := by decide +kernel
theorem dObjects_put_88 : decode bObjects_put 88 = .ok (.aload_n 0, 1) := by decide +kernel
theorem dObjects_put_89 : decode bObjects_put 89 = .ok (.getfield 30, 3) := by decide +kernel
theorem dObjects_put_92 : decode bObjects_put 92 = .ok (.iconst 0, 1) := by decide +kernel
theorem dObjects_put_93 : decode bObjects_put 93 = .ok (.iastore, 1) := by decide +kernel
theorem dObjects_put_94 : decode bObjects_put 94 = .ok (.aload_n 0, 1) := by decide +kernel
theorem dObjects_put_95 : decode bObjects_put 95 = .ok (.dup, 1) := by decide +kernel
theorem dObjects_put_96 : decode bObjects_put 96 = .ok (.getfield 30, 3) := by decide +kernel
theorem dObjects_put_99 : decode bObjects_put 99 = .ok (.iconst 1, 1) := by decide +kernel
theorem dObjects_put_100 : decode bObjects_put 100 = .ok (.iadd, 1) := by decide +kernel
theorem dObjects_put_101 : decode bObjects_put 101 = .ok (.putfield 30, 3) := by decide +kernel
theorem dObjects_put_104 : decode bObjects_put 104 = .ok (.aload_n 0, 1) := by decide +kernel
theorem dObjects_put_105 : decode bObjects_put 105 = .ok (.getfield 30, 3) := by decide +kernel
theorem dObjects_put_108 : decode bObjects_put 108 = .ok (.iconst 1, 1) := by decide +kernel
theorem dObjects_put_109 : decode bObjects_put 109 = .ok (.isub, 1) := by decide +kernel
theorem dObjects_put_110 : decode bObjects_put 110 = .ok (.ireturn, 1) := by decide +kernel
theorem dObjects_keep_0 : decode bObjects_keep 0 = .ok (.aload_n 0, 1) := by decide +kernel
theorem dObjects_keep_1 : decode bObjects_keep 1 = .ok (.iload_n 1, 1) := by decide +kernel
theorem dObjects_keep_2 : decode bObjects_keep 2 = .ok (.invokevirtual 34, 3) := by decide +kernel
theorem dObjects_keep_5 : decode bObjects_keep 5 = .ok (.ifCond .eq 27, 3) := by decide +kernel
theorem dObjects_keep_8 : decode bObjects_keep 8 = .ok (.aload_n 0, 1) := by decide +kernel
theorem dObjects_keep_9 : decode bObjects_keep 9 = .ok (.getfield 18, 3) := by decide +kernel
theorem dObjects_keep_12 : decode bObjects_keep 12 = .ok (.iload_n 1, 1) := by decide +kernel
theorem dObjects_keep_13 : decode bObjects_keep 13 = .ok (.aload_n 2, 1) := by decide +kernel
theorem dObjects_keep_14 : decode bObjects_keep 14 = .ok (.iload_n 3, 1) := by decide +kernel
theorem dObjects_keep_15 : decode bObjects_keep 15 = .ok (.invokevirtual 45, 3) := by decide +kernel
theorem dObjects_keep_18 : decode bObjects_keep 18 = .ok (.iastore, 1) := by decide +kernel
theorem dObjects_keep_19 : decode bObjects_keep 19 = .ok (.aload_n 0, 1) := by decide +kernel
theorem dObjects_keep_20 : decode bObjects_keep 20 = .ok (.getfield 26, 3) := by decide +kernel
theorem dObjects_keep_23 : decode bObjects_keep 23 = .ok (.iload_n 1, 1) := by decide +kernel
theorem dObjects_keep_24 : decode bObjects_keep 24 = .ok (.aload_n 2, 1) := by decide +kernel
theorem dObjects_keep_25 : decode bObjects_keep 25 = .ok (.getfield 51, 3) := by decide +kernel
theorem dObjects_keep_28 : decode bObjects_keep 28 = .ok (.iload_n 3, 1) := by decide +kernel
theorem dObjects_keep_29 : decode bObjects_keep 29 = .ok (.invokevirtual 52, 3) := by decide +kernel
theorem dObjects_keep_32 : decode bObjects_keep 32 = .ok (.return_, 1) := by decide +kernel
theorem dRows_init_0 : decode bRows_init 0 = .ok (.aload_n 0, 1) := by decide +kernel
theorem dRows_init_1 : decode bRows_init 1 = .ok (.invokespecial 3, 3) := by decide +kernel
theorem dRows_init_4 : decode bRows_init 4 = .ok (.aload_n 0, 1) := by decide +kernel
theorem dRows_init_5 : decode bRows_init 5 = .ok (.iload_n 1, 1) := by decide +kernel
theorem dRows_init_6 : decode bRows_init 6 = .ok (.iconst 1, 1) := by decide +kernel
theorem dRows_init_7 : decode bRows_init 7 = .ok (.invokestatic 9, 3) := by decide +kernel
theorem dRows_init_10 : decode bRows_init 10 = .ok (.iconst 4, 1) := by decide +kernel
theorem dRows_init_11 : decode bRows_init 11 = .ok (.imul, 1) := by decide +kernel
theorem dRows_init_12 : decode bRows_init 12 = .ok (.newarray .long, 2) := by decide +kernel
theorem dRows_init_14 : decode bRows_init 14 = .ok (.putfield 17, 3) := by decide +kernel
theorem dRows_init_17 : decode bRows_init 17 = .ok (.return_, 1) := by decide +kernel
theorem dRows_makeRoom_0 : decode bRows_makeRoom 0 = .ok (.iload_n 1, 1) := by decide +kernel
theorem dRows_makeRoom_1 : decode bRows_makeRoom 1 = .ok (.iconst 4, 1) := by decide +kernel
theorem dRows_makeRoom_2 : decode bRows_makeRoom 2 = .ok (.imul, 1) := by decide +kernel
theorem dRows_makeRoom_3 : decode bRows_makeRoom 3 = .ok (.aload_n 0, 1) := by decide +kernel
theorem dRows_makeRoom_4 : decode bRows_makeRoom 4 = .ok (.getfield 17, 3) := by decide +kernel
theorem dRows_makeRoom_7 : decode bRows_makeRoom 7 = .ok (.arraylength, 1) := by decide +kernel
theorem dRows_makeRoom_8 : decode bRows_makeRoom 8 = .ok (.if_icmp .le 27, 3) := by decide +kernel
theorem dRows_makeRoom_11 : decode bRows_makeRoom 11 = .ok (.aload_n 0, 1) := by decide +kernel
theorem dRows_makeRoom_12 : decode bRows_makeRoom 12 = .ok (.aload_n 0, 1) := by decide +kernel
theorem dRows_makeRoom_13 : decode bRows_makeRoom 13 = .ok (.getfield 17, 3) := by decide +kernel
theorem dRows_makeRoom_16 : decode bRows_makeRoom 16 = .ok (.iload_n 1, 1) := by decide +kernel
theorem dRows_makeRoom_17 : decode bRows_makeRoom 17 = .ok (.iconst 4, 1) := by decide +kernel
theorem dRows_makeRoom_18 : decode bRows_makeRoom 18 = .ok (.imul, 1) := by decide +kernel
theorem dRows_makeRoom_19 : decode bRows_makeRoom 19 = .ok (.iconst 2, 1) := by decide +kernel
theorem dRows_makeRoom_20 : decode bRows_makeRoom 20 = .ok (.aload_n 0, 1) := by decide +kernel
theorem dRows_makeRoom_21 : decode bRows_makeRoom 21 = .ok (.getfield 17, 3) := by decide +kernel
theorem dRows_makeRoom_24 : decode bRows_makeRoom 24 = .ok (.arraylength, 1) := by decide +kernel
theorem dRows_makeRoom_25 : decode bRows_makeRoom 25 = .ok (.imul, 1) := by decide +kernel
theorem dRows_makeRoom_26 : decode bRows_makeRoom 26 = .ok (.invokestatic 9, 3) := by decide +kernel
theorem dRows_makeRoom_29 : decode bRows_makeRoom 29 = .ok (.invokestatic 21, 3) := by decide +kernel
theorem dRows_makeRoom_32 : decode bRows_makeRoom 32 = .ok (.putfield 17, 3) := by decide +kernel
theorem dRows_makeRoom_35 : decode bRows_makeRoom 35 = .ok (.return_, 1) := by decide +kernel
theorem dRows_has_0 : decode bRows_has 0 = .ok (.iload_n 1, 1) := by decide +kernel
theorem dRows_has_1 : decode bRows_has 1 = .ok (.ifCond .lt 18, 3) := by decide +kernel
theorem dRows_has_4 : decode bRows_has 4 = .ok (.iload_n 1, 1) := by decide +kernel
theorem dRows_has_5 : decode bRows_has 5 = .ok (.aload_n 0, 1) := by decide +kernel
theorem dRows_has_6 : decode bRows_has 6 = .ok (.getfield 17, 3) := by decide +kernel
theorem dRows_has_9 : decode bRows_has 9 = .ok (.arraylength, 1) := by decide +kernel
theorem dRows_has_10 : decode bRows_has 10 = .ok (.iconst 4, 1) := by decide +kernel
theorem dRows_has_11 : decode bRows_has 11 = .ok (.idiv, 1) := by decide +kernel
theorem dRows_has_12 : decode bRows_has 12 = .ok (.if_icmp .ge 7, 3) := by decide +kernel
theorem dRows_has_15 : decode bRows_has 15 = .ok (.iconst 1, 1) := by decide +kernel
theorem dRows_has_16 : decode bRows_has 16 = .ok (.goto 4, 3) := by decide +kernel
theorem dRows_has_19 : decode bRows_has 19 = .ok (.iconst 0, 1) := by decide +kernel
theorem dRows_has_20 : decode bRows_has 20 = .ok (.ireturn, 1) := by decide +kernel
theorem dRows_get_0 : decode bRows_get 0 = .ok (.iload_n 1, 1) := by decide +kernel
theorem dRows_get_1 : decode bRows_get 1 = .ok (.ifCond .lt 24, 3) := by decide +kernel
theorem dRows_get_4 : decode bRows_get 4 = .ok (.iload_n 1, 1) := by decide +kernel
theorem dRows_get_5 : decode bRows_get 5 = .ok (.aload_n 0, 1) := by decide +kernel
theorem dRows_get_6 : decode bRows_get 6 = .ok (.getfield 17, 3) := by decide +kernel
theorem dRows_get_9 : decode bRows_get 9 = .ok (.arraylength, 1) := by decide +kernel
theorem dRows_get_10 : decode bRows_get 10 = .ok (.iconst 4, 1) := by decide +kernel
theorem dRows_get_11 : decode bRows_get 11 = .ok (.idiv, 1) := by decide +kernel
theorem dRows_get_12 : decode bRows_get 12 = .ok (.if_icmp .ge 13, 3) := by decide +kernel
theorem dRows_get_15 : decode bRows_get 15 = .ok (.iload_n 2, 1) := by decide +kernel
theorem dRows_get_16 : decode bRows_get 16 = .ok (.ifCond .lt 9, 3) := by decide +kernel
theorem dRows_get_19 : decode bRows_get 19 = .ok (.iload_n 2, 1) := by decide +kernel
theorem dRows_get_20 : decode bRows_get 20 = .ok (.bipush 64, 2) := by decide +kernel
theorem dRows_get_22 : decode bRows_get 22 = .ok (.if_icmp .lt 5, 3) := by decide +kernel
theorem dRows_get_25 : decode bRows_get 25 = .ok (.iconst 0, 1) := by decide +kernel
theorem dRows_get_26 : decode bRows_get 26 = .ok (.ireturn, 1) := by decide +kernel
theorem dRows_get_27 : decode bRows_get 27 = .ok (.aload_n 0, 1) := by decide +kernel
theorem dRows_get_28 : decode bRows_get 28 = .ok (.getfield 17, 3) := by decide +kernel
theorem dRows_get_31 : decode bRows_get 31 = .ok (.iload_n 1, 1) := by decide +kernel
theorem dRows_get_32 : decode bRows_get 32 = .ok (.iconst 4, 1) := by decide +kernel
theorem dRows_get_33 : decode bRows_get 33 = .ok (.imul, 1) := by decide +kernel
theorem dRows_get_34 : decode bRows_get 34 = .ok (.iload_n 2, 1) := by decide +kernel
theorem dRows_get_35 : decode bRows_get 35 = .ok (.bipush 16, 2) := by decide +kernel
theorem dRows_get_37 : decode bRows_get 37 = .ok (.idiv, 1) := by decide +kernel
theorem dRows_get_38 : decode bRows_get 38 = .ok (.iadd, 1) := by decide +kernel
theorem dRows_get_39 : decode bRows_get 39 = .ok (.laload, 1) := by decide +kernel
theorem dRows_get_40 : decode bRows_get 40 = .ok (.iload_n 2, 1) := by decide +kernel
theorem dRows_get_41 : decode bRows_get 41 = .ok (.bipush 16, 2) := by decide +kernel
theorem dRows_get_43 : decode bRows_get 43 = .ok (.irem, 1) := by decide +kernel
theorem dRows_get_44 : decode bRows_get 44 = .ok (.iconst 4, 1) := by decide +kernel
theorem dRows_get_45 : decode bRows_get 45 = .ok (.imul, 1) := by decide +kernel
theorem dRows_get_46 : decode bRows_get 46 = .ok (.lushr, 1) := by decide +kernel
theorem dRows_get_47 : decode bRows_get 47 = .ok (.l2i, 1) := by decide +kernel
theorem dRows_get_48 : decode bRows_get 48 = .ok (.bipush 15, 2) := by decide +kernel
theorem dRows_get_50 : decode bRows_get 50 = .ok (.iand, 1) := by decide +kernel
theorem dRows_get_51 : decode bRows_get 51 = .ok (.ireturn, 1) := by decide +kernel
theorem dRows_set_0 : decode bRows_set 0 = .ok (.iload_n 1, 1) := by decide +kernel
theorem dRows_set_1 : decode bRows_set 1 = .ok (.ifCond .lt 73, 3) := by decide +kernel
theorem dRows_set_4 : decode bRows_set 4 = .ok (.iload_n 1, 1) := by decide +kernel
theorem dRows_set_5 : decode bRows_set 5 = .ok (.aload_n 0, 1) := by decide +kernel
theorem dRows_set_6 : decode bRows_set 6 = .ok (.getfield 17, 3) := by decide +kernel
theorem dRows_set_9 : decode bRows_set 9 = .ok (.arraylength, 1) := by decide +kernel
theorem dRows_set_10 : decode bRows_set 10 = .ok (.iconst 4, 1) := by decide +kernel
theorem dRows_set_11 : decode bRows_set 11 = .ok (.idiv, 1) := by decide +kernel
theorem dRows_set_12 : decode bRows_set 12 = .ok (.if_icmp .ge 62, 3) := by decide +kernel
theorem dRows_set_15 : decode bRows_set 15 = .ok (.iload_n 2, 1) := by decide +kernel
theorem dRows_set_16 : decode bRows_set 16 = .ok (.ifCond .lt 58, 3) := by decide +kernel
theorem dRows_set_19 : decode bRows_set 19 = .ok (.iload_n 2, 1) := by decide +kernel
theorem dRows_set_20 : decode bRows_set 20 = .ok (.bipush 64, 2) := by decide +kernel
theorem dRows_set_22 : decode bRows_set 22 = .ok (.if_icmp .ge 52, 3) := by decide +kernel
theorem dRows_set_25 : decode bRows_set 25 = .ok (.iload_n 1, 1) := by decide +kernel
theorem dRows_set_26 : decode bRows_set 26 = .ok (.iconst 4, 1) := by decide +kernel
theorem dRows_set_27 : decode bRows_set 27 = .ok (.imul, 1) := by decide +kernel
theorem dRows_set_28 : decode bRows_set 28 = .ok (.iload_n 2, 1) := by decide +kernel
theorem dRows_set_29 : decode bRows_set 29 = .ok (.bipush 16, 2) := by decide +kernel
theorem dRows_set_31 : decode bRows_set 31 = .ok (.idiv, 1) := by decide +kernel
theorem dRows_set_32 : decode bRows_set 32 = .ok (.iadd, 1) := by decide +kernel
theorem dRows_set_33 : decode bRows_set 33 = .ok (.istore 4, 2) := by decide +kernel
theorem dRows_set_35 : decode bRows_set 35 = .ok (.iload_n 2, 1) := by decide +kernel
theorem dRows_set_36 : decode bRows_set 36 = .ok (.bipush 16, 2) := by decide +kernel
theorem dRows_set_38 : decode bRows_set 38 = .ok (.irem, 1) := by decide +kernel
theorem dRows_set_39 : decode bRows_set 39 = .ok (.iconst 4, 1) := by decide +kernel
theorem dRows_set_40 : decode bRows_set 40 = .ok (.imul, 1) := by decide +kernel
theorem dRows_set_41 : decode bRows_set 41 = .ok (.istore 5, 2) := by decide +kernel
theorem dRows_set_43 : decode bRows_set 43 = .ok (.aload_n 0, 1) := by decide +kernel
theorem dRows_set_44 : decode bRows_set 44 = .ok (.getfield 17, 3) := by decide +kernel
theorem dRows_set_47 : decode bRows_set 47 = .ok (.iload 4, 2) := by decide +kernel
theorem dRows_set_49 : decode bRows_set 49 = .ok (.aload_n 0, 1) := by decide +kernel
theorem dRows_set_50 : decode bRows_set 50 = .ok (.getfield 17, 3) := by decide +kernel
theorem dRows_set_53 : decode bRows_set 53 = .ok (.iload 4, 2) := by decide +kernel
theorem dRows_set_55 : decode bRows_set 55 = .ok (.laload, 1) := by decide +kernel
theorem dRows_set_56 : decode bRows_set 56 = .ok (.ldc2_w 27, 3) := by decide +kernel
theorem dRows_set_59 : decode bRows_set 59 = .ok (.iload 5, 2) := by decide +kernel
theorem dRows_set_61 : decode bRows_set 61 = .ok (.lshl, 1) := by decide +kernel
theorem dRows_set_62 : decode bRows_set 62 = .ok (.ldc2_w 29, 3) := by decide +kernel
theorem dRows_set_65 : decode bRows_set 65 = .ok (.lxor, 1) := by decide +kernel
theorem dRows_set_66 : decode bRows_set 66 = .ok (.land, 1) := by decide +kernel
theorem dRows_set_67 : decode bRows_set 67 = .ok (.iload_n 3, 1) := by decide +kernel
theorem dRows_set_68 : decode bRows_set 68 = .ok (.i2l, 1) := by decide +kernel
theorem dRows_set_69 : decode bRows_set 69 = .ok (.iload 5, 2) := by decide +kernel
theorem dRows_set_71 : decode bRows_set 71 = .ok (.lshl, 1) := by decide +kernel
theorem dRows_set_72 : decode bRows_set 72 = .ok (.lor, 1) := by decide +kernel
theorem dRows_set_73 : decode bRows_set 73 = .ok (.lastore, 1) := by decide +kernel
theorem dRows_set_74 : decode bRows_set 74 = .ok (.return_, 1) := by decide +kernel
theorem dRows_copy_0 : decode bRows_copy 0 = .ok (.aload_n 0, 1) := by decide +kernel
theorem dRows_copy_1 : decode bRows_copy 1 = .ok (.iload_n 1, 1) := by decide +kernel
theorem dRows_copy_2 : decode bRows_copy 2 = .ok (.invokevirtual 31, 3) := by decide +kernel
theorem dRows_copy_5 : decode bRows_copy 5 = .ok (.ifCond .eq 29, 3) := by decide +kernel
theorem dRows_copy_8 : decode bRows_copy 8 = .ok (.aload_n 2, 1) := by decide +kernel
theorem dRows_copy_9 : decode bRows_copy 9 = .ok (.iload_n 3, 1) := by decide +kernel
theorem dRows_copy_10 : decode bRows_copy 10 = .ok (.invokevirtual 31, 3) := by decide +kernel
theorem dRows_copy_13 : decode bRows_copy 13 = .ok (.ifCond .eq 21, 3) := by decide +kernel
theorem dRows_copy_16 : decode bRows_copy 16 = .ok (.aload_n 2, 1) := by decide +kernel
theorem dRows_copy_17 : decode bRows_copy 17 = .ok (.getfield 17, 3) := by decide +kernel
theorem dRows_copy_20 : decode bRows_copy 20 = .ok (.iload_n 3, 1) := by decide +kernel
theorem dRows_copy_21 : decode bRows_copy 21 = .ok (.iconst 4, 1) := by decide +kernel
theorem dRows_copy_22 : decode bRows_copy 22 = .ok (.imul, 1) := by decide +kernel
theorem dRows_copy_23 : decode bRows_copy 23 = .ok (.aload_n 0, 1) := by decide +kernel
theorem dRows_copy_24 : decode bRows_copy 24 = .ok (.getfield 17, 3) := by decide +kernel
theorem dRows_copy_27 : decode bRows_copy 27 = .ok (.iload_n 1, 1) := by decide +kernel
theorem dRows_copy_28 : decode bRows_copy 28 = .ok (.iconst 4, 1) := by decide +kernel
theorem dRows_copy_29 : decode bRows_copy 29 = .ok (.imul, 1) := by decide +kernel
theorem dRows_copy_30 : decode bRows_copy 30 = .ok (.iconst 4, 1) := by decide +kernel
theorem dRows_copy_31 : decode bRows_copy 31 = .ok (.invokestatic 35, 3) := by decide +kernel
theorem dRows_copy_34 : decode bRows_copy 34 = .ok (.return_, 1) := by decide +kernel
theorem dRows_isClear_0 : decode bRows_isClear 0 = .ok (.iconst 0, 1) := by decide +kernel
theorem dRows_isClear_1 : decode bRows_isClear 1 = .ok (.istore_n 3, 1) := by decide +kernel
theorem dRows_isClear_2 : decode bRows_isClear 2 = .ok (.iload_n 3, 1) := by decide +kernel
theorem dRows_isClear_3 : decode bRows_isClear 3 = .ok (.iload_n 2, 1) := by decide +kernel
theorem dRows_isClear_4 : decode bRows_isClear 4 = .ok (.if_icmp .ge 29, 3) := by decide +kernel
theorem dRows_isClear_7 : decode bRows_isClear 7 = .ok (.iload_n 3, 1) := by decide +kernel
theorem dRows_isClear_8 : decode bRows_isClear 8 = .ok (.bipush 64, 2) := by decide +kernel
theorem dRows_isClear_10 : decode bRows_isClear 10 = .ok (.if_icmp .ge 23, 3) := by decide +kernel
theorem dRows_isClear_13 : decode bRows_isClear 13 = .ok (.aload_n 0, 1) := by decide +kernel
theorem dRows_isClear_14 : decode bRows_isClear 14 = .ok (.iload_n 1, 1) := by decide +kernel
theorem dRows_isClear_15 : decode bRows_isClear 15 = .ok (.iload_n 3, 1) := by decide +kernel
theorem dRows_isClear_16 : decode bRows_isClear 16 = .ok (.invokevirtual 41, 3) := by decide +kernel
theorem dRows_isClear_19 : decode bRows_isClear 19 = .ok (.invokestatic 44, 3) := by decide +kernel
theorem dRows_isClear_22 : decode bRows_isClear 22 = .ok (.ifCond .ne 5, 3) := by decide +kernel
theorem dRows_isClear_25 : decode bRows_isClear 25 = .ok (.iconst 0, 1) := by decide +kernel
theorem dRows_isClear_26 : decode bRows_isClear 26 = .ok (.ireturn, 1) := by decide +kernel
theorem dRows_isClear_27 : decode bRows_isClear 27 = .ok (.iinc 3 1, 3) := by decide +kernel
theorem dRows_isClear_30 : decode bRows_isClear 30 = .ok (.goto (-28), 3) := by decide +kernel
theorem dRows_isClear_33 : decode bRows_isClear 33 = .ok (.iconst 1, 1) := by decide +kernel
theorem dRows_isClear_34 : decode bRows_isClear 34 = .ok (.ireturn, 1) := by decide +kernel
theorem dRows_bitsOf_0 : decode bRows_bitsOf 0 = .ok (.lconst 0, 1) := by decide +kernel
theorem dRows_bitsOf_1 : decode bRows_bitsOf 1 = .ok (.lstore_n 3, 1) := by decide +kernel
theorem dRows_bitsOf_2 : decode bRows_bitsOf 2 = .ok (.iconst 0, 1) := by decide +kernel
theorem dRows_bitsOf_3 : decode bRows_bitsOf 3 = .ok (.istore 5, 2) := by decide +kernel
theorem dRows_bitsOf_5 : decode bRows_bitsOf 5 = .ok (.iload 5, 2) := by decide +kernel
theorem dRows_bitsOf_7 : decode bRows_bitsOf 7 = .ok (.iload_n 2, 1) := by decide +kernel
theorem dRows_bitsOf_8 : decode bRows_bitsOf 8 = .ok (.if_icmp .ge 36, 3) := by decide +kernel
theorem dRows_bitsOf_11 : decode bRows_bitsOf 11 = .ok (.iload 5, 2) := by decide +kernel
theorem dRows_bitsOf_13 : decode bRows_bitsOf 13 = .ok (.bipush 64, 2) := by decide +kernel
theorem dRows_bitsOf_15 : decode bRows_bitsOf 15 = .ok (.if_icmp .ge 29, 3) := by decide +kernel
theorem dRows_bitsOf_18 : decode bRows_bitsOf 18 = .ok (.aload_n 0, 1) := by decide +kernel
theorem dRows_bitsOf_19 : decode bRows_bitsOf 19 = .ok (.iload_n 1, 1) := by decide +kernel
theorem dRows_bitsOf_20 : decode bRows_bitsOf 20 = .ok (.iload 5, 2) := by decide +kernel
theorem dRows_bitsOf_22 : decode bRows_bitsOf 22 = .ok (.invokevirtual 41, 3) := by decide +kernel
theorem dRows_bitsOf_25 : decode bRows_bitsOf 25 = .ok (.invokestatic 49, 3) := by decide +kernel
theorem dRows_bitsOf_28 : decode bRows_bitsOf 28 = .ok (.ifCond .eq 10, 3) := by decide +kernel
theorem dRows_bitsOf_31 : decode bRows_bitsOf 31 = .ok (.lload_n 3, 1) := by decide +kernel
theorem dRows_bitsOf_32 : decode bRows_bitsOf 32 = .ok (.lconst 1, 1) := by decide +kernel
theorem dRows_bitsOf_33 : decode bRows_bitsOf 33 = .ok (.iload 5, 2) := by decide +kernel
theorem dRows_bitsOf_35 : decode bRows_bitsOf 35 = .ok (.lshl, 1) := by decide +kernel
theorem dRows_bitsOf_36 : decode bRows_bitsOf 36 = .ok (.lor, 1) := by decide +kernel
theorem dRows_bitsOf_37 : decode bRows_bitsOf 37 = .ok (.lstore_n 3, 1) := by decide +kernel
theorem dRows_bitsOf_38 : decode bRows_bitsOf 38 = .ok (.iinc 5 1, 3) := by decide +kernel
theorem dRows_bitsOf_41 : decode bRows_bitsOf 41 = .ok (.goto (-36), 3) := by decide +kernel
theorem dRows_bitsOf_44 : decode bRows_bitsOf 44 = .ok (.lload_n 3, 1) := by decide +kernel
theorem dRows_bitsOf_45 : decode bRows_bitsOf 45 = .ok (.lreturn, 1) := by decide +kernel
theorem dRows_setBits_0 : decode bRows_setBits 0 = .ok (.iconst 0, 1) := by decide +kernel
theorem dRows_setBits_1 : decode bRows_setBits 1 = .ok (.istore 5, 2) := by decide +kernel
theorem dRows_setBits_3 : decode bRows_setBits 3 = .ok (.iload 5, 2) := by decide +kernel
theorem dRows_setBits_5 : decode bRows_setBits 5 = .ok (.iload_n 2, 1) := by decide +kernel
theorem dRows_setBits_6 : decode bRows_setBits 6 = .ok (.if_icmp .ge 39, 3) := by decide +kernel
theorem dRows_setBits_9 : decode bRows_setBits 9 = .ok (.iload 5, 2) := by decide +kernel
theorem dRows_setBits_11 : decode bRows_setBits 11 = .ok (.bipush 64, 2) := by decide +kernel
theorem dRows_setBits_13 : decode bRows_setBits 13 = .ok (.if_icmp .ge 32, 3) := by decide +kernel
theorem dRows_setBits_16 : decode bRows_setBits 16 = .ok (.aload_n 0, 1) := by decide +kernel
theorem dRows_setBits_17 : decode bRows_setBits 17 = .ok (.iload_n 1, 1) := by decide +kernel
theorem dRows_setBits_18 : decode bRows_setBits 18 = .ok (.iload 5, 2) := by decide +kernel
theorem dRows_setBits_20 : decode bRows_setBits 20 = .ok (.lload_n 3, 1) := by decide +kernel
theorem dRows_setBits_21 : decode bRows_setBits 21 = .ok (.iload 5, 2) := by decide +kernel
theorem dRows_setBits_23 : decode bRows_setBits 23 = .ok (.lushr, 1) := by decide +kernel
theorem dRows_setBits_24 : decode bRows_setBits 24 = .ok (.lconst 1, 1) := by decide +kernel
theorem dRows_setBits_25 : decode bRows_setBits 25 = .ok (.land, 1) := by decide +kernel
theorem dRows_setBits_26 : decode bRows_setBits 26 = .ok (.lconst 1, 1) := by decide +kernel
theorem dRows_setBits_27 : decode bRows_setBits 27 = .ok (.lcmp, 1) := by decide +kernel
theorem dRows_setBits_28 : decode bRows_setBits 28 = .ok (.ifCond .ne 7, 3) := by decide +kernel
theorem dRows_setBits_31 : decode bRows_setBits 31 = .ok (.iconst 3, 1) := by decide +kernel
theorem dRows_setBits_32 : decode bRows_setBits 32 = .ok (.goto 4, 3) := by decide +kernel
theorem dRows_setBits_35 : decode bRows_setBits 35 = .ok (.iconst 2, 1) := by decide +kernel
theorem dRows_setBits_36 : decode bRows_setBits 36 = .ok (.invokevirtual 52, 3) := by decide +kernel
theorem dRows_setBits_39 : decode bRows_setBits 39 = .ok (.iinc 5 1, 3) := by decide +kernel
theorem dRows_setBits_42 : decode bRows_setBits 42 = .ok (.goto (-39), 3) := by decide +kernel
theorem dRows_setBits_45 : decode bRows_setBits 45 = .ok (.return_, 1) := by decide +kernel
theorem dRows_setAll_0 : decode bRows_setAll 0 = .ok (.iconst 0, 1) := by decide +kernel
theorem dRows_setAll_1 : decode bRows_setAll 1 = .ok (.istore 4, 2) := by decide +kernel
theorem dRows_setAll_3 : decode bRows_setAll 3 = .ok (.iload 4, 2) := by decide +kernel
theorem dRows_setAll_5 : decode bRows_setAll 5 = .ok (.iload_n 2, 1) := by decide +kernel
theorem dRows_setAll_6 : decode bRows_setAll 6 = .ok (.if_icmp .ge 24, 3) := by decide +kernel
theorem dRows_setAll_9 : decode bRows_setAll 9 = .ok (.iload 4, 2) := by decide +kernel
theorem dRows_setAll_11 : decode bRows_setAll 11 = .ok (.bipush 64, 2) := by decide +kernel
theorem dRows_setAll_13 : decode bRows_setAll 13 = .ok (.if_icmp .ge 17, 3) := by decide +kernel
theorem dRows_setAll_16 : decode bRows_setAll 16 = .ok (.aload_n 0, 1) := by decide +kernel
theorem dRows_setAll_17 : decode bRows_setAll 17 = .ok (.iload_n 1, 1) := by decide +kernel
theorem dRows_setAll_18 : decode bRows_setAll 18 = .ok (.iload 4, 2) := by decide +kernel
theorem dRows_setAll_20 : decode bRows_setAll 20 = .ok (.iload_n 3, 1) := by decide +kernel
theorem dRows_setAll_21 : decode bRows_setAll 21 = .ok (.invokevirtual 52, 3) := by decide +kernel
theorem dRows_setAll_24 : decode bRows_setAll 24 = .ok (.iinc 4 1, 3) := by decide +kernel
theorem dRows_setAll_27 : decode bRows_setAll 27 = .ok (.goto (-24), 3) := by decide +kernel
theorem dRows_setAll_30 : decode bRows_setAll 30 = .ok (.return_, 1) := by decide +kernel
theorem dLooks_init_0 : decode bLooks_init 0 = .ok (.aload_n 0, 1) := by decide +kernel
theorem dLooks_init_1 : decode bLooks_init 1 = .ok (.invokespecial 3, 3) := by decide +kernel
theorem dLooks_init_4 : decode bLooks_init 4 = .ok (.aload_n 0, 1) := by decide +kernel
theorem dLooks_init_5 : decode bLooks_init 5 = .ok (.bipush 64, 2) := by decide +kernel
theorem dLooks_init_7 : decode bLooks_init 7 = .ok (.newarray .int, 2) := by decide +kernel
theorem dLooks_init_9 : decode bLooks_init 9 = .ok (.putfield 9, 3) := by decide +kernel
theorem dLooks_init_12 : decode bLooks_init 12 = .ok (.aload_n 0, 1) := by decide +kernel
theorem dLooks_init_13 : decode bLooks_init 13 = .ok (.bipush 64, 2) := by decide +kernel
theorem dLooks_init_15 : decode bLooks_init 15 = .ok (.newarray .int, 2) := by decide +kernel
theorem dLooks_init_17 : decode bLooks_init 17 = .ok (.putfield 15, 3) := by decide +kernel
theorem dLooks_init_20 : decode bLooks_init 20 = .ok (.aload_n 0, 1) := by decide +kernel
theorem dLooks_init_21 : decode bLooks_init 21 = .ok (.bipush 64, 2) := by decide +kernel
theorem dLooks_init_23 : decode bLooks_init 23 = .ok (.newarray .int, 2) := by decide +kernel
theorem dLooks_init_25 : decode bLooks_init 25 = .ok (.putfield 18, 3) := by decide +kernel
theorem dLooks_init_28 : decode bLooks_init 28 = .ok (.aload_n 0, 1) := by decide +kernel
theorem dLooks_init_29 : decode bLooks_init 29 = .ok (.bipush 64, 2) := by decide +kernel
theorem dLooks_init_31 : decode bLooks_init 31 = .ok (.newarray .int, 2) := by decide +kernel
theorem dLooks_init_33 : decode bLooks_init 33 = .ok (.putfield 21, 3) := by decide +kernel
theorem dLooks_init_36 : decode bLooks_init 36 = .ok (.aload_n 0, 1) := by decide +kernel
theorem dLooks_init_37 : decode bLooks_init 37 = .ok (.bipush 64, 2) := by decide +kernel
theorem dLooks_init_39 : decode bLooks_init 39 = .ok (.newarray .int, 2) := by decide +kernel
theorem dLooks_init_41 : decode bLooks_init 41 = .ok (.putfield 24, 3) := by decide +kernel
theorem dLooks_init_44 : decode bLooks_init 44 = .ok (.aload_n 0, 1) := by decide +kernel
theorem dLooks_init_45 : decode bLooks_init 45 = .ok (.new 27, 3) := by decide +kernel
theorem dLooks_init_48 : decode bLooks_init 48 = .ok (.dup, 1) := by decide +kernel
theorem dLooks_init_49 : decode bLooks_init 49 = .ok (.bipush 64, 2) := by decide +kernel
theorem dLooks_init_51 : decode bLooks_init 51 = .ok (.invokespecial 29, 3) := by decide +kernel
theorem dLooks_init_54 : decode bLooks_init 54 = .ok (.putfield 32, 3) := by decide +kernel
theorem dLooks_init_57 : decode bLooks_init 57 = .ok (.return_, 1) := by decide +kernel
theorem dLooks_has_0 : decode bLooks_has 0 = .ok (.iload_n 1, 1) := by decide +kernel
theorem dLooks_has_1 : decode bLooks_has 1 = .ok (.ifCond .lt 16, 3) := by decide +kernel
theorem dLooks_has_4 : decode bLooks_has 4 = .ok (.iload_n 1, 1) := by decide +kernel
theorem dLooks_has_5 : decode bLooks_has 5 = .ok (.aload_n 0, 1) := by decide +kernel
theorem dLooks_has_6 : decode bLooks_has 6 = .ok (.getfield 9, 3) := by decide +kernel
theorem dLooks_has_9 : decode bLooks_has 9 = .ok (.arraylength, 1) := by decide +kernel
theorem dLooks_has_10 : decode bLooks_has 10 = .ok (.if_icmp .ge 7, 3) := by decide +kernel
theorem dLooks_has_13 : decode bLooks_has 13 = .ok (.iconst 1, 1) := by decide +kernel
theorem dLooks_has_14 : decode bLooks_has 14 = .ok (.goto 4, 3) := by decide +kernel
theorem dLooks_has_17 : decode bLooks_has 17 = .ok (.iconst 0, 1) := by decide +kernel
theorem dLooks_has_18 : decode bLooks_has 18 = .ok (.ireturn, 1) := by decide +kernel
theorem dLooks_makeRoom_0 : decode bLooks_makeRoom 0 = .ok (.aload_n 0, 1) := by decide +kernel
theorem dLooks_makeRoom_1 : decode bLooks_makeRoom 1 = .ok (.aload_n 0, 1) := by decide +kernel
theorem dLooks_makeRoom_2 : decode bLooks_makeRoom 2 = .ok (.getfield 9, 3) := by decide +kernel
theorem dLooks_makeRoom_5 : decode bLooks_makeRoom 5 = .ok (.iload_n 1, 1) := by decide +kernel
theorem dLooks_makeRoom_6 : decode bLooks_makeRoom 6 = .ok (.invokestatic 36, 3) := by decide +kernel
theorem dLooks_makeRoom_9 : decode bLooks_makeRoom 9 = .ok (.putfield 9, 3) := by decide +kernel
theorem dLooks_makeRoom_12 : decode bLooks_makeRoom 12 = .ok (.aload_n 0, 1) := by decide +kernel
theorem dLooks_makeRoom_13 : decode bLooks_makeRoom 13 = .ok (.aload_n 0, 1) := by decide +kernel
theorem dLooks_makeRoom_14 : decode bLooks_makeRoom 14 = .ok (.getfield 15, 3) := by decide +kernel
theorem dLooks_makeRoom_17 : decode bLooks_makeRoom 17 = .ok (.iload_n 1, 1) := by decide +kernel
theorem dLooks_makeRoom_18 : decode bLooks_makeRoom 18 = .ok (.invokestatic 36, 3) := by decide +kernel
theorem dLooks_makeRoom_21 : decode bLooks_makeRoom 21 = .ok (.putfield 15, 3) := by decide +kernel
theorem dLooks_makeRoom_24 : decode bLooks_makeRoom 24 = .ok (.aload_n 0, 1) := by decide +kernel
theorem dLooks_makeRoom_25 : decode bLooks_makeRoom 25 = .ok (.aload_n 0, 1) := by decide +kernel
theorem dLooks_makeRoom_26 : decode bLooks_makeRoom 26 = .ok (.getfield 18, 3) := by decide +kernel
theorem dLooks_makeRoom_29 : decode bLooks_makeRoom 29 = .ok (.iload_n 1, 1) := by decide +kernel
theorem dLooks_makeRoom_30 : decode bLooks_makeRoom 30 = .ok (.invokestatic 36, 3) := by decide +kernel
theorem dLooks_makeRoom_33 : decode bLooks_makeRoom 33 = .ok (.putfield 18, 3) := by decide +kernel
theorem dLooks_makeRoom_36 : decode bLooks_makeRoom 36 = .ok (.aload_n 0, 1) := by decide +kernel
theorem dLooks_makeRoom_37 : decode bLooks_makeRoom 37 = .ok (.aload_n 0, 1) := by decide +kernel
theorem dLooks_makeRoom_38 : decode bLooks_makeRoom 38 = .ok (.getfield 21, 3) := by decide +kernel
theorem dLooks_makeRoom_41 : decode bLooks_makeRoom 41 = .ok (.iload_n 1, 1) := by decide +kernel
theorem dLooks_makeRoom_42 : decode bLooks_makeRoom 42 = .ok (.invokestatic 36, 3) := by decide +kernel
theorem dLooks_makeRoom_45 : decode bLooks_makeRoom 45 = .ok (.putfield 21, 3) := by decide +kernel
theorem dLooks_makeRoom_48 : decode bLooks_makeRoom 48 = .ok (.aload_n 0, 1) := by decide +kernel
theorem dLooks_makeRoom_49 : decode bLooks_makeRoom 49 = .ok (.aload_n 0, 1) := by decide +kernel
theorem dLooks_makeRoom_50 : decode bLooks_makeRoom 50 = .ok (.getfield 24, 3) := by decide +kernel
theorem dLooks_makeRoom_53 : decode bLooks_makeRoom 53 = .ok (.iload_n 1, 1) := by decide +kernel
theorem dLooks_makeRoom_54 : decode bLooks_makeRoom 54 = .ok (.invokestatic 36, 3) := by decide +kernel
theorem dLooks_makeRoom_57 : decode bLooks_makeRoom 57 = .ok (.putfield 24, 3) := by decide +kernel
theorem dLooks_makeRoom_60 : decode bLooks_makeRoom 60 = .ok (.aload_n 0, 1) := by decide +kernel
theorem dLooks_makeRoom_61 : decode bLooks_makeRoom 61 = .ok (.getfield 32, 3) := by decide +kernel
theorem dLooks_makeRoom_64 : decode bLooks_makeRoom 64 = .ok (.iload_n 1, 1) := by decide +kernel
theorem dLooks_makeRoom_65 : decode bLooks_makeRoom 65 = .ok (.invokevirtual 40, 3) := by decide +kernel
theorem dLooks_makeRoom_68 : decode bLooks_makeRoom 68 = .ok (.return_, 1) := by decide +kernel
theorem dLooks_classOf_0 : decode bLooks_classOf 0 = .ok (.aload_n 0, 1) := by decide +kernel
theorem dLooks_classOf_1 : decode bLooks_classOf 1 = .ok (.iload_n 1, 1) := by decide +kernel
theorem dLooks_classOf_2 : decode bLooks_classOf 2 = .ok (.invokevirtual 43, 3) := by decide +kernel
theorem dLooks_classOf_5 : decode bLooks_classOf 5 = .ok (.ifCond .eq 12, 3) := by decide +kernel
theorem dLooks_classOf_8 : decode bLooks_classOf 8 = .ok (.aload_n 0, 1) := by decide +kernel
theorem dLooks_classOf_9 : decode bLooks_classOf 9 = .ok (.getfield 9, 3) := by decide +kernel
theorem dLooks_classOf_12 : decode bLooks_classOf 12 = .ok (.iload_n 1, 1) := by decide +kernel
theorem dLooks_classOf_13 : decode bLooks_classOf 13 = .ok (.iaload, 1) := by decide +kernel
theorem dLooks_classOf_14 : decode bLooks_classOf 14 = .ok (.goto 4, 3) := by decide +kernel
theorem dLooks_classOf_17 : decode bLooks_classOf 17 = .ok (.iconst (-1), 1) := by decide +kernel
theorem dLooks_classOf_18 : decode bLooks_classOf 18 = .ok (.ireturn, 1) := by decide +kernel
theorem dLooks_extentOf_0 : decode bLooks_extentOf 0 = .ok (.aload_n 0, 1) := by decide +kernel
theorem dLooks_extentOf_1 : decode bLooks_extentOf 1 = .ok (.iload_n 1, 1) := by decide +kernel
theorem dLooks_extentOf_2 : decode bLooks_extentOf 2 = .ok (.invokevirtual 43, 3) := by decide +kernel
theorem dLooks_extentOf_5 : decode bLooks_extentOf 5 = .ok (.ifCond .eq 12, 3) := by decide +kernel
theorem dLooks_extentOf_8 : decode bLooks_extentOf 8 = .ok (.aload_n 0, 1) := by decide +kernel
theorem dLooks_extentOf_9 : decode bLooks_extentOf 9 = .ok (.getfield 15, 3) := by decide +kernel
theorem dLooks_extentOf_12 : decode bLooks_extentOf 12 = .ok (.iload_n 1, 1) := by decide +kernel
theorem dLooks_extentOf_13 : decode bLooks_extentOf 13 = .ok (.iaload, 1) := by decide +kernel
theorem dLooks_extentOf_14 : decode bLooks_extentOf 14 = .ok (.goto 4, 3) := by decide +kernel
theorem dLooks_extentOf_17 : decode bLooks_extentOf 17 = .ok (.iconst 0, 1) := by decide +kernel
theorem dLooks_extentOf_18 : decode bLooks_extentOf 18 = .ok (.ireturn, 1) := by decide +kernel
theorem dLooks_meaningOf_0 : decode bLooks_meaningOf 0 = .ok (.aload_n 0, 1) := by decide +kernel
theorem dLooks_meaningOf_1 : decode bLooks_meaningOf 1 = .ok (.iload_n 1, 1) := by decide +kernel
theorem dLooks_meaningOf_2 : decode bLooks_meaningOf 2 = .ok (.invokevirtual 43, 3) := by decide +kernel
theorem dLooks_meaningOf_5 : decode bLooks_meaningOf 5 = .ok (.ifCond .eq 12, 3) := by decide +kernel
theorem dLooks_meaningOf_8 : decode bLooks_meaningOf 8 = .ok (.aload_n 0, 1) := by decide +kernel
theorem dLooks_meaningOf_9 : decode bLooks_meaningOf 9 = .ok (.getfield 18, 3) := by decide +kernel
theorem dLooks_meaningOf_12 : decode bLooks_meaningOf 12 = .ok (.iload_n 1, 1) := by decide +kernel
theorem dLooks_meaningOf_13 : decode bLooks_meaningOf 13 = .ok (.iaload, 1) := by decide +kernel
theorem dLooks_meaningOf_14 : decode bLooks_meaningOf 14 = .ok (.goto 4, 3) := by decide +kernel
theorem dLooks_meaningOf_17 : decode bLooks_meaningOf 17 = .ok (.iconst (-1), 1) := by decide +kernel
theorem dLooks_meaningOf_18 : decode bLooks_meaningOf 18 = .ok (.ireturn, 1) := by decide +kernel
theorem dLooks_numberOf_0 : decode bLooks_numberOf 0 = .ok (.aload_n 0, 1) := by decide +kernel
theorem dLooks_numberOf_1 : decode bLooks_numberOf 1 = .ok (.iload_n 1, 1) := by decide +kernel
theorem dLooks_numberOf_2 : decode bLooks_numberOf 2 = .ok (.invokevirtual 43, 3) := by decide +kernel
theorem dLooks_numberOf_5 : decode bLooks_numberOf 5 = .ok (.ifCond .eq 12, 3) := by decide +kernel
theorem dLooks_numberOf_8 : decode bLooks_numberOf 8 = .ok (.aload_n 0, 1) := by decide +kernel
theorem dLooks_numberOf_9 : decode bLooks_numberOf 9 = .ok (.getfield 21, 3) := by decide +kernel
theorem dLooks_numberOf_12 : decode bLooks_numberOf 12 = .ok (.iload_n 1, 1) := by decide +kernel
theorem dLooks_numberOf_13 : decode bLooks_numberOf 13 = .ok (.iaload, 1) := by decide +kernel
theorem dLooks_numberOf_14 : decode bLooks_numberOf 14 = .ok (.goto 4, 3) := by decide +kernel
theorem dLooks_numberOf_17 : decode bLooks_numberOf 17 = .ok (.iconst 0, 1) := by decide +kernel
theorem dLooks_numberOf_18 : decode bLooks_numberOf 18 = .ok (.ireturn, 1) := by decide +kernel
theorem dLooks_isFixed_0 : decode bLooks_isFixed 0 = .ok (.aload_n 0, 1) := by decide +kernel
theorem dLooks_isFixed_1 : decode bLooks_isFixed 1 = .ok (.iload_n 1, 1) := by decide +kernel
theorem dLooks_isFixed_2 : decode bLooks_isFixed 2 = .ok (.invokevirtual 43, 3) := by decide +kernel
theorem dLooks_isFixed_5 : decode bLooks_isFixed 5 = .ok (.ifCond .eq 17, 3) := by decide +kernel
theorem dLooks_isFixed_8 : decode bLooks_isFixed 8 = .ok (.aload_n 0, 1) := by decide +kernel
theorem dLooks_isFixed_9 : decode bLooks_isFixed 9 = .ok (.getfield 24, 3) := by decide +kernel
theorem dLooks_isFixed_12 : decode bLooks_isFixed 12 = .ok (.iload_n 1, 1) := by decide +kernel
theorem dLooks_isFixed_13 : decode bLooks_isFixed 13 = .ok (.iaload, 1) := by decide +kernel
theorem dLooks_isFixed_14 : decode bLooks_isFixed 14 = .ok (.iconst 1, 1) := by decide +kernel
theorem dLooks_isFixed_15 : decode bLooks_isFixed 15 = .ok (.if_icmp .ne 7, 3) := by decide +kernel
theorem dLooks_isFixed_18 : decode bLooks_isFixed 18 = .ok (.iconst 1, 1) := by decide +kernel
theorem dLooks_isFixed_19 : decode bLooks_isFixed 19 = .ok (.goto 4, 3) := by decide +kernel
theorem dLooks_isFixed_22 : decode bLooks_isFixed 22 = .ok (.iconst 0, 1) := by decide +kernel
theorem dLooks_isFixed_23 : decode bLooks_isFixed 23 = .ok (.ireturn, 1) := by decide +kernel
theorem dLooks_forget_0 : decode bLooks_forget 0 = .ok (.aload_n 0, 1) := by decide +kernel
theorem dLooks_forget_1 : decode bLooks_forget 1 = .ok (.iload_n 1, 1) := by decide +kernel
theorem dLooks_forget_2 : decode bLooks_forget 2 = .ok (.invokevirtual 43, 3) := by decide +kernel
theorem dLooks_forget_5 : decode bLooks_forget 5 = .ok (.ifCond .eq 38, 3) := by decide +kernel
theorem dLooks_forget_8 : decode bLooks_forget 8 = .ok (.aload_n 0, 1) := by decide +kernel
theorem dLooks_forget_9 : decode bLooks_forget 9 = .ok (.getfield 9, 3) := by decide +kernel
theorem dLooks_forget_12 : decode bLooks_forget 12 = .ok (.iload_n 1, 1) := by decide +kernel
theorem dLooks_forget_13 : decode bLooks_forget 13 = .ok (.iconst (-1), 1) := by decide +kernel
theorem dLooks_forget_14 : decode bLooks_forget 14 = .ok (.iastore, 1) := by decide +kernel
theorem dLooks_forget_15 : decode bLooks_forget 15 = .ok (.aload_n 0, 1) := by decide +kernel
theorem dLooks_forget_16 : decode bLooks_forget 16 = .ok (.getfield 15, 3) := by decide +kernel
theorem dLooks_forget_19 : decode bLooks_forget 19 = .ok (.iload_n 1, 1) := by decide +kernel
theorem dLooks_forget_20 : decode bLooks_forget 20 = .ok (.iconst 0, 1) := by decide +kernel
theorem dLooks_forget_21 : decode bLooks_forget 21 = .ok (.iastore, 1) := by decide +kernel
theorem dLooks_forget_22 : decode bLooks_forget 22 = .ok (.aload_n 0, 1) := by decide +kernel
theorem dLooks_forget_23 : decode bLooks_forget 23 = .ok (.getfield 18, 3) := by decide +kernel
theorem dLooks_forget_26 : decode bLooks_forget 26 = .ok (.iload_n 1, 1) := by decide +kernel
theorem dLooks_forget_27 : decode bLooks_forget 27 = .ok (.iconst (-1), 1) := by decide +kernel
theorem dLooks_forget_28 : decode bLooks_forget 28 = .ok (.iastore, 1) := by decide +kernel
theorem dLooks_forget_29 : decode bLooks_forget 29 = .ok (.aload_n 0, 1) := by decide +kernel
theorem dLooks_forget_30 : decode bLooks_forget 30 = .ok (.getfield 21, 3) := by decide +kernel
theorem dLooks_forget_33 : decode bLooks_forget 33 = .ok (.iload_n 1, 1) := by decide +kernel
theorem dLooks_forget_34 : decode bLooks_forget 34 = .ok (.iconst 0, 1) := by decide +kernel
theorem dLooks_forget_35 : decode bLooks_forget 35 = .ok (.iastore, 1) := by decide +kernel
theorem dLooks_forget_36 : decode bLooks_forget 36 = .ok (.aload_n 0, 1) := by decide +kernel
theorem dLooks_forget_37 : decode bLooks_forget 37 = .ok (.getfield 24, 3) := by decide +kernel
theorem dLooks_forget_40 : decode bLooks_forget 40 = .ok (.iload_n 1, 1) := by decide +kernel
theorem dLooks_forget_41 : decode bLooks_forget 41 = .ok (.iconst 0, 1) := by decide +kernel
theorem dLooks_forget_42 : decode bLooks_forget 42 = .ok (.iastore, 1) := by decide +kernel
theorem dLooks_forget_43 : decode bLooks_forget 43 = .ok (.return_, 1) := by decide +kernel
theorem dLooks_note_0 : decode bLooks_note 0 = .ok (.aload_n 0, 1) := by decide +kernel
theorem dLooks_note_1 : decode bLooks_note 1 = .ok (.iload_n 1, 1) := by decide +kernel
theorem dLooks_note_2 : decode bLooks_note 2 = .ok (.invokevirtual 43, 3) := by decide +kernel
theorem dLooks_note_5 : decode bLooks_note 5 = .ok (.ifCond .eq 33, 3) := by decide +kernel
theorem dLooks_note_8 : decode bLooks_note 8 = .ok (.aload_n 0, 1) := by decide +kernel
theorem dLooks_note_9 : decode bLooks_note 9 = .ok (.getfield 9, 3) := by decide +kernel
theorem dLooks_note_12 : decode bLooks_note 12 = .ok (.iload_n 1, 1) := by decide +kernel
theorem dLooks_note_13 : decode bLooks_note 13 = .ok (.iload_n 2, 1) := by decide +kernel
theorem dLooks_note_14 : decode bLooks_note 14 = .ok (.iastore, 1) := by decide +kernel
theorem dLooks_note_15 : decode bLooks_note 15 = .ok (.aload_n 0, 1) := by decide +kernel
theorem dLooks_note_16 : decode bLooks_note 16 = .ok (.getfield 15, 3) := by decide +kernel
theorem dLooks_note_19 : decode bLooks_note 19 = .ok (.iload_n 1, 1) := by decide +kernel
theorem dLooks_note_20 : decode bLooks_note 20 = .ok (.iload_n 3, 1) := by decide +kernel
theorem dLooks_note_21 : decode bLooks_note 21 = .ok (.iastore, 1) := by decide +kernel
theorem dLooks_note_22 : decode bLooks_note 22 = .ok (.aload_n 0, 1) := by decide +kernel
theorem dLooks_note_23 : decode bLooks_note 23 = .ok (.getfield 24, 3) := by decide +kernel
theorem dLooks_note_26 : decode bLooks_note 26 = .ok (.iload_n 1, 1) := by decide +kernel
theorem dLooks_note_27 : decode bLooks_note 27 = .ok (.iload 4, 2) := by decide +kernel
theorem dLooks_note_29 : decode bLooks_note 29 = .ok (.ifCond .eq 7, 3) := by decide +kernel
theorem dLooks_note_32 : decode bLooks_note 32 = .ok (.iconst 1, 1) := by decide +kernel
theorem dLooks_note_33 : decode bLooks_note 33 = .ok (.goto 4, 3) := by decide +kernel
theorem dLooks_note_36 : decode bLooks_note 36 = .ok (.iconst 0, 1) := by decide +kernel
theorem dLooks_note_37 : decode bLooks_note 37 = .ok (.iastore, 1) := by decide +kernel
theorem dLooks_note_38 : decode bLooks_note 38 = .ok (.return_, 1) := by decide +kernel
theorem dLooks_setMeaning_0 : decode bLooks_setMeaning 0 = .ok (.aload_n 0, 1) := by decide +kernel
theorem dLooks_setMeaning_1 : decode bLooks_setMeaning 1 = .ok (.iload_n 1, 1) := by decide +kernel
theorem dLooks_setMeaning_2 : decode bLooks_setMeaning 2 = .ok (.invokevirtual 43, 3) := by decide +kernel
theorem dLooks_setMeaning_5 : decode bLooks_setMeaning 5 = .ok (.ifCond .eq 10, 3) := by decide +kernel
theorem dLooks_setMeaning_8 : decode bLooks_setMeaning 8 = .ok (.aload_n 0, 1) := by decide +kernel
theorem dLooks_setMeaning_9 : decode bLooks_setMeaning 9 = .ok (.getfield 18, 3) := by decide +kernel
theorem dLooks_setMeaning_12 : decode bLooks_setMeaning 12 = .ok (.iload_n 1, 1) := by decide +kernel
theorem dLooks_setMeaning_13 : decode bLooks_setMeaning 13 = .ok (.iload_n 2, 1) := by decide +kernel
theorem dLooks_setMeaning_14 : decode bLooks_setMeaning 14 = .ok (.iastore, 1) := by decide +kernel
theorem dLooks_setMeaning_15 : decode bLooks_setMeaning 15 = .ok (.return_, 1) := by decide +kernel
theorem dLooks_setNumber_0 : decode bLooks_setNumber 0 = .ok (.aload_n 0, 1) := by decide +kernel
theorem dLooks_setNumber_1 : decode bLooks_setNumber 1 = .ok (.iload_n 1, 1) := by decide +kernel
theorem dLooks_setNumber_2 : decode bLooks_setNumber 2 = .ok (.invokevirtual 43, 3) := by decide +kernel
theorem dLooks_setNumber_5 : decode bLooks_setNumber 5 = .ok (.ifCond .eq 10, 3) := by decide +kernel
theorem dLooks_setNumber_8 : decode bLooks_setNumber 8 = .ok (.aload_n 0, 1) := by decide +kernel
theorem dLooks_setNumber_9 : decode bLooks_setNumber 9 = .ok (.getfield 21, 3) := by decide +kernel
theorem dLooks_setNumber_12 : decode bLooks_setNumber 12 = .ok (.iload_n 1, 1) := by decide +kernel
theorem dLooks_setNumber_13 : decode bLooks_setNumber 13 = .ok (.iload_n 2, 1) := by decide +kernel
theorem dLooks_setNumber_14 : decode bLooks_setNumber 14 = .ok (.iastore, 1) := by decide +kernel
theorem dLooks_setNumber_15 : decode bLooks_setNumber 15 = .ok (.return_, 1) := by decide +kernel
theorem dLooks_copy_0 : decode bLooks_copy 0 = .ok (.aload_n 0, 1) := by decide +kernel
theorem dLooks_copy_1 : decode bLooks_copy 1 = .ok (.iload_n 2, 1) := by decide +kernel
theorem dLooks_copy_2 : decode bLooks_copy 2 = .ok (.aload_n 1, 1) := by decide +kernel
theorem dLooks_copy_3 : decode bLooks_copy 3 = .ok (.iload_n 2, 1) := by decide +kernel
theorem dLooks_copy_4 : decode bLooks_copy 4 = .ok (.invokevirtual 47, 3) := by decide +kernel
theorem dLooks_copy_7 : decode bLooks_copy 7 = .ok (.aload_n 1, 1) := by decide +kernel
theorem dLooks_copy_8 : decode bLooks_copy 8 = .ok (.iload_n 2, 1) := by decide +kernel
theorem dLooks_copy_9 : decode bLooks_copy 9 = .ok (.invokevirtual 51, 3) := by decide +kernel
theorem dLooks_copy_12 : decode bLooks_copy 12 = .ok (.aload_n 1, 1) := by decide +kernel
theorem dLooks_copy_13 : decode bLooks_copy 13 = .ok (.iload_n 2, 1) := by decide +kernel
theorem dLooks_copy_14 : decode bLooks_copy 14 = .ok (.invokevirtual 54, 3) := by decide +kernel
theorem dLooks_copy_17 : decode bLooks_copy 17 = .ok (.invokevirtual 57, 3) := by decide +kernel
theorem dLooks_copy_20 : decode bLooks_copy 20 = .ok (.aload_n 0, 1) := by decide +kernel
theorem dLooks_copy_21 : decode bLooks_copy 21 = .ok (.iload_n 2, 1) := by decide +kernel
theorem dLooks_copy_22 : decode bLooks_copy 22 = .ok (.aload_n 1, 1) := by decide +kernel
theorem dLooks_copy_23 : decode bLooks_copy 23 = .ok (.iload_n 2, 1) := by decide +kernel
theorem dLooks_copy_24 : decode bLooks_copy 24 = .ok (.invokevirtual 61, 3) := by decide +kernel
theorem dLooks_copy_27 : decode bLooks_copy 27 = .ok (.invokevirtual 64, 3) := by decide +kernel
theorem dLooks_copy_30 : decode bLooks_copy 30 = .ok (.aload_n 0, 1) := by decide +kernel
theorem dLooks_copy_31 : decode bLooks_copy 31 = .ok (.iload_n 2, 1) := by decide +kernel
theorem dLooks_copy_32 : decode bLooks_copy 32 = .ok (.aload_n 1, 1) := by decide +kernel
theorem dLooks_copy_33 : decode bLooks_copy 33 = .ok (.iload_n 2, 1) := by decide +kernel
theorem dLooks_copy_34 : decode bLooks_copy 34 = .ok (.invokevirtual 68, 3) := by decide +kernel
theorem dLooks_copy_37 : decode bLooks_copy 37 = .ok (.invokevirtual 71, 3) := by decide +kernel
theorem dLooks_copy_40 : decode bLooks_copy 40 = .ok (.aload_n 0, 1) := by decide +kernel
theorem dLooks_copy_41 : decode bLooks_copy 41 = .ok (.getfield 32, 3) := by decide +kernel
theorem dLooks_copy_44 : decode bLooks_copy 44 = .ok (.iload_n 2, 1) := by decide +kernel
theorem dLooks_copy_45 : decode bLooks_copy 45 = .ok (.aload_n 1, 1) := by decide +kernel
theorem dLooks_copy_46 : decode bLooks_copy 46 = .ok (.getfield 32, 3) := by decide +kernel
theorem dLooks_copy_49 : decode bLooks_copy 49 = .ok (.iload_n 2, 1) := by decide +kernel
theorem dLooks_copy_50 : decode bLooks_copy 50 = .ok (.invokevirtual 74, 3) := by decide +kernel
theorem dLooks_copy_53 : decode bLooks_copy 53 = .ok (.return_, 1) := by decide +kernel
