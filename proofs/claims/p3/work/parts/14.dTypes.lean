theorem dTypes_init_0 : decode bTypes_init 0 = .ok (.aload_n 0, 1) := by decide +kernel
theorem dTypes_init_1 : decode bTypes_init 1 = .ok (.invokespecial 3, 3) := by decide +kernel
theorem dTypes_init_4 : decode bTypes_init 4 = .ok (.aload_n 0, 1) := by decide +kernel
theorem dTypes_init_5 : decode bTypes_init 5 = .ok (.bipush 16, 2) := by decide +kernel
theorem dTypes_init_7 : decode bTypes_init 7 = .ok (.newarray .int, 2) := by decide +kernel
theorem dTypes_init_9 : decode bTypes_init 9 = .ok (.putfield 9, 3) := by decide +kernel
theorem dTypes_init_12 : decode bTypes_init 12 = .ok (.aload_n 0, 1) := by decide +kernel
theorem dTypes_init_13 : decode bTypes_init 13 = .ok (.bipush 16, 2) := by decide +kernel
theorem dTypes_init_15 : decode bTypes_init 15 = .ok (.newarray .int, 2) := by decide +kernel
theorem dTypes_init_17 : decode bTypes_init 17 = .ok (.putfield 15, 3) := by decide +kernel
theorem dTypes_init_20 : decode bTypes_init 20 = .ok (.aload_n 0, 1) := by decide +kernel
theorem dTypes_init_21 : decode bTypes_init 21 = .ok (.bipush 16, 2) := by decide +kernel
theorem dTypes_init_23 : decode bTypes_init 23 = .ok (.newarray .int, 2) := by decide +kernel
theorem dTypes_init_25 : decode bTypes_init 25 = .ok (.putfield 18, 3) := by decide +kernel
theorem dTypes_init_28 : decode bTypes_init 28 = .ok (.aload_n 0, 1) := by decide +kernel
theorem dTypes_init_29 : decode bTypes_init 29 = .ok (.bipush 16, 2) := by decide +kernel
theorem dTypes_init_31 : decode bTypes_init 31 = .ok (.newarray .int, 2) := by decide +kernel
theorem dTypes_init_33 : decode bTypes_init 33 = .ok (.putfield 21, 3) := by decide +kernel
theorem dTypes_init_36 : decode bTypes_init 36 = .ok (.aload_n 0, 1) := by decide +kernel
theorem dTypes_init_37 : decode bTypes_init 37 = .ok (.iconst 0, 1) := by decide +kernel
theorem dTypes_init_38 : decode bTypes_init 38 = .ok (.putfield 24, 3) := by decide +kernel
theorem dTypes_init_41 : decode bTypes_init 41 = .ok (.aload_n 0, 1) := by decide +kernel
theorem dTypes_init_42 : decode bTypes_init 42 = .ok (.iconst 0, 1) := by decide +kernel
theorem dTypes_init_43 : decode bTypes_init 43 = .ok (.iconst 0, 1) := by decide +kernel
theorem dTypes_init_44 : decode bTypes_init 44 = .ok (.iconst 0, 1) := by decide +kernel
theorem dTypes_init_45 : decode bTypes_init 45 = .ok (.iconst 0, 1) := by decide +kernel
theorem dTypes_init_46 : decode bTypes_init 46 = .ok (.invokevirtual 28, 3) := by decide +kernel
theorem dTypes_init_49 : decode bTypes_init 49 = .ok (.pop, 1) := by decide +kernel
theorem dTypes_init_50 : decode bTypes_init 50 = .ok (.aload_n 0, 1) := by decide +kernel
theorem dTypes_init_51 : decode bTypes_init 51 = .ok (.iconst 1, 1) := by decide +kernel
theorem dTypes_init_52 : decode bTypes_init 52 = .ok (.iconst 0, 1) := by decide +kernel
theorem dTypes_init_53 : decode bTypes_init 53 = .ok (.iconst 0, 1) := by decide +kernel
theorem dTypes_init_54 : decode bTypes_init 54 = .ok (.iconst 0, 1) := by decide +kernel
theorem dTypes_init_55 : decode bTypes_init 55 = .ok (.invokevirtual 28, 3) := by decide +kernel
theorem dTypes_init_58 : decode bTypes_init 58 = .ok (.pop, 1) := by decide +kernel
theorem dTypes_init_59 : decode bTypes_init 59 = .ok (.aload_n 0, 1) := by decide +kernel
theorem dTypes_init_60 : decode bTypes_init 60 = .ok (.iconst 2, 1) := by decide +kernel
theorem dTypes_init_61 : decode bTypes_init 61 = .ok (.ldc 32, 2) := by decide +kernel
theorem dTypes_init_63 : decode bTypes_init 63 = .ok (.ldc 33, 2) := by decide +kernel
theorem dTypes_init_65 : decode bTypes_init 65 = .ok (.iconst 0, 1) := by decide +kernel
theorem dTypes_init_66 : decode bTypes_init 66 = .ok (.invokevirtual 28, 3) := by decide +kernel
theorem dTypes_init_69 : decode bTypes_init 69 = .ok (.pop, 1) := by decide +kernel
theorem dTypes_init_70 : decode bTypes_init 70 = .ok (.aload_n 0, 1) := by decide +kernel
theorem dTypes_init_71 : decode bTypes_init 71 = .ok (.iconst 2, 1) := by decide +kernel
theorem dTypes_init_72 : decode bTypes_init 72 = .ok (.iconst 0, 1) := by decide +kernel
theorem dTypes_init_73 : decode bTypes_init 73 = .ok (.ldc 33, 2) := by decide +kernel
theorem dTypes_init_75 : decode bTypes_init 75 = .ok (.iconst 0, 1) := by decide +kernel
theorem dTypes_init_76 : decode bTypes_init 76 = .ok (.invokevirtual 28, 3) := by decide +kernel
theorem dTypes_init_79 : decode bTypes_init 79 = .ok (.pop, 1) := by decide +kernel
theorem dTypes_init_80 : decode bTypes_init 80 = .ok (.aload_n 0, 1) := by decide +kernel
theorem dTypes_init_81 : decode bTypes_init 81 = .ok (.iconst 2, 1) := by decide +kernel
theorem dTypes_init_82 : decode bTypes_init 82 = .ok (.iconst 1, 1) := by decide +kernel
theorem dTypes_init_83 : decode bTypes_init 83 = .ok (.ldc 33, 2) := by decide +kernel
theorem dTypes_init_85 : decode bTypes_init 85 = .ok (.iconst 0, 1) := by decide +kernel
theorem dTypes_init_86 : decode bTypes_init 86 = .ok (.invokevirtual 28, 3) := by decide +kernel
theorem dTypes_init_89 : decode bTypes_init 89 = .ok (.pop, 1) := by decide +kernel
theorem dTypes_init_90 : decode bTypes_init 90 = .ok (.return_, 1) := by decide +kernel
theorem dTypes_has_0 : decode bTypes_has 0 = .ok (.iload_n 1, 1) := by decide +kernel
theorem dTypes_has_1 : decode bTypes_has 1 = .ok (.ifCond .lt 15, 3) := by decide +kernel
theorem dTypes_has_4 : decode bTypes_has 4 = .ok (.iload_n 1, 1) := by decide +kernel
theorem dTypes_has_5 : decode bTypes_has 5 = .ok (.aload_n 0, 1) := by decide +kernel
theorem dTypes_has_6 : decode bTypes_has 6 = .ok (.getfield 24, 3) := by decide +kernel
theorem dTypes_has_9 : decode bTypes_has 9 = .ok (.if_icmp .ge 7, 3) := by decide +kernel
theorem dTypes_has_12 : decode bTypes_has 12 = .ok (.iconst 1, 1) := by decide +kernel
theorem dTypes_has_13 : decode bTypes_has 13 = .ok (.goto 4, 3) := by decide +kernel
theorem dTypes_has_16 : decode bTypes_has 16 = .ok (.iconst 0, 1) := by decide +kernel
theorem dTypes_has_17 : decode bTypes_has 17 = .ok (.ireturn, 1) := by decide +kernel
theorem dTypes_classOf_0 : decode bTypes_classOf 0 = .ok (.aload_n 0, 1) := by decide +kernel
theorem dTypes_classOf_1 : decode bTypes_classOf 1 = .ok (.iload_n 1, 1) := by decide +kernel
theorem dTypes_classOf_2 : decode bTypes_classOf 2 = .ok (.invokevirtual 34, 3) := by decide +kernel
theorem dTypes_classOf_5 : decode bTypes_classOf 5 = .ok (.ifCond .eq 12, 3) := by decide +kernel
theorem dTypes_classOf_8 : decode bTypes_classOf 8 = .ok (.aload_n 0, 1) := by decide +kernel
theorem dTypes_classOf_9 : decode bTypes_classOf 9 = .ok (.getfield 9, 3) := by decide +kernel
theorem dTypes_classOf_12 : decode bTypes_classOf 12 = .ok (.iload_n 1, 1) := by decide +kernel
theorem dTypes_classOf_13 : decode bTypes_classOf 13 = .ok (.iaload, 1) := by decide +kernel
theorem dTypes_classOf_14 : decode bTypes_classOf 14 = .ok (.goto 4, 3) := by decide +kernel
theorem dTypes_classOf_17 : decode bTypes_classOf 17 = .ok (.iconst (-1), 1) := by decide +kernel
theorem dTypes_classOf_18 : decode bTypes_classOf 18 = .ok (.ireturn, 1) := by decide +kernel
theorem dTypes_leftOf_0 : decode bTypes_leftOf 0 = .ok (.aload_n 0, 1) := by decide +kernel
theorem dTypes_leftOf_1 : decode bTypes_leftOf 1 = .ok (.iload_n 1, 1) := by decide +kernel
theorem dTypes_leftOf_2 : decode bTypes_leftOf 2 = .ok (.invokevirtual 34, 3) := by decide +kernel
theorem dTypes_leftOf_5 : decode bTypes_leftOf 5 = .ok (.ifCond .eq 12, 3) := by decide +kernel
theorem dTypes_leftOf_8 : decode bTypes_leftOf 8 = .ok (.aload_n 0, 1) := by decide +kernel
theorem dTypes_leftOf_9 : decode bTypes_leftOf 9 = .ok (.getfield 15, 3) := by decide +kernel
theorem dTypes_leftOf_12 : decode bTypes_leftOf 12 = .ok (.iload_n 1, 1) := by decide +kernel
theorem dTypes_leftOf_13 : decode bTypes_leftOf 13 = .ok (.iaload, 1) := by decide +kernel
theorem dTypes_leftOf_14 : decode bTypes_leftOf 14 = .ok (.goto 4, 3) := by decide +kernel
theorem dTypes_leftOf_17 : decode bTypes_leftOf 17 = .ok (.iconst 0, 1) := by decide +kernel
theorem dTypes_leftOf_18 : decode bTypes_leftOf 18 = .ok (.ireturn, 1) := by decide +kernel
theorem dTypes_rightOf_0 : decode bTypes_rightOf 0 = .ok (.aload_n 0, 1) := by decide +kernel
theorem dTypes_rightOf_1 : decode bTypes_rightOf 1 = .ok (.iload_n 1, 1) := by decide +kernel
theorem dTypes_rightOf_2 : decode bTypes_rightOf 2 = .ok (.invokevirtual 34, 3) := by decide +kernel
theorem dTypes_rightOf_5 : decode bTypes_rightOf 5 = .ok (.ifCond .eq 12, 3) := by decide +kernel
theorem dTypes_rightOf_8 : decode bTypes_rightOf 8 = .ok (.aload_n 0, 1) := by decide +kernel
theorem dTypes_rightOf_9 : decode bTypes_rightOf 9 = .ok (.getfield 18, 3) := by decide +kernel
theorem dTypes_rightOf_12 : decode bTypes_rightOf 12 = .ok (.iload_n 1, 1) := by decide +kernel
theorem dTypes_rightOf_13 : decode bTypes_rightOf 13 = .ok (.iaload, 1) := by decide +kernel
theorem dTypes_rightOf_14 : decode bTypes_rightOf 14 = .ok (.goto 4, 3) := by decide +kernel
theorem dTypes_rightOf_17 : decode bTypes_rightOf 17 = .ok (.iconst 0, 1) := by decide +kernel
theorem dTypes_rightOf_18 : decode bTypes_rightOf 18 = .ok (.ireturn, 1) := by decide +kernel
theorem dTypes_countOf_0 : decode bTypes_countOf 0 = .ok (.aload_n 0, 1) := by decide +kernel
theorem dTypes_countOf_1 : decode bTypes_countOf 1 = .ok (.iload_n 1, 1) := by decide +kernel
theorem dTypes_countOf_2 : decode bTypes_countOf 2 = .ok (.invokevirtual 34, 3) := by decide +kernel
theorem dTypes_countOf_5 : decode bTypes_countOf 5 = .ok (.ifCond .eq 15, 3) := by decide +kernel
theorem dTypes_countOf_8 : decode bTypes_countOf 8 = .ok (.aload_n 0, 1) := by decide +kernel
theorem dTypes_countOf_9 : decode bTypes_countOf 9 = .ok (.getfield 21, 3) := by decide +kernel
theorem dTypes_countOf_12 : decode bTypes_countOf 12 = .ok (.iload_n 1, 1) := by decide +kernel
theorem dTypes_countOf_13 : decode bTypes_countOf 13 = .ok (.iaload, 1) := by decide +kernel
theorem dTypes_countOf_14 : decode bTypes_countOf 14 = .ok (.invokestatic 38, 3) := by decide +kernel
theorem dTypes_countOf_17 : decode bTypes_countOf 17 = .ok (.goto 4, 3) := by decide +kernel
theorem dTypes_countOf_20 : decode bTypes_countOf 20 = .ok (.iconst 0, 1) := by decide +kernel
theorem dTypes_countOf_21 : decode bTypes_countOf 21 = .ok (.ireturn, 1) := by decide +kernel
theorem dTypes_goesDown_0 : decode bTypes_goesDown 0 = .ok (.aload_n 0, 1) := by decide +kernel
theorem dTypes_goesDown_1 : decode bTypes_goesDown 1 = .ok (.iload_n 1, 1) := by decide +kernel
theorem dTypes_goesDown_2 : decode bTypes_goesDown 2 = .ok (.invokevirtual 34, 3) := by decide +kernel
theorem dTypes_goesDown_5 : decode bTypes_goesDown 5 = .ok (.ifCond .eq 16, 3) := by decide +kernel
theorem dTypes_goesDown_8 : decode bTypes_goesDown 8 = .ok (.aload_n 0, 1) := by decide +kernel
theorem dTypes_goesDown_9 : decode bTypes_goesDown 9 = .ok (.getfield 21, 3) := by decide +kernel
theorem dTypes_goesDown_12 : decode bTypes_goesDown 12 = .ok (.iload_n 1, 1) := by decide +kernel
theorem dTypes_goesDown_13 : decode bTypes_goesDown 13 = .ok (.iaload, 1) := by decide +kernel
theorem dTypes_goesDown_14 : decode bTypes_goesDown 14 = .ok (.ifCond .ge 7, 3) := by decide +kernel
theorem dTypes_goesDown_17 : decode bTypes_goesDown 17 = .ok (.iconst 1, 1) := by decide +kernel
theorem dTypes_goesDown_18 : decode bTypes_goesDown 18 = .ok (.goto 4, 3) := by decide +kernel
theorem dTypes_goesDown_21 : decode bTypes_goesDown 21 = .ok (.iconst 0, 1) := by decide +kernel
theorem dTypes_goesDown_22 : decode bTypes_goesDown 22 = .ok (.ireturn, 1) := by decide +kernel
theorem dTypes_extentOf_0 : decode bTypes_extentOf 0 = .ok (.aload_n 0, 1) := by decide +kernel
theorem dTypes_extentOf_1 : decode bTypes_extentOf 1 = .ok (.iload_n 1, 1) := by decide +kernel
theorem dTypes_extentOf_2 : decode bTypes_extentOf 2 = .ok (.invokevirtual 44, 3) := by decide +kernel
theorem dTypes_extentOf_5 : decode bTypes_extentOf 5 = .ok (.istore_n 2, 1) := by decide +kernel
theorem dTypes_extentOf_6 : decode bTypes_extentOf 6 = .ok (.iload_n 2, 1) := by decide +kernel
theorem dTypes_extentOf_7 : decode bTypes_extentOf 7 = .ok (.iconst 3, 1) := by decide +kernel
theorem dTypes_extentOf_8 : decode bTypes_extentOf 8 = .ok (.if_icmp .ne 11, 3) := by decide +kernel
theorem dTypes_extentOf_11 : decode bTypes_extentOf 11 = .ok (.aload_n 0, 1) := by decide +kernel
theorem dTypes_extentOf_12 : decode bTypes_extentOf 12 = .ok (.iload_n 1, 1) := by decide +kernel
theorem dTypes_extentOf_13 : decode bTypes_extentOf 13 = .ok (.invokevirtual 47, 3) := by decide +kernel
theorem dTypes_extentOf_16 : decode bTypes_extentOf 16 = .ok (.goto 13, 3) := by decide +kernel
theorem dTypes_extentOf_19 : decode bTypes_extentOf 19 = .ok (.iload_n 2, 1) := by decide +kernel
theorem dTypes_extentOf_20 : decode bTypes_extentOf 20 = .ok (.iconst 4, 1) := by decide +kernel
theorem dTypes_extentOf_21 : decode bTypes_extentOf 21 = .ok (.if_icmp .ne 7, 3) := by decide +kernel
theorem dTypes_extentOf_24 : decode bTypes_extentOf 24 = .ok (.iload_n 1, 1) := by decide +kernel
theorem dTypes_extentOf_25 : decode bTypes_extentOf 25 = .ok (.goto 4, 3) := by decide +kernel
theorem dTypes_extentOf_28 : decode bTypes_extentOf 28 = .ok (.iconst 0, 1) := by decide +kernel
theorem dTypes_extentOf_29 : decode bTypes_extentOf 29 = .ok (.ireturn, 1) := by decide +kernel
theorem dTypes_fromRight_0 : decode bTypes_fromRight 0 = .ok (.aload_n 0, 1) := by decide +kernel
theorem dTypes_fromRight_1 : decode bTypes_fromRight 1 = .ok (.iload_n 1, 1) := by decide +kernel
theorem dTypes_fromRight_2 : decode bTypes_fromRight 2 = .ok (.invokevirtual 50, 3) := by decide +kernel
theorem dTypes_fromRight_5 : decode bTypes_fromRight 5 = .ok (.ifCond .eq 15, 3) := by decide +kernel
theorem dTypes_fromRight_8 : decode bTypes_fromRight 8 = .ok (.iload_n 2, 1) := by decide +kernel
theorem dTypes_fromRight_9 : decode bTypes_fromRight 9 = .ok (.i2l, 1) := by decide +kernel
theorem dTypes_fromRight_10 : decode bTypes_fromRight 10 = .ok (.aload_n 0, 1) := by decide +kernel
theorem dTypes_fromRight_11 : decode bTypes_fromRight 11 = .ok (.iload_n 1, 1) := by decide +kernel
theorem dTypes_fromRight_12 : decode bTypes_fromRight 12 = .ok (.invokevirtual 53, 3) := by decide +kernel
theorem dTypes_fromRight_15 : decode bTypes_fromRight 15 = .ok (.i2l, 1) := by decide +kernel
theorem dTypes_fromRight_16 : decode bTypes_fromRight 16 = .ok (.lsub, 1) := by decide +kernel
theorem dTypes_fromRight_17 : decode bTypes_fromRight 17 = .ok (.goto 12, 3) := by decide +kernel
theorem dTypes_fromRight_20 : decode bTypes_fromRight 20 = .ok (.aload_n 0, 1) := by decide +kernel
theorem dTypes_fromRight_21 : decode bTypes_fromRight 21 = .ok (.iload_n 1, 1) := by decide +kernel
theorem dTypes_fromRight_22 : decode bTypes_fromRight 22 = .ok (.invokevirtual 53, 3) := by decide +kernel
theorem dTypes_fromRight_25 : decode bTypes_fromRight 25 = .ok (.i2l, 1) := by decide +kernel
theorem dTypes_fromRight_26 : decode bTypes_fromRight 26 = .ok (.iload_n 2, 1) := by decide +kernel
theorem dTypes_fromRight_27 : decode bTypes_fromRight 27 = .ok (.i2l, 1) := by decide +kernel
theorem dTypes_fromRight_28 : decode bTypes_fromRight 28 = .ok (.lsub, 1) := by decide +kernel
theorem dTypes_fromRight_29 : decode bTypes_fromRight 29 = .ok (.lstore_n 3, 1) := by decide +kernel
theorem dTypes_fromRight_30 : decode bTypes_fromRight 30 = .ok (.lload_n 3, 1) := by decide +kernel
theorem dTypes_fromRight_31 : decode bTypes_fromRight 31 = .ok (.lconst 0, 1) := by decide +kernel
theorem dTypes_fromRight_32 : decode bTypes_fromRight 32 = .ok (.lcmp, 1) := by decide +kernel
theorem dTypes_fromRight_33 : decode bTypes_fromRight 33 = .ok (.ifCond .lt 19, 3) := by decide +kernel
theorem dTypes_fromRight_36 : decode bTypes_fromRight 36 = .ok (.lload_n 3, 1) := by decide +kernel
theorem dTypes_fromRight_37 : decode bTypes_fromRight 37 = .ok (.aload_n 0, 1) := by decide +kernel
theorem dTypes_fromRight_38 : decode bTypes_fromRight 38 = .ok (.iload_n 1, 1) := by decide +kernel
theorem dTypes_fromRight_39 : decode bTypes_fromRight 39 = .ok (.invokevirtual 47, 3) := by decide +kernel
theorem dTypes_fromRight_42 : decode bTypes_fromRight 42 = .ok (.i2l, 1) := by decide +kernel
theorem dTypes_fromRight_43 : decode bTypes_fromRight 43 = .ok (.lcmp, 1) := by decide +kernel
theorem dTypes_fromRight_44 : decode bTypes_fromRight 44 = .ok (.ifCond .ge 8, 3) := by decide +kernel
theorem dTypes_fromRight_47 : decode bTypes_fromRight 47 = .ok (.lload_n 3, 1) := by decide +kernel
theorem dTypes_fromRight_48 : decode bTypes_fromRight 48 = .ok (.l2i, 1) := by decide +kernel
theorem dTypes_fromRight_49 : decode bTypes_fromRight 49 = .ok (.goto 4, 3) := by decide +kernel
theorem dTypes_fromRight_52 : decode bTypes_fromRight 52 = .ok (.iconst (-1), 1) := by decide +kernel
theorem dTypes_fromRight_53 : decode bTypes_fromRight 53 = .ok (.ireturn, 1) := by decide +kernel
theorem dTypes_put_0 : decode bTypes_put 0 = .ok (.aload_n 0, 1) := by decide +kernel
theorem dTypes_put_1 : decode bTypes_put 1 = .ok (.aload_n 0, 1) := by decide +kernel
theorem dTypes_put_2 : decode bTypes_put 2 = .ok (.getfield 9, 3) := by decide +kernel
theorem dTypes_put_5 : decode bTypes_put 5 = .ok (.aload_n 0, 1) := by decide +kernel
theorem dTypes_put_6 : decode bTypes_put 6 = .ok (.getfield 24, 3) := by decide +kernel
theorem dTypes_put_9 : decode bTypes_put 9 = .ok (.iconst 1, 1) := by decide +kernel
theorem dTypes_put_10 : decode bTypes_put 10 = .ok (.iadd, 1) := by decide +kernel
theorem dTypes_put_11 : decode bTypes_put 11 = .ok (.invokestatic 56, 3) := by decide +kernel
theorem dTypes_put_14 : decode bTypes_put 14 = .ok (.putfield 9, 3) := by decide +kernel
theorem dTypes_put_17 : decode bTypes_put 17 = .ok (.aload_n 0, 1) := by decide +kernel
theorem dTypes_put_18 : decode bTypes_put 18 = .ok (.aload_n 0, 1) := by decide +kernel
theorem dTypes_put_19 : decode bTypes_put 19 = .ok (.getfield 15, 3) := by decide +kernel
theorem dTypes_put_22 : decode bTypes_put 22 = .ok (.aload_n 0, 1) := by decide +kernel
theorem dTypes_put_23 : decode bTypes_put 23 = .ok (.getfield 24, 3) := by decide +kernel
theorem dTypes_put_26 : decode bTypes_put 26 = .ok (.iconst 1, 1) := by decide +kernel
theorem dTypes_put_27 : decode bTypes_put 27 = .ok (.iadd, 1) := by decide +kernel
theorem dTypes_put_28 : decode bTypes_put 28 = .ok (.invokestatic 56, 3) := by decide +kernel
theorem dTypes_put_31 : decode bTypes_put 31 = .ok (.putfield 15, 3) := by decide +kernel
theorem dTypes_put_34 : decode bTypes_put 34 = .ok (.aload_n 0, 1) := by decide +kernel
theorem dTypes_put_35 : decode bTypes_put 35 = .ok (.aload_n 0, 1) := by decide +kernel
theorem dTypes_put_36 : decode bTypes_put 36 = .ok (.getfield 18, 3) := by decide +kernel
theorem dTypes_put_39 : decode bTypes_put 39 = .ok (.aload_n 0, 1) := by decide +kernel
theorem dTypes_put_40 : decode bTypes_put 40 = .ok (.getfield 24, 3) := by decide +kernel
theorem dTypes_put_43 : decode bTypes_put 43 = .ok (.iconst 1, 1) := by decide +kernel
theorem dTypes_put_44 : decode bTypes_put 44 = .ok (.iadd, 1) := by decide +kernel
theorem dTypes_put_45 : decode bTypes_put 45 = .ok (.invokestatic 56, 3) := by decide +kernel
theorem dTypes_put_48 : decode bTypes_put 48 = .ok (.putfield 18, 3) := by decide +kernel
theorem dTypes_put_51 : decode bTypes_put 51 = .ok (.aload_n 0, 1) := by decide +kernel
theorem dTypes_put_52 : decode bTypes_put 52 = .ok (.aload_n 0, 1) := by decide +kernel
theorem dTypes_put_53 : decode bTypes_put 53 = .ok (.getfield 21, 3) := by decide +kernel
theorem dTypes_put_56 : decode bTypes_put 56 = .ok (.aload_n 0, 1) := by decide +kernel
theorem dTypes_put_57 : decode bTypes_put 57 = .ok (.getfield 24, 3) := by decide +kernel
theorem dTypes_put_60 : decode bTypes_put 60 = .ok (.iconst 1, 1) := by decide +kernel
theorem dTypes_put_61 : decode bTypes_put 61 = .ok (.iadd, 1) := by decide +kernel
theorem dTypes_put_62 : decode bTypes_put 62 = .ok (.invokestatic 56, 3) := by decide +kernel
theorem dTypes_put_65 : decode bTypes_put 65 = .ok (.putfield 21, 3) := by decide +kernel
theorem dTypes_put_68 : decode bTypes_put 68 = .ok (.aload_n 0, 1) := by decide +kernel
theorem dTypes_put_69 : decode bTypes_put 69 = .ok (.getfield 9, 3) := by decide +kernel
theorem dTypes_put_72 : decode bTypes_put 72 = .ok (.aload_n 0, 1) := by decide +kernel
theorem dTypes_put_73 : decode bTypes_put 73 = .ok (.getfield 24, 3) := by decide +kernel
theorem dTypes_put_76 : decode bTypes_put 76 = .ok (.iload_n 1, 1) := by decide +kernel
theorem dTypes_put_77 : decode bTypes_put 77 = .ok (.iastore, 1) := by decide +kernel
theorem dTypes_put_78 : decode bTypes_put 78 = .ok (.aload_n 0, 1) := by decide +kernel
theorem dTypes_put_79 : decode bTypes_put 79 = .ok (.getfield 15, 3) := by decide +kernel
theorem dTypes_put_82 : decode bTypes_put 82 = .ok (.aload_n 0, 1) := by decide +kernel
theorem dTypes_put_83 : decode bTypes_put 83 = .ok (.getfield 24, 3) := by decide +kernel
theorem dTypes_put_86 : decode bTypes_put 86 = .ok (.iload_n 2, 1) := by decide +kernel
theorem dTypes_put_87 : decode bTypes_put 87 = .ok (.iastore, 1) := by decide +kernel
theorem dTypes_put_88 : decode bTypes_put 88 = .ok (.aload_n 0, 1) := by decide +kernel
theorem dTypes_put_89 : decode bTypes_put 89 = .ok (.getfield 18, 3) := by decide +kernel
theorem dTypes_put_92 : decode bTypes_put 92 = .ok (.aload_n 0, 1) := by decide +kernel
theorem dTypes_put_93 : decode bTypes_put 93 = .ok (.getfield 24, 3) := by decide +kernel
theorem dTypes_put_96 : decode bTypes_put 96 = .ok (.iload_n 3, 1) := by decide +kernel
theorem dTypes_put_97 : decode bTypes_put 97 = .ok (.iastore, 1) := by decide +kernel
theorem dTypes_put_98 : decode bTypes_put 98 = .ok (.aload_n 0, 1) := by decide +kernel
theorem dTypes_put_99 : decode bTypes_put 99 = .ok (.getfield 21, 3) := by decide +kernel
theorem dTypes_put_102 : decode bTypes_put 102 = .ok (.aload_n 0, 1) := by decide +kernel
theorem dTypes_put_103 : decode bTypes_put 103 = .ok (.getfield 24, 3) := by decide +kernel
theorem dTypes_put_106 : decode bTypes_put 106 = .ok (.iload 4, 2) := by decide +kernel
theorem dTypes_put_108 : decode bTypes_put 108 = .ok (.iastore, 1) := by decide +kernel
theorem dTypes_put_109 : decode bTypes_put 109 = .ok (.aload_n 0, 1) := by decide +kernel
theorem dTypes_put_110 : decode bTypes_put 110 = .ok (.dup, 1) := by decide +kernel
theorem dTypes_put_111 : decode bTypes_put 111 = .ok (.getfield 24, 3) := by decide +kernel
theorem dTypes_put_114 : decode bTypes_put 114 = .ok (.iconst 1, 1) := by decide +kernel
theorem dTypes_put_115 : decode bTypes_put 115 = .ok (.iadd, 1) := by decide +kernel
theorem dTypes_put_116 : decode bTypes_put 116 = .ok (.putfield 24, 3) := by decide +kernel
theorem dTypes_put_119 : decode bTypes_put 119 = .ok (.aload_n 0, 1) := by decide +kernel
theorem dTypes_put_120 : decode bTypes_put 120 = .ok (.getfield 24, 3) := by decide +kernel
theorem dTypes_put_123 : decode bTypes_put 123 = .ok (.iconst 1, 1) := by decide +kernel
theorem dTypes_put_124 : decode bTypes_put 124 = .ok (.isub, 1) := by decide +kernel
theorem dTypes_put_125 : decode bTypes_put 125 = .ok (.ireturn, 1) := by decide +kernel
