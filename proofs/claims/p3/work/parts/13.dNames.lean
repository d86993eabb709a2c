theorem dNames_init_0 : decode bNames_init 0 = .ok (.aload_n 0, 1) := by decide +kernel
theorem dNames_init_1 : decode bNames_init 1 = .ok (.invokespecial 3, 3) := by decide +kernel
theorem dNames_init_4 : decode bNames_init 4 = .ok (.aload_n 0, 1) := by decide +kernel
theorem dNames_init_5 : decode bNames_init 5 = .ok (.bipush 64, 2) := by decide +kernel
theorem dNames_init_7 : decode bNames_init 7 = .ok (.newarray .int, 2) := by decide +kernel
theorem dNames_init_9 : decode bNames_init 9 = .ok (.putfield 9, 3) := by decide +kernel
theorem dNames_init_12 : decode bNames_init 12 = .ok (.aload_n 0, 1) := by decide +kernel
theorem dNames_init_13 : decode bNames_init 13 = .ok (.bipush 64, 2) := by decide +kernel
theorem dNames_init_15 : decode bNames_init 15 = .ok (.newarray .int, 2) := by decide +kernel
theorem dNames_init_17 : decode bNames_init 17 = .ok (.putfield 15, 3) := by decide +kernel
theorem dNames_init_20 : decode bNames_init 20 = .ok (.aload_n 0, 1) := by decide +kernel
theorem dNames_init_21 : decode bNames_init 21 = .ok (.bipush 64, 2) := by decide +kernel
theorem dNames_init_23 : decode bNames_init 23 = .ok (.newarray .int, 2) := by decide +kernel
theorem dNames_init_25 : decode bNames_init 25 = .ok (.putfield 18, 3) := by decide +kernel
theorem dNames_init_28 : decode bNames_init 28 = .ok (.aload_n 0, 1) := by decide +kernel
theorem dNames_init_29 : decode bNames_init 29 = .ok (.bipush 64, 2) := by decide +kernel
theorem dNames_init_31 : decode bNames_init 31 = .ok (.newarray .int, 2) := by decide +kernel
theorem dNames_init_33 : decode bNames_init 33 = .ok (.putfield 21, 3) := by decide +kernel
theorem dNames_init_36 : decode bNames_init 36 = .ok (.aload_n 0, 1) := by decide +kernel
theorem dNames_init_37 : decode bNames_init 37 = .ok (.bipush 64, 2) := by decide +kernel
theorem dNames_init_39 : decode bNames_init 39 = .ok (.newarray .int, 2) := by decide +kernel
theorem dNames_init_41 : decode bNames_init 41 = .ok (.putfield 24, 3) := by decide +kernel
theorem dNames_init_44 : decode bNames_init 44 = .ok (.aload_n 0, 1) := by decide +kernel
theorem dNames_init_45 : decode bNames_init 45 = .ok (.sipush 256, 3) := by decide +kernel
theorem dNames_init_48 : decode bNames_init 48 = .ok (.newarray .int, 2) := by decide +kernel
theorem dNames_init_50 : decode bNames_init 50 = .ok (.putfield 27, 3) := by decide +kernel
theorem dNames_init_53 : decode bNames_init 53 = .ok (.aload_n 0, 1) := by decide +kernel
theorem dNames_init_54 : decode bNames_init 54 = .ok (.bipush 32, 2) := by decide +kernel
theorem dNames_init_56 : decode bNames_init 56 = .ok (.newarray .int, 2) := by decide +kernel
theorem dNames_init_58 : decode bNames_init 58 = .ok (.putfield 30, 3) := by decide +kernel
theorem dNames_init_61 : decode bNames_init 61 = .ok (.aload_n 0, 1) := by decide +kernel
theorem dNames_init_62 : decode bNames_init 62 = .ok (.iconst 0, 1) := by decide +kernel
theorem dNames_init_63 : decode bNames_init 63 = .ok (.putfield 33, 3) := by decide +kernel
theorem dNames_init_66 : decode bNames_init 66 = .ok (.aload_n 0, 1) := by decide +kernel
theorem dNames_init_67 : decode bNames_init 67 = .ok (.iconst 1, 1) := by decide +kernel
theorem dNames_init_68 : decode bNames_init 68 = .ok (.putfield 37, 3) := by decide +kernel
theorem dNames_init_71 : decode bNames_init 71 = .ok (.aload_n 0, 1) := by decide +kernel
theorem dNames_init_72 : decode bNames_init 72 = .ok (.getfield 27, 3) := by decide +kernel
theorem dNames_init_75 : decode bNames_init 75 = .ok (.iconst (-1), 1) := by decide +kernel
theorem dNames_init_76 : decode bNames_init 76 = .ok (.invokestatic 40, 3) := by decide +kernel
theorem dNames_init_79 : decode bNames_init 79 = .ok (.iconst 0, 1) := by decide +kernel
theorem dNames_init_80 : decode bNames_init 80 = .ok (.istore_n 1, 1) := by decide +kernel
theorem dNames_init_81 : decode bNames_init 81 = .ok (.iload_n 1, 1) := by decide +kernel
theorem dNames_init_82 : decode bNames_init 82 = .ok (.getstatic 46, 3) := by decide +kernel
theorem dNames_init_85 : decode bNames_init 85 = .ok (.arraylength, 1) := by decide +kernel
theorem dNames_init_86 : decode bNames_init 86 = .ok (.if_icmp .ge 25, 3) := by decide +kernel
theorem dNames_init_89 : decode bNames_init 89 = .ok (.aload_n 0, 1) := by decide +kernel
theorem dNames_init_90 : decode bNames_init 90 = .ok (.iload_n 1, 1) := by decide +kernel
theorem dNames_init_91 : decode bNames_init 91 = .ok (.getstatic 46, 3) := by decide +kernel
theorem dNames_init_94 : decode bNames_init 94 = .ok (.iload_n 1, 1) := by decide +kernel
theorem dNames_init_95 : decode bNames_init 95 = .ok (.iaload, 1) := by decide +kernel
theorem dNames_init_96 : decode bNames_init 96 = .ok (.getstatic 49, 3) := by decide +kernel
theorem dNames_init_99 : decode bNames_init 99 = .ok (.iload_n 1, 1) := by decide +kernel
theorem dNames_init_100 : decode bNames_init 100 = .ok (.iaload, 1) := by decide +kernel
theorem dNames_init_101 : decode bNames_init 101 = .ok (.iconst 0, 1) := by decide +kernel
theorem dNames_init_102 : decode bNames_init 102 = .ok (.invokevirtual 52, 3) := by decide +kernel
theorem dNames_init_105 : decode bNames_init 105 = .ok (.iinc 1 1, 3) := by decide +kernel
theorem dNames_init_108 : decode bNames_init 108 = .ok (.goto (-27), 3) := by decide +kernel
theorem dNames_init_111 : decode bNames_init 111 = .ok (.aload_n 0, 1) := by decide +kernel
theorem dNames_init_112 : decode bNames_init 112 = .ok (.getfield 30, 3) := by decide +kernel
theorem dNames_init_115 : decode bNames_init 115 = .ok (.iconst 0, 1) := by decide +kernel
theorem dNames_init_116 : decode bNames_init 116 = .ok (.aload_n 0, 1) := by decide +kernel
theorem dNames_init_117 : decode bNames_init 117 = .ok (.getfield 33, 3) := by decide +kernel
theorem dNames_init_120 : decode bNames_init 120 = .ok (.iastore, 1) := by decide +kernel
theorem dNames_init_121 : decode bNames_init 121 = .ok (.return_, 1) := by decide +kernel
theorem dNames_has_0 : decode bNames_has 0 = .ok (.iload_n 1, 1) := by decide +kernel
theorem dNames_has_1 : decode bNames_has 1 = .ok (.ifCond .lt 15, 3) := by decide +kernel
theorem dNames_has_4 : decode bNames_has 4 = .ok (.iload_n 1, 1) := by decide +kernel
theorem dNames_has_5 : decode bNames_has 5 = .ok (.aload_n 0, 1) := by decide +kernel
theorem dNames_has_6 : decode bNames_has 6 = .ok (.getfield 33, 3) := by decide +kernel
theorem dNames_has_9 : decode bNames_has 9 = .ok (.if_icmp .ge 7, 3) := by decide +kernel
theorem dNames_has_12 : decode bNames_has 12 = .ok (.iconst 1, 1) := by decide +kernel
theorem dNames_has_13 : decode bNames_has 13 = .ok (.goto 4, 3) := by decide +kernel
theorem dNames_has_16 : decode bNames_has 16 = .ok (.iconst 0, 1) := by decide +kernel
theorem dNames_has_17 : decode bNames_has 17 = .ok (.ireturn, 1) := by decide +kernel
theorem dNames_sortOf_0 : decode bNames_sortOf 0 = .ok (.aload_n 0, 1) := by decide +kernel
theorem dNames_sortOf_1 : decode bNames_sortOf 1 = .ok (.iload_n 1, 1) := by decide +kernel
theorem dNames_sortOf_2 : decode bNames_sortOf 2 = .ok (.invokevirtual 56, 3) := by decide +kernel
theorem dNames_sortOf_5 : decode bNames_sortOf 5 = .ok (.ifCond .eq 12, 3) := by decide +kernel
theorem dNames_sortOf_8 : decode bNames_sortOf 8 = .ok (.aload_n 0, 1) := by decide +kernel
theorem dNames_sortOf_9 : decode bNames_sortOf 9 = .ok (.getfield 15, 3) := by decide +kernel
theorem dNames_sortOf_12 : decode bNames_sortOf 12 = .ok (.iload_n 1, 1) := by decide +kernel
theorem dNames_sortOf_13 : decode bNames_sortOf 13 = .ok (.iaload, 1) := by decide +kernel
theorem dNames_sortOf_14 : decode bNames_sortOf 14 = .ok (.goto 4, 3) := by decide +kernel
theorem dNames_sortOf_17 : decode bNames_sortOf 17 = .ok (.iconst (-1), 1) := by decide +kernel
theorem dNames_sortOf_18 : decode bNames_sortOf 18 = .ok (.ireturn, 1) := by decide +kernel
theorem dNames_numberOf_0 : decode bNames_numberOf 0 = .ok (.aload_n 0, 1) := by decide +kernel
theorem dNames_numberOf_1 : decode bNames_numberOf 1 = .ok (.iload_n 1, 1) := by decide +kernel
theorem dNames_numberOf_2 : decode bNames_numberOf 2 = .ok (.invokevirtual 56, 3) := by decide +kernel
theorem dNames_numberOf_5 : decode bNames_numberOf 5 = .ok (.ifCond .eq 12, 3) := by decide +kernel
theorem dNames_numberOf_8 : decode bNames_numberOf 8 = .ok (.aload_n 0, 1) := by decide +kernel
theorem dNames_numberOf_9 : decode bNames_numberOf 9 = .ok (.getfield 18, 3) := by decide +kernel
theorem dNames_numberOf_12 : decode bNames_numberOf 12 = .ok (.iload_n 1, 1) := by decide +kernel
theorem dNames_numberOf_13 : decode bNames_numberOf 13 = .ok (.iaload, 1) := by decide +kernel
theorem dNames_numberOf_14 : decode bNames_numberOf 14 = .ok (.goto 4, 3) := by decide +kernel
theorem dNames_numberOf_17 : decode bNames_numberOf 17 = .ok (.iconst (-1), 1) := by decide +kernel
theorem dNames_numberOf_18 : decode bNames_numberOf 18 = .ok (.ireturn, 1) := by decide +kernel
theorem dNames_partOf_0 : decode bNames_partOf 0 = .ok (.aload_n 0, 1) := by decide +kernel
theorem dNames_partOf_1 : decode bNames_partOf 1 = .ok (.iload_n 1, 1) := by decide +kernel
theorem dNames_partOf_2 : decode bNames_partOf 2 = .ok (.invokevirtual 56, 3) := by decide +kernel
theorem dNames_partOf_5 : decode bNames_partOf 5 = .ok (.ifCond .eq 12, 3) := by decide +kernel
theorem dNames_partOf_8 : decode bNames_partOf 8 = .ok (.aload_n 0, 1) := by decide +kernel
theorem dNames_partOf_9 : decode bNames_partOf 9 = .ok (.getfield 21, 3) := by decide +kernel
theorem dNames_partOf_12 : decode bNames_partOf 12 = .ok (.iload_n 1, 1) := by decide +kernel
theorem dNames_partOf_13 : decode bNames_partOf 13 = .ok (.iaload, 1) := by decide +kernel
theorem dNames_partOf_14 : decode bNames_partOf 14 = .ok (.goto 4, 3) := by decide +kernel
theorem dNames_partOf_17 : decode bNames_partOf 17 = .ok (.iconst (-1), 1) := by decide +kernel
theorem dNames_partOf_18 : decode bNames_partOf 18 = .ok (.ireturn, 1) := by decide +kernel
theorem dNames_find_0 : decode bNames_find 0 = .ok (.aload_n 0, 1) := by decide +kernel
theorem dNames_find_1 : decode bNames_find 1 = .ok (.getfield 27, 3) := by decide +kernel
theorem dNames_find_4 : decode bNames_find 4 = .ok (.iload_n 1, 1) := by decide +kernel
theorem dNames_find_5 : decode bNames_find 5 = .ok (.sipush 255, 3) := by decide +kernel
theorem dNames_find_8 : decode bNames_find 8 = .ok (.iand, 1) := by decide +kernel
theorem dNames_find_9 : decode bNames_find 9 = .ok (.iaload, 1) := by decide +kernel
theorem dNames_find_10 : decode bNames_find 10 = .ok (.istore_n 2, 1) := by decide +kernel
theorem dNames_find_11 : decode bNames_find 11 = .ok (.iconst 0, 1) := by decide +kernel
theorem dNames_find_12 : decode bNames_find 12 = .ok (.istore_n 3, 1) := by decide +kernel
theorem dNames_find_13 : decode bNames_find 13 = .ok (.iload_n 3, 1) := by decide +kernel
theorem dNames_find_14 : decode bNames_find 14 = .ok (.aload_n 0, 1) := by decide +kernel
theorem dNames_find_15 : decode bNames_find 15 = .ok (.getfield 33, 3) := by decide +kernel
theorem dNames_find_18 : decode bNames_find 18 = .ok (.if_icmp .ge 36, 3) := by decide +kernel
theorem dNames_find_21 : decode bNames_find 21 = .ok (.aload_n 0, 1) := by decide +kernel
theorem dNames_find_22 : decode bNames_find 22 = .ok (.iload_n 2, 1) := by decide +kernel
theorem dNames_find_23 : decode bNames_find 23 = .ok (.invokevirtual 56, 3) := by decide +kernel
theorem dNames_find_26 : decode bNames_find 26 = .ok (.ifCond .eq 28, 3) := by decide +kernel
theorem dNames_find_29 : decode bNames_find 29 = .ok (.aload_n 0, 1) := by decide +kernel
theorem dNames_find_30 : decode bNames_find 30 = .ok (.getfield 9, 3) := by decide +kernel
theorem dNames_find_33 : decode bNames_find 33 = .ok (.iload_n 2, 1) := by decide +kernel
theorem dNames_find_34 : decode bNames_find 34 = .ok (.iaload, 1) := by decide +kernel
theorem dNames_find_35 : decode bNames_find 35 = .ok (.iload_n 1, 1) := by decide +kernel
theorem dNames_find_36 : decode bNames_find 36 = .ok (.if_icmp .ne 5, 3) := by decide +kernel
theorem dNames_find_39 : decode bNames_find 39 = .ok (.iload_n 2, 1) := by decide +kernel
theorem dNames_find_40 : decode bNames_find 40 = .ok (.ireturn, 1) := by decide +kernel
theorem dNames_find_41 : decode bNames_find 41 = .ok (.aload_n 0, 1) := by decide +kernel
theorem dNames_find_42 : decode bNames_find 42 = .ok (.getfield 24, 3) := by decide +kernel
theorem dNames_find_45 : decode bNames_find 45 = .ok (.iload_n 2, 1) := by decide +kernel
theorem dNames_find_46 : decode bNames_find 46 = .ok (.iaload, 1) := by decide +kernel
theorem dNames_find_47 : decode bNames_find 47 = .ok (.istore_n 2, 1) := by decide +kernel
theorem dNames_find_48 : decode bNames_find 48 = .ok (.iinc 3 1, 3) := by decide +kernel
theorem dNames_find_51 : decode bNames_find 51 = .ok (.goto (-38), 3) := by decide +kernel
theorem dNames_find_54 : decode bNames_find 54 = .ok (.iconst (-1), 1) := by decide +kernel
theorem dNames_find_55 : decode bNames_find 55 = .ok (.ireturn, 1) := by decide +kernel
theorem dNames_isTaken_0 : decode bNames_isTaken 0 = .ok (.aload_n 0, 1) := by decide +kernel
theorem dNames_isTaken_1 : decode bNames_isTaken 1 = .ok (.iload_n 1, 1) := by decide +kernel
theorem dNames_isTaken_2 : decode bNames_isTaken 2 = .ok (.invokevirtual 60, 3) := by decide +kernel
theorem dNames_isTaken_5 : decode bNames_isTaken 5 = .ok (.aload_n 0, 1) := by decide +kernel
theorem dNames_isTaken_6 : decode bNames_isTaken 6 = .ok (.getfield 30, 3) := by decide +kernel
theorem dNames_isTaken_9 : decode bNames_isTaken 9 = .ok (.aload_n 0, 1) := by decide +kernel
theorem dNames_isTaken_10 : decode bNames_isTaken 10 = .ok (.getfield 37, 3) := by decide +kernel
theorem dNames_isTaken_13 : decode bNames_isTaken 13 = .ok (.iconst 1, 1) := by decide +kernel
theorem dNames_isTaken_14 : decode bNames_isTaken 14 = .ok (.isub, 1) := by decide +kernel
theorem dNames_isTaken_15 : decode bNames_isTaken 15 = .ok (.iaload, 1) := by decide +kernel
theorem dNames_isTaken_16 : decode bNames_isTaken 16 = .ok (.if_icmp .lt 7, 3) := by decide +kernel
theorem dNames_isTaken_19 : decode bNames_isTaken 19 = .ok (.iconst 1, 1) := by decide +kernel
theorem dNames_isTaken_20 : decode bNames_isTaken 20 = .ok (.goto 4, 3) := by decide +kernel
theorem dNames_isTaken_23 : decode bNames_isTaken 23 = .ok (.iconst 0, 1) := by decide +kernel
theorem dNames_isTaken_24 : decode bNames_isTaken 24 = .ok (.ireturn, 1) := by decide +kernel
theorem dNames_haveRoom_0 : decode bNames_haveRoom 0 = .ok (.aload_n 0, 1) := by decide +kernel
theorem dNames_haveRoom_1 : decode bNames_haveRoom 1 = .ok (.getfield 33, 3) := by decide +kernel
theorem dNames_haveRoom_4 : decode bNames_haveRoom 4 = .ok (.getstatic 46, 3) := by decide +kernel
theorem dNames_haveRoom_7 : decode bNames_haveRoom 7 = .ok (.arraylength, 1) := by decide +kernel
theorem dNames_haveRoom_8 : decode bNames_haveRoom 8 = .ok (.isub, 1) := by decide +kernel
theorem dNames_haveRoom_9 : decode bNames_haveRoom 9 = .ok (.iload_n 1, 1) := by decide +kernel
theorem dNames_haveRoom_10 : decode bNames_haveRoom 10 = .ok (.iadd, 1) := by decide +kernel
theorem dNames_haveRoom_11 : decode bNames_haveRoom 11 = .ok (.sipush 3000, 3) := by decide +kernel
theorem dNames_haveRoom_14 : decode bNames_haveRoom 14 = .ok (.if_icmp .gt 7, 3) := by decide +kernel
theorem dNames_haveRoom_17 : decode bNames_haveRoom 17 = .ok (.iconst 1, 1) := by decide +kernel
theorem dNames_haveRoom_18 : decode bNames_haveRoom 18 = .ok (.goto 4, 3) := by decide +kernel
theorem dNames_haveRoom_21 : decode bNames_haveRoom 21 = .ok (.iconst 0, 1) := by decide +kernel
theorem dNames_haveRoom_22 : decode bNames_haveRoom 22 = .ok (.ireturn, 1) := by decide +kernel
theorem dNames_put_0 : decode bNames_put 0 = .ok (.aload_n 0, 1) := by decide +kernel
theorem dNames_put_1 : decode bNames_put 1 = .ok (.aload_n 0, 1) := by decide +kernel
theorem dNames_put_2 : decode bNames_put 2 = .ok (.getfield 9, 3) := by decide +kernel
theorem dNames_put_5 : decode bNames_put 5 = .ok (.aload_n 0, 1) := by decide +kernel
theorem dNames_put_6 : decode bNames_put 6 = .ok (.getfield 33, 3) := by decide +kernel
theorem dNames_put_9 : decode bNames_put 9 = .ok (.iconst 1, 1) := by decide +kernel
theorem dNames_put_10 : decode bNames_put 10 = .ok (.iadd, 1) := by decide +kernel
theorem dNames_put_11 : decode bNames_put 11 = .ok (.invokestatic 64, 3) := by decide +kernel
theorem dNames_put_14 : decode bNames_put 14 = .ok (.putfield 9, 3) := by decide +kernel
theorem dNames_put_17 : decode bNames_put 17 = .ok (.aload_n 0, 1) := by decide +kernel
theorem dNames_put_18 : decode bNames_put 18 = .ok (.aload_n 0, 1) := by decide +kernel
theorem dNames_put_19 : decode bNames_put 19 = .ok (.getfield 15, 3) := by decide +kernel
theorem dNames_put_22 : decode bNames_put 22 = .ok (.aload_n 0, 1) := by decide +kernel
theorem dNames_put_23 : decode bNames_put 23 = .ok (.getfield 33, 3) := by decide +kernel
theorem dNames_put_26 : decode bNames_put 26 = .ok (.iconst 1, 1) := by decide +kernel
theorem dNames_put_27 : decode bNames_put 27 = .ok (.iadd, 1) := by decide +kernel
theorem dNames_put_28 : decode bNames_put 28 = .ok (.invokestatic 64, 3) := by decide +kernel
theorem dNames_put_31 : decode bNames_put 31 = .ok (.putfield 15, 3) := by decide +kernel
theorem dNames_put_34 : decode bNames_put 34 = .ok (.aload_n 0, 1) := by decide +kernel
theorem dNames_put_35 : decode bNames_put 35 = .ok (.aload_n 0, 1) := by decide +kernel
theorem dNames_put_36 : decode bNames_put 36 = .ok (.getfield 18, 3) := by decide +kernel
theorem dNames_put_39 : decode bNames_put 39 = .ok (.aload_n 0, 1) := by decide +kernel
theorem dNames_put_40 : decode bNames_put 40 = .ok (.getfield 33, 3) := by decide +kernel
theorem dNames_put_43 : decode bNames_put 43 = .ok (.iconst 1, 1) := by decide +kernel
theorem dNames_put_44 : decode bNames_put 44 = .ok (.iadd, 1) := by decide +kernel
theorem dNames_put_45 : decode bNames_put 45 = .ok (.invokestatic 64, 3) := by decide +kernel
theorem dNames_put_48 : decode bNames_put 48 = .ok (.putfield 18, 3) := by decide +kernel
theorem dNames_put_51 : decode bNames_put 51 = .ok (.aload_n 0, 1) := by decide +kernel
theorem dNames_put_52 : decode bNames_put 52 = .ok (.aload_n 0, 1) := by decide +kernel
theorem dNames_put_53 : decode bNames_put 53 = .ok (.getfield 21, 3) := by decide +kernel
theorem dNames_put_56 : decode bNames_put 56 = .ok (.aload_n 0, 1) := by decide +kernel
theorem dNames_put_57 : decode bNames_put 57 = .ok (.getfield 33, 3) := by decide +kernel
theorem dNames_put_60 : decode bNames_put 60 = .ok (.iconst 1, 1) := by decide +kernel
theorem dNames_put_61 : decode bNames_put 61 = .ok (.iadd, 1) := by decide +kernel
theorem dNames_put_62 : decode bNames_put 62 = .ok (.invokestatic 64, 3) := by decide +kernel
theorem dNames_put_65 : decode bNames_put 65 = .ok (.putfield 21, 3) := by decide +kernel
theorem dNames_put_68 : decode bNames_put 68 = .ok (.aload_n 0, 1) := by decide +kernel
theorem dNames_put_69 : decode bNames_put 69 = .ok (.aload_n 0, 1) := by decide +kernel
theorem dNames_put_70 : decode bNames_put 70 = .ok (.getfield 24, 3) := by decide +kernel
theorem dNames_put_73 : decode bNames_put 73 = .ok (.aload_n 0, 1) := by decide +kernel
theorem dNames_put_74 : decode bNames_put 74 = .ok (.getfield 33, 3) := by decide +kernel
theorem dNames_put_77 : decode bNames_put 77 = .ok (.iconst 1, 1) := by decide +kernel
theorem dNames_put_78 : decode bNames_put 78 = .ok (.iadd, 1) := by decide +kernel
theorem dNames_put_79 : decode bNames_put 79 = .ok (.invokestatic 64, 3) := by decide +kernel
theorem dNames_put_82 : decode bNames_put 82 = .ok (.putfield 24, 3) := by decide +kernel
theorem dNames_put_85 : decode bNames_put 85 = .ok (.iload_n 1, 1) := by decide +kernel
theorem dNames_put_86 : decode bNames_put 86 = .ok (.sipush 255, 3) := by decide +kernel
theorem dNames_put_89 : decode bNames_put 89 = .ok (.iand, 1) := by decide +kernel
theorem dNames_put_90 : decode bNames_put 90 = .ok (.istore 5, 2) := by decide +kernel
theorem dNames_put_92 : decode bNames_put 92 = .ok (.aload_n 0, 1) := by decide +kernel
theorem dNames_put_93 : decode bNames_put 93 = .ok (.getfield 9, 3) := by decide +kernel
theorem dNames_put_96 : decode bNames_put 96 = .ok (.aload_n 0, 1) := by decide +kernel
theorem dNames_put_97 : decode bNames_put 97 = .ok (.getfield 33, 3) := by decide +kernel
theorem dNames_put_100 : decode bNames_put 100 = .ok (.iload_n 1, 1) := by decide +kernel
theorem dNames_put_101 : decode bNames_put 101 = .ok (.iastore, 1) := by decide +kernel
theorem dNames_put_102 : decode bNames_put 102 = .ok (.aload_n 0, 1) := by decide +kernel
theorem dNames_put_103 : decode bNames_put 103 = .ok (.getfield 15, 3) := by decide +kernel
theorem dNames_put_106 : decode bNames_put 106 = .ok (.aload_n 0, 1) := by decide +kernel
theorem dNames_put_107 : decode bNames_put 107 = .ok (.getfield 33, 3) := by decide +kernel
theorem dNames_put_110 : decode bNames_put 110 = .ok (.iload_n 2, 1) := by decide +kernel
theorem dNames_put_111 : decode bNames_put 111 = .ok (.iastore, 1) := by decide +kernel
theorem dNames_put_112 : decode bNames_put 112 = .ok (.aload_n 0, 1) := by decide +kernel
theorem dNames_put_113 : decode bNames_put 113 = .ok (.getfield 18, 3) := by decide +kernel
theorem dNames_put_116 : decode bNames_put 116 = .ok (.aload_n 0, 1) := by decide +kernel
theorem dNames_put_117 : decode bNames_put 117 = .ok (.getfield 33, 3) := by decide +kernel
theorem dNames_put_120 : decode bNames_put 120 = .ok (.iload_n 3, 1) := by decide +kernel
theorem dNames_put_121 : decode bNames_put 121 = .ok (.iastore, 1) := by decide +kernel
theorem dNames_put_122 : decode bNames_put 122 = .ok (.aload_n 0, 1) := by decide +kernel
theorem dNames_put_123 : decode bNames_put 123 = .ok (.getfield 21, 3) := by decide +kernel
theorem dNames_put_126 : decode bNames_put 126 = .ok (.aload_n 0, 1) := by decide +kernel
theorem dNames_put_127 : decode bNames_put 127 = .ok (.getfield 33, 3) := by decide +kernel
theorem dNames_put_130 : decode bNames_put 130 = .ok (.iload 4, 2) := by decide +kernel
theorem dNames_put_132 : decode bNames_put 132 = .ok (.iastore, 1) := by decide +kernel
theorem dNames_put_133 : decode bNames_put 133 = .ok (.aload_n 0, 1) := by decide +kernel
theorem dNames_put_134 : decode bNames_put 134 = .ok (.getfield 24, 3) := by decide +kernel
theorem dNames_put_137 : decode bNames_put 137 = .ok (.aload_n 0, 1) := by decide +kernel
theorem dNames_put_138 : decode bNames_put 138 = .ok (.getfield 33, 3) := by decide +kernel
theorem dNames_put_141 : decode bNames_put 141 = .ok (.aload_n 0, 1) := by decide +kernel
theorem dNames_put_142 : decode bNames_put 142 = .ok (.getfield 27, 3) := by decide +kernel
theorem dNames_put_145 : decode bNames_put 145 = .ok (.iload 5, 2) := by decide +kernel
theorem dNames_put_147 : decode bNames_put 147 = .ok (.iaload, 1) := by decide +kernel
theorem dNames_put_148 : decode bNames_put 148 = .ok (.iastore, 1) := by decide +kernel
theorem dNames_put_149 : decode bNames_put 149 = .ok (.aload_n 0, 1) := by decide +kernel
theorem dNames_put_150 : decode bNames_put 150 = .ok (.getfield 27, 3) := by decide +kernel
theorem dNames_put_153 : decode bNames_put 153 = .ok (.iload 5, 2) := by decide +kernel
theorem dNames_put_155 : decode bNames_put 155 = .ok (.aload_n 0, 1) := by decide +kernel
theorem dNames_put_156 : decode bNames_put 156 = .ok (.getfield 33, 3) := by decide +kernel
theorem dNames_put_159 : decode bNames_put 159 = .ok (.iastore, 1) := by decide +kernel
theorem dNames_put_160 : decode bNames_put 160 = .ok (.aload_n 0, 1) := by decide +kernel
theorem dNames_put_161 : decode bNames_put 161 = .ok (.dup, 1) := by decide +kernel
theorem dNames_put_162 : decode bNames_put 162 = .ok (.getfield 33, 3) := by decide +kernel
theorem dNames_put_165 : decode bNames_put 165 = .ok (.iconst 1, 1) := by decide +kernel
theorem dNames_put_166 : decode bNames_put 166 = .ok (.iadd, 1) := by decide +kernel
theorem dNames_put_167 : decode bNames_put 167 = .ok (.putfield 33, 3) := by decide +kernel
theorem dNames_put_170 : decode bNames_put 170 = .ok (.return_, 1) := by decide +kernel
theorem dNames_open_0 : decode bNames_open 0 = .ok (.aload_n 0, 1) := by decide +kernel
theorem dNames_open_1 : decode bNames_open 1 = .ok (.getfield 37, 3) := by decide +kernel
theorem dNames_open_4 : decode bNames_open 4 = .ok (.bipush 32, 2) := by decide +kernel
theorem dNames_open_6 : decode bNames_open 6 = .ok (.if_icmp .ge 26, 3) := by decide +kernel
theorem dNames_open_9 : decode bNames_open 9 = .ok (.aload_n 0, 1) := by decide +kernel
theorem dNames_open_10 : decode bNames_open 10 = .ok (.getfield 30, 3) := by decide +kernel
theorem dNames_open_13 : decode bNames_open 13 = .ok (.aload_n 0, 1) := by decide +kernel
theorem dNames_open_14 : decode bNames_open 14 = .ok (.getfield 37, 3) := by decide +kernel
theorem dNames_open_17 : decode bNames_open 17 = .ok (.aload_n 0, 1) := by decide +kernel
theorem dNames_open_18 : decode bNames_open 18 = .ok (.getfield 33, 3) := by decide +kernel
theorem dNames_open_21 : decode bNames_open 21 = .ok (.iastore, 1) := by decide +kernel
theorem dNames_open_22 : decode bNames_open 22 = .ok (.aload_n 0, 1) := by decide +kernel
theorem dNames_open_23 : decode bNames_open 23 = .ok (.dup, 1) := by decide +kernel
theorem dNames_open_24 : decode bNames_open 24 = .ok (.getfield 37, 3) := by decide +kernel
theorem dNames_open_27 : decode bNames_open 27 = .ok (.iconst 1, 1) := by decide +kernel
theorem dNames_open_28 : decode bNames_open 28 = .ok (.iadd, 1) := by decide +kernel
theorem dNames_open_29 : decode bNames_open 29 = .ok (.putfield 37, 3) := by decide +kernel
theorem dNames_open_32 : decode bNames_open 32 = .ok (.return_, 1) := by decide +kernel
theorem dNames_close_0 : decode bNames_close 0 = .ok (.aload_n 0, 1) := by decide +kernel
theorem dNames_close_1 : decode bNames_close 1 = .ok (.getfield 37, 3) := by decide +kernel
theorem dNames_close_4 : decode bNames_close 4 = .ok (.iconst 1, 1) := by decide +kernel
theorem dNames_close_5 : decode bNames_close 5 = .ok (.if_icmp .le 67, 3) := by decide +kernel
theorem dNames_close_8 : decode bNames_close 8 = .ok (.aload_n 0, 1) := by decide +kernel
theorem dNames_close_9 : decode bNames_close 9 = .ok (.dup, 1) := by decide +kernel
theorem dNames_close_10 : decode bNames_close 10 = .ok (.getfield 37, 3) := by decide +kernel
theorem dNames_close_13 : decode bNames_close 13 = .ok (.iconst 1, 1) := by decide +kernel
theorem dNames_close_14 : decode bNames_close 14 = .ok (.isub, 1) := by decide +kernel
theorem dNames_close_15 : decode bNames_close 15 = .ok (.putfield 37, 3) := by decide +kernel
theorem dNames_close_18 : decode bNames_close 18 = .ok (.aload_n 0, 1) := by decide +kernel
theorem dNames_close_19 : decode bNames_close 19 = .ok (.getfield 30, 3) := by decide +kernel
theorem dNames_close_22 : decode bNames_close 22 = .ok (.aload_n 0, 1) := by decide +kernel
theorem dNames_close_23 : decode bNames_close 23 = .ok (.getfield 37, 3) := by decide +kernel
theorem dNames_close_26 : decode bNames_close 26 = .ok (.iaload, 1) := by decide +kernel
theorem dNames_close_27 : decode bNames_close 27 = .ok (.istore_n 1, 1) := by decide +kernel
theorem dNames_close_28 : decode bNames_close 28 = .ok (.aload_n 0, 1) := by decide +kernel
theorem dNames_close_29 : decode bNames_close 29 = .ok (.getfield 33, 3) := by decide +kernel
theorem dNames_close_32 : decode bNames_close 32 = .ok (.iconst 1, 1) := by decide +kernel
theorem dNames_close_33 : decode bNames_close 33 = .ok (.isub, 1) := by decide +kernel
theorem dNames_close_34 : decode bNames_close 34 = .ok (.istore_n 2, 1) := by decide +kernel
theorem dNames_close_35 : decode bNames_close 35 = .ok (.iload_n 2, 1) := by decide +kernel
theorem dNames_close_36 : decode bNames_close 36 = .ok (.iload_n 1, 1) := by decide +kernel
theorem dNames_close_37 : decode bNames_close 37 = .ok (.if_icmp .lt 30, 3) := by decide +kernel
theorem dNames_close_40 : decode bNames_close 40 = .ok (.aload_n 0, 1) := by decide +kernel
theorem dNames_close_41 : decode bNames_close 41 = .ok (.getfield 27, 3) := by decide +kernel
theorem dNames_close_44 : decode bNames_close 44 = .ok (.aload_n 0, 1) := by decide +kernel
theorem dNames_close_45 : decode bNames_close 45 = .ok (.getfield 9, 3) := by decide +kernel
theorem dNames_close_48 : decode bNames_close 48 = .ok (.iload_n 2, 1) := by decide +kernel
theorem dNames_close_49 : decode bNames_close 49 = .ok (.iaload, 1) := by decide +kernel
theorem dNames_close_50 : decode bNames_close 50 = .ok (.sipush 255, 3) := by decide +kernel
theorem dNames_close_53 : decode bNames_close 53 = .ok (.iand, 1) := by decide +kernel
theorem dNames_close_54 : decode bNames_close 54 = .ok (.aload_n 0, 1) := by decide +kernel
theorem dNames_close_55 : decode bNames_close 55 = .ok (.getfield 24, 3) := by decide +kernel
theorem dNames_close_58 : decode bNames_close 58 = .ok (.iload_n 2, 1) := by decide +kernel
theorem dNames_close_59 : decode bNames_close 59 = .ok (.iaload, 1) := by decide +kernel
theorem dNames_close_60 : decode bNames_close 60 = .ok (.iastore, 1) := by decide +kernel
theorem dNames_close_61 : decode bNames_close 61 = .ok (.iinc 2 (-1), 3) := by decide +kernel
theorem dNames_close_64 : decode bNames_close 64 = .ok (.goto (-29), 3) := by decide +kernel
theorem dNames_close_67 : decode bNames_close 67 = .ok (.aload_n 0, 1) := by decide +kernel
theorem dNames_close_68 : decode bNames_close 68 = .ok (.iload_n 1, 1) := by decide +kernel
theorem dNames_close_69 : decode bNames_close 69 = .ok (.putfield 33, 3) := by decide +kernel
theorem dNames_close_72 : decode bNames_close 72 = .ok (.return_, 1) := by decide +kernel
