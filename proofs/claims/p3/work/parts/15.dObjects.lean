theorem dObjects_init_0 : decode bObjects_init 0 = .ok (.aload_n 0, 1) := by decide +kernel
theorem dObjects_init_1 : decode bObjects_init 1 = .ok (.invokespecial 3, 3) := by decide +kernel
theorem dObjects_init_4 : decode bObjects_init 4 = .ok (.aload_n 0, 1) := by decide +kernel
theorem dObjects_init_5 : decode bObjects_init 5 = .ok (.bipush 16, 2) := by decide +kernel
theorem dObjects_init_7 : decode bObjects_init 7 = .ok (.newarray .int, 2) := by decide +kernel
theorem dObjects_init_9 : decode bObjects_init 9 = .ok (.putfield 9, 3) := by decide +kernel
theorem dObjects_init_12 : decode bObjects_init 12 = .ok (.aload_n 0, 1) := by decide +kernel
theorem dObjects_init_13 : decode bObjects_init 13 = .ok (.bipush 16, 2) := by decide +kernel
theorem dObjects_init_15 : decode bObjects_init 15 = .ok (.newarray .int, 2) := by decide +kernel
theorem dObjects_init_17 : decode bObjects_init 17 = .ok (.putfield 15, 3) := by decide +kernel
theorem dObjects_init_20 : decode bObjects_init 20 = .ok (.aload_n 0, 1) := by decide +kernel
theorem dObjects_init_21 : decode bObjects_init 21 = .ok (.bipush 16, 2) := by decide +kernel
theorem dObjects_init_23 : decode bObjects_init 23 = .ok (.newarray .int, 2) := by decide +kernel
theorem dObjects_init_25 : decode bObjects_init 25 = .ok (.putfield 18, 3) := by decide +kernel
theorem dObjects_init_28 : decode bObjects_init 28 = .ok (.aload_n 0, 1) := by decide +kernel
theorem dObjects_init_29 : decode bObjects_init 29 = .ok (.new 21, 3) := by decide +kernel
theorem dObjects_init_32 : decode bObjects_init 32 = .ok (.dup, 1) := by decide +kernel
theorem dObjects_init_33 : decode bObjects_init 33 = .ok (.bipush 16, 2) := by decide +kernel
theorem dObjects_init_35 : decode bObjects_init 35 = .ok (.invokespecial 23, 3) := by decide +kernel
theorem dObjects_init_38 : decode bObjects_init 38 = .ok (.putfield 26, 3) := by decide +kernel
theorem dObjects_init_41 : decode bObjects_init 41 = .ok (.aload_n 0, 1) := by decide +kernel
theorem dObjects_init_42 : decode bObjects_init 42 = .ok (.iconst 0, 1) := by decide +kernel
theorem dObjects_init_43 : decode bObjects_init 43 = .ok (.putfield 30, 3) := by decide +kernel
theorem dObjects_init_46 : decode bObjects_init 46 = .ok (.return_, 1) := by decide +kernel
theorem dObjects_has_0 : decode bObjects_has 0 = .ok (.iload_n 1, 1) := by decide +kernel
theorem dObjects_has_1 : decode bObjects_has 1 = .ok (.ifCond .lt 15, 3) := by decide +kernel
theorem dObjects_has_4 : decode bObjects_has 4 = .ok (.iload_n 1, 1) := by decide +kernel
theorem dObjects_has_5 : decode bObjects_has 5 = .ok (.aload_n 0, 1) := by decide +kernel
theorem dObjects_has_6 : decode bObjects_has 6 = .ok (.getfield 30, 3) := by decide +kernel
theorem dObjects_has_9 : decode bObjects_has 9 = .ok (.if_icmp .ge 7, 3) := by decide +kernel
theorem dObjects_has_12 : decode bObjects_has 12 = .ok (.iconst 1, 1) := by decide +kernel
theorem dObjects_has_13 : decode bObjects_has 13 = .ok (.goto 4, 3) := by decide +kernel
theorem dObjects_has_16 : decode bObjects_has 16 = .ok (.iconst 0, 1) := by decide +kernel
theorem dObjects_has_17 : decode bObjects_has 17 = .ok (.ireturn, 1) := by decide +kernel
theorem dObjects_whatOf_0 : decode bObjects_whatOf 0 = .ok (.aload_n 0, 1) := by decide +kernel
theorem dObjects_whatOf_1 : decode bObjects_whatOf 1 = .ok (.iload_n 1, 1) := by decide +kernel
theorem dObjects_whatOf_2 : decode bObjects_whatOf 2 = .ok (.invokevirtual 34, 3) := by decide +kernel
theorem dObjects_whatOf_5 : decode bObjects_whatOf 5 = .ok (.ifCond .eq 12, 3) := by decide +kernel
theorem dObjects_whatOf_8 : decode bObjects_whatOf 8 = .ok (.aload_n 0, 1) := by decide +kernel
theorem dObjects_whatOf_9 : decode bObjects_whatOf 9 = .ok (.getfield 9, 3) := by decide +kernel
theorem dObjects_whatOf_12 : decode bObjects_whatOf 12 = .ok (.iload_n 1, 1) := by decide +kernel
theorem dObjects_whatOf_13 : decode bObjects_whatOf 13 = .ok (.iaload, 1) := by decide +kernel
theorem dObjects_whatOf_14 : decode bObjects_whatOf 14 = .ok (.goto 4, 3) := by decide +kernel
theorem dObjects_whatOf_17 : decode bObjects_whatOf 17 = .ok (.iconst (-1), 1) := by decide +kernel
theorem dObjects_whatOf_18 : decode bObjects_whatOf 18 = .ok (.ireturn, 1) := by decide +kernel
theorem dObjects_typeOfObject_0 : decode bObjects_typeOfObject 0 = .ok (.aload_n 0, 1) := by decide +kernel
theorem dObjects_typeOfObject_1 : decode bObjects_typeOfObject 1 = .ok (.iload_n 1, 1) := by decide +kernel
theorem dObjects_typeOfObject_2 : decode bObjects_typeOfObject 2 = .ok (.invokevirtual 34, 3) := by decide +kernel
theorem dObjects_typeOfObject_5 : decode bObjects_typeOfObject 5 = .ok (.ifCond .eq 12, 3) := by decide +kernel
theorem dObjects_typeOfObject_8 : decode bObjects_typeOfObject 8 = .ok (.aload_n 0, 1) := by decide +kernel
theorem dObjects_typeOfObject_9 : decode bObjects_typeOfObject 9 = .ok (.getfield 15, 3) := by decide +kernel
theorem dObjects_typeOfObject_12 : decode bObjects_typeOfObject 12 = .ok (.iload_n 1, 1) := by decide +kernel
theorem dObjects_typeOfObject_13 : decode bObjects_typeOfObject 13 = .ok (.iaload, 1) := by decide +kernel
theorem dObjects_typeOfObject_14 : decode bObjects_typeOfObject 14 = .ok (.goto 4, 3) := by decide +kernel
theorem dObjects_typeOfObject_17 : decode bObjects_typeOfObject 17 = .ok (.iconst (-1), 1) := by decide +kernel
theorem dObjects_typeOfObject_18 : decode bObjects_typeOfObject 18 = .ok (.ireturn, 1) := by decide +kernel
theorem dObjects_numberOf_0 : decode bObjects_numberOf 0 = .ok (.aload_n 0, 1) := by decide +kernel
theorem dObjects_numberOf_1 : decode bObjects_numberOf 1 = .ok (.iload_n 1, 1) := by decide +kernel
theorem dObjects_numberOf_2 : decode bObjects_numberOf 2 = .ok (.invokevirtual 34, 3) := by decide +kernel
theorem dObjects_numberOf_5 : decode bObjects_numberOf 5 = .ok (.ifCond .eq 12, 3) := by decide +kernel
theorem dObjects_numberOf_8 : decode bObjects_numberOf 8 = .ok (.aload_n 0, 1) := by decide +kernel
theorem dObjects_numberOf_9 : decode bObjects_numberOf 9 = .ok (.getfield 18, 3) := by decide +kernel
theorem dObjects_numberOf_12 : decode bObjects_numberOf 12 = .ok (.iload_n 1, 1) := by decide +kernel
theorem dObjects_numberOf_13 : decode bObjects_numberOf 13 = .ok (.iaload, 1) := by decide +kernel
theorem dObjects_numberOf_14 : decode bObjects_numberOf 14 = .ok (.goto 4, 3) := by decide +kernel
theorem dObjects_numberOf_17 : decode bObjects_numberOf 17 = .ok (.iconst 0, 1) := by decide +kernel
theorem dObjects_numberOf_18 : decode bObjects_numberOf 18 = .ok (.ireturn, 1) := by decide +kernel
theorem dObjects_put_0 : decode bObjects_put 0 = .ok (.aload_n 0, 1) := by decide +kernel
theorem dObjects_put_1 : decode bObjects_put 1 = .ok (.aload_n 0, 1) := by decide +kernel
theorem dObjects_put_2 : decode bObjects_put 2 = .ok (.getfield 9, 3) := by decide +kernel
theorem dObjects_put_5 : decode bObjects_put 5 = .ok (.aload_n 0, 1) := by decide +kernel
theorem dObjects_put_6 : decode bObjects_put 6 = .ok (.getfield 30, 3) := by decide +kernel
theorem dObjects_put_9 : decode bObjects_put 9 = .ok (.iconst 1, 1) := by decide +kernel
theorem dObjects_put_10 : decode bObjects_put 10 = .ok (.iadd, 1) := by decide +kernel
theorem dObjects_put_11 : decode bObjects_put 11 = .ok (.invokestatic 38, 3) := by decide +kernel
theorem dObjects_put_14 : decode bObjects_put 14 = .ok (.putfield 9, 3) := by decide +kernel
theorem dObjects_put_17 : decode bObjects_put 17 = .ok (.aload_n 0, 1) := by decide +kernel
theorem dObjects_put_18 : decode bObjects_put 18 = .ok (.aload_n 0, 1) := by decide +kernel
theorem dObjects_put_19 : decode bObjects_put 19 = .ok (.getfield 15, 3) := by decide +kernel
theorem dObjects_put_22 : decode bObjects_put 22 = .ok (.aload_n 0, 1) := by decide +kernel
theorem dObjects_put_23 : decode bObjects_put 23 = .ok (.getfield 30, 3) := by decide +kernel
theorem dObjects_put_26 : decode bObjects_put 26 = .ok (.iconst 1, 1) := by decide +kernel
theorem dObjects_put_27 : decode bObjects_put 27 = .ok (.iadd, 1) := by decide +kernel
theorem dObjects_put_28 : decode bObjects_put 28 = .ok (.invokestatic 38, 3) := by decide +kernel
theorem dObjects_put_31 : decode bObjects_put 31 = .ok (.putfield 15, 3) := by decide +kernel
theorem dObjects_put_34 : decode bObjects_put 34 = .ok (.aload_n 0, 1) := by decide +kernel
theorem dObjects_put_35 : decode bObjects_put 35 = .ok (.aload_n 0, 1) := by decide +kernel
theorem dObjects_put_36 : decode bObjects_put 36 = .ok (.getfield 18, 3) := by decide +kernel
theorem dObjects_put_39 : decode bObjects_put 39 = .ok (.aload_n 0, 1) := by decide +kernel
theorem dObjects_put_40 : decode bObjects_put 40 = .ok (.getfield 30, 3) := by decide +kernel
theorem dObjects_put_43 : decode bObjects_put 43 = .ok (.iconst 1, 1) := by decide +kernel
theorem dObjects_put_44 : decode bObjects_put 44 = .ok (.iadd, 1) := by decide +kernel
theorem dObjects_put_45 : decode bObjects_put 45 = .ok (.invokestatic 38, 3) := by decide +kernel
theorem dObjects_put_48 : decode bObjects_put 48 = .ok (.putfield 18, 3) := by decide +kernel
theorem dObjects_put_51 : decode bObjects_put 51 = .ok (.aload_n 0, 1) := by decide +kernel
theorem dObjects_put_52 : decode bObjects_put 52 = .ok (.getfield 26, 3) := by decide +kernel
theorem dObjects_put_55 : decode bObjects_put 55 = .ok (.aload_n 0, 1) := by decide +kernel
theorem dObjects_put_56 : decode bObjects_put 56 = .ok (.getfield 30, 3) := by decide +kernel
theorem dObjects_put_59 : decode bObjects_put 59 = .ok (.iconst 1, 1) := by decide +kernel
theorem dObjects_put_60 : decode bObjects_put 60 = .ok (.iadd, 1) := by decide +kernel
theorem dObjects_put_61 : decode bObjects_put 61 = .ok (.invokevirtual 42, 3) := by decide +kernel
theorem dObjects_put_64 : decode bObjects_put 64 = .ok (.aload_n 0, 1) := by decide +kernel
theorem dObjects_put_65 : decode bObjects_put 65 = .ok (.getfield 9, 3) := by decide +kernel
theorem dObjects_put_68 : decode bObjects_put 68 = .ok (.aload_n 0, 1) := by decide +kernel
theorem dObjects_put_69 : decode bObjects_put 69 = .ok (.getfield 30, 3) := by decide +kernel
theorem dObjects_put_72 : decode bObjects_put 72 = .ok (.iload_n 1, 1) := by decide +kernel
theorem dObjects_put_73 : decode bObjects_put 73 = .ok (.iastore, 1) := by decide +kernel
theorem dObjects_put_74 : decode bObjects_put 74 = .ok (.aload_n 0, 1) := by decide +kernel
theorem dObjects_put_75 : decode bObjects_put 75 = .ok (.getfield 15, 3) := by decide +kernel
theorem dObjects_put_78 : decode bObjects_put 78 = .ok (.aload_n 0, 1) := by decide +kernel
theorem dObjects_put_79 : decode bObjects_put 79 = .ok (.getfield 30, 3) := by decide +kernel
theorem dObjects_put_82 : decode bObjects_put 82 = .ok (.iload_n 2, 1) := by decide +kernel
theorem dObjects_put_83 : decode bObjects_put 83 = .ok (.iastore, 1) := by decide +kernel
theorem dObjects_put_84 : decode bObjects_put 84 = .ok (.aload_n 0, 1) := by decide +kernel
theorem dObjects_put_85 : decode bObjects_put 85 = .ok (.getfield 18, 3) := by decide +kernel
theorem dObjects_put_88 : decode bObjects_put 88 = .ok (.aload_n 0, 1) := by decide +kernel
theorem dObjects_put_89 : decode bObjects_put 89 = .ok (.getfield 30, 3) := by decide +kernel
theorem dObjects_put_92 : decode bObjects_put 92 = .ok (.iconst 0, 1) := by decide +kernel
theorem dObjects_put_93 : decode bObjects_put 93 = .ok (.iastore, 1) := by decide +kernel
theorem dObjects_put_94 : decode bObjects_put 94 = .ok (.aload_n 0, 1) := by decide +kernel
theorem dObjects_put_95 : decode bObjects_put 95 = .ok (.dup, 1) := by decide +kernel
theorem dObjects_put_96 : decode bObjects_put 96 = .ok (.getfield 30, 3) := by decide +kernel
theorem dObjects_put_99 : decode bObjects_put 99 = .ok (.iconst 1, 1) := by decide +kernel
theorem dObjects_put_100 : decode bObjects_put 100 = .ok (.iadd, 1) := by decide +kernel
theorem dObjects_put_101 : decode bObjects_put 101 = .ok (.putfield 30, 3) := by decide +kernel
theorem dObjects_put_104 : decode bObjects_put 104 = .ok (.aload_n 0, 1) := by decide +kernel
theorem dObjects_put_105 : decode bObjects_put 105 = .ok (.getfield 30, 3) := by decide +kernel
theorem dObjects_put_108 : decode bObjects_put 108 = .ok (.iconst 1, 1) := by decide +kernel
theorem dObjects_put_109 : decode bObjects_put 109 = .ok (.isub, 1) := by decide +kernel
theorem dObjects_put_110 : decode bObjects_put 110 = .ok (.ireturn, 1) := by decide +kernel
theorem dObjects_keep_0 : decode bObjects_keep 0 = .ok (.aload_n 0, 1) := by decide +kernel
theorem dObjects_keep_1 : decode bObjects_keep 1 = .ok (.iload_n 1, 1) := by decide +kernel
theorem dObjects_keep_2 : decode bObjects_keep 2 = .ok (.invokevirtual 34, 3) := by decide +kernel
theorem dObjects_keep_5 : decode bObjects_keep 5 = .ok (.ifCond .eq 27, 3) := by decide +kernel
theorem dObjects_keep_8 : decode bObjects_keep 8 = .ok (.aload_n 0, 1) := by decide +kernel
theorem dObjects_keep_9 : decode bObjects_keep 9 = .ok (.getfield 18, 3) := by decide +kernel
theorem dObjects_keep_12 : decode bObjects_keep 12 = .ok (.iload_n 1, 1) := by decide +kernel
theorem dObjects_keep_13 : decode bObjects_keep 13 = .ok (.aload_n 2, 1) := by decide +kernel
theorem dObjects_keep_14 : decode bObjects_keep 14 = .ok (.iload_n 3, 1) := by decide +kernel
theorem dObjects_keep_15 : decode bObjects_keep 15 = .ok (.invokevirtual 45, 3) := by decide +kernel
theorem dObjects_keep_18 : decode bObjects_keep 18 = .ok (.iastore, 1) := by decide +kernel
theorem dObjects_keep_19 : decode bObjects_keep 19 = .ok (.aload_n 0, 1) := by decide +kernel
theorem dObjects_keep_20 : decode bObjects_keep 20 = .ok (.getfield 26, 3) := by decide +kernel
theorem dObjects_keep_23 : decode bObjects_keep 23 = .ok (.iload_n 1, 1) := by decide +kernel
theorem dObjects_keep_24 : decode bObjects_keep 24 = .ok (.aload_n 2, 1) := by decide +kernel
theorem dObjects_keep_25 : decode bObjects_keep 25 = .ok (.getfield 51, 3) := by decide +kernel
theorem dObjects_keep_28 : decode bObjects_keep 28 = .ok (.iload_n 3, 1) := by decide +kernel
theorem dObjects_keep_29 : decode bObjects_keep 29 = .ok (.invokevirtual 52, 3) := by decide +kernel
theorem dObjects_keep_32 : decode bObjects_keep 32 = .ok (.return_, 1) := by decide +kernel
