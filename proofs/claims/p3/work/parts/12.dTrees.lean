theorem dTrees_init_0 : decode bTrees_init 0 = .ok (.aload_n 0, 1) := by decide +kernel
theorem dTrees_init_1 : decode bTrees_init 1 = .ok (.invokespecial 3, 3) := by decide +kernel
theorem dTrees_init_4 : decode bTrees_init 4 = .ok (.aload_n 0, 1) := by decide +kernel
theorem dTrees_init_5 : decode bTrees_init 5 = .ok (.bipush 64, 2) := by decide +kernel
theorem dTrees_init_7 : decode bTrees_init 7 = .ok (.newarray .int, 2) := by decide +kernel
theorem dTrees_init_9 : decode bTrees_init 9 = .ok (.putfield 9, 3) := by decide +kernel
theorem dTrees_init_12 : decode bTrees_init 12 = .ok (.aload_n 0, 1) := by decide +kernel
theorem dTrees_init_13 : decode bTrees_init 13 = .ok (.bipush 64, 2) := by decide +kernel
theorem dTrees_init_15 : decode bTrees_init 15 = .ok (.newarray .int, 2) := by decide +kernel
theorem dTrees_init_17 : decode bTrees_init 17 = .ok (.putfield 15, 3) := by decide +kernel
theorem dTrees_init_20 : decode bTrees_init 20 = .ok (.aload_n 0, 1) := by decide +kernel
theorem dTrees_init_21 : decode bTrees_init 21 = .ok (.bipush 64, 2) := by decide +kernel
theorem dTrees_init_23 : decode bTrees_init 23 = .ok (.newarray .int, 2) := by decide +kernel
theorem dTrees_init_25 : decode bTrees_init 25 = .ok (.putfield 18, 3) := by decide +kernel
theorem dTrees_init_28 : decode bTrees_init 28 = .ok (.aload_n 0, 1) := by decide +kernel
theorem dTrees_init_29 : decode bTrees_init 29 = .ok (.bipush 64, 2) := by decide +kernel
theorem dTrees_init_31 : decode bTrees_init 31 = .ok (.newarray .int, 2) := by decide +kernel
theorem dTrees_init_33 : decode bTrees_init 33 = .ok (.putfield 21, 3) := by decide +kernel
theorem dTrees_init_36 : decode bTrees_init 36 = .ok (.aload_n 0, 1) := by decide +kernel
theorem dTrees_init_37 : decode bTrees_init 37 = .ok (.iconst 0, 1) := by decide +kernel
theorem dTrees_init_38 : decode bTrees_init 38 = .ok (.putfield 24, 3) := by decide +kernel
theorem dTrees_init_41 : decode bTrees_init 41 = .ok (.aload_n 0, 1) := by decide +kernel
theorem dTrees_init_42 : decode bTrees_init 42 = .ok (.iconst 0, 1) := by decide +kernel
theorem dTrees_init_43 : decode bTrees_init 43 = .ok (.putfield 28, 3) := by decide +kernel
theorem dTrees_init_46 : decode bTrees_init 46 = .ok (.return_, 1) := by decide +kernel
theorem dTrees_bearsName_0 : decode bTrees_bearsName 0 = .ok (.iload_n 0, 1) := by decide +kernel
theorem dTrees_bearsName_1 : decode bTrees_bearsName 1 = .ok (.iconst 1, 1) := by decide +kernel
theorem dTrees_bearsName_2 : decode bTrees_bearsName 2 = .ok (.if_icmp .eq 27, 3) := by decide +kernel
theorem dTrees_bearsName_5 : decode bTrees_bearsName 5 = .ok (.iload_n 0, 1) := by decide +kernel
theorem dTrees_bearsName_6 : decode bTrees_bearsName 6 = .ok (.bipush 10, 2) := by decide +kernel
theorem dTrees_bearsName_8 : decode bTrees_bearsName 8 = .ok (.if_icmp .eq 21, 3) := by decide +kernel
theorem dTrees_bearsName_11 : decode bTrees_bearsName 11 = .ok (.iload_n 0, 1) := by decide +kernel
theorem dTrees_bearsName_12 : decode bTrees_bearsName 12 = .ok (.bipush 22, 2) := by decide +kernel
theorem dTrees_bearsName_14 : decode bTrees_bearsName 14 = .ok (.if_icmp .lt 9, 3) := by decide +kernel
theorem dTrees_bearsName_17 : decode bTrees_bearsName 17 = .ok (.iload_n 0, 1) := by decide +kernel
theorem dTrees_bearsName_18 : decode bTrees_bearsName 18 = .ok (.bipush 25, 2) := by decide +kernel
theorem dTrees_bearsName_20 : decode bTrees_bearsName 20 = .ok (.if_icmp .le 9, 3) := by decide +kernel
theorem dTrees_bearsName_23 : decode bTrees_bearsName 23 = .ok (.iload_n 0, 1) := by decide +kernel
theorem dTrees_bearsName_24 : decode bTrees_bearsName 24 = .ok (.bipush 53, 2) := by decide +kernel
theorem dTrees_bearsName_26 : decode bTrees_bearsName 26 = .ok (.if_icmp .ne 7, 3) := by decide +kernel
theorem dTrees_bearsName_29 : decode bTrees_bearsName 29 = .ok (.iconst 1, 1) := by decide +kernel
theorem dTrees_bearsName_30 : decode bTrees_bearsName 30 = .ok (.goto 4, 3) := by decide +kernel
theorem dTrees_bearsName_33 : decode bTrees_bearsName 33 = .ok (.iconst 0, 1) := by decide +kernel
theorem dTrees_bearsName_34 : decode bTrees_bearsName 34 = .ok (.ireturn, 1) := by decide +kernel
theorem dTrees_has_0 : decode bTrees_has 0 = .ok (.iload_n 1, 1) := by decide +kernel
theorem dTrees_has_1 : decode bTrees_has 1 = .ok (.ifCond .lt 15, 3) := by decide +kernel
theorem dTrees_has_4 : decode bTrees_has 4 = .ok (.iload_n 1, 1) := by decide +kernel
theorem dTrees_has_5 : decode bTrees_has 5 = .ok (.aload_n 0, 1) := by decide +kernel
theorem dTrees_has_6 : decode bTrees_has 6 = .ok (.getfield 24, 3) := by decide +kernel
theorem dTrees_has_9 : decode bTrees_has 9 = .ok (.if_icmp .ge 7, 3) := by decide +kernel
theorem dTrees_has_12 : decode bTrees_has 12 = .ok (.iconst 1, 1) := by decide +kernel
theorem dTrees_has_13 : decode bTrees_has 13 = .ok (.goto 4, 3) := by decide +kernel
theorem dTrees_has_16 : decode bTrees_has 16 = .ok (.iconst 0, 1) := by decide +kernel
theorem dTrees_has_17 : decode bTrees_has 17 = .ok (.ireturn, 1) := by decide +kernel
theorem dTrees_kindOf_0 : decode bTrees_kindOf 0 = .ok (.aload_n 0, 1) := by decide +kernel
theorem dTrees_kindOf_1 : decode bTrees_kindOf 1 = .ok (.iload_n 1, 1) := by decide +kernel
theorem dTrees_kindOf_2 : decode bTrees_kindOf 2 = .ok (.invokevirtual 31, 3) := by decide +kernel
theorem dTrees_kindOf_5 : decode bTrees_kindOf 5 = .ok (.ifCond .eq 12, 3) := by decide +kernel
theorem dTrees_kindOf_8 : decode bTrees_kindOf 8 = .ok (.aload_n 0, 1) := by decide +kernel
theorem dTrees_kindOf_9 : decode bTrees_kindOf 9 = .ok (.getfield 9, 3) := by decide +kernel
theorem dTrees_kindOf_12 : decode bTrees_kindOf 12 = .ok (.iload_n 1, 1) := by decide +kernel
theorem dTrees_kindOf_13 : decode bTrees_kindOf 13 = .ok (.iaload, 1) := by decide +kernel
theorem dTrees_kindOf_14 : decode bTrees_kindOf 14 = .ok (.goto 4, 3) := by decide +kernel
theorem dTrees_kindOf_17 : decode bTrees_kindOf 17 = .ok (.iconst (-1), 1) := by decide +kernel
theorem dTrees_kindOf_18 : decode bTrees_kindOf 18 = .ok (.ireturn, 1) := by decide +kernel
theorem dTrees_valueOf_0 : decode bTrees_valueOf 0 = .ok (.aload_n 0, 1) := by decide +kernel
theorem dTrees_valueOf_1 : decode bTrees_valueOf 1 = .ok (.iload_n 1, 1) := by decide +kernel
theorem dTrees_valueOf_2 : decode bTrees_valueOf 2 = .ok (.invokevirtual 31, 3) := by decide +kernel
theorem dTrees_valueOf_5 : decode bTrees_valueOf 5 = .ok (.ifCond .eq 12, 3) := by decide +kernel
theorem dTrees_valueOf_8 : decode bTrees_valueOf 8 = .ok (.aload_n 0, 1) := by decide +kernel
theorem dTrees_valueOf_9 : decode bTrees_valueOf 9 = .ok (.getfield 15, 3) := by decide +kernel
theorem dTrees_valueOf_12 : decode bTrees_valueOf 12 = .ok (.iload_n 1, 1) := by decide +kernel
theorem dTrees_valueOf_13 : decode bTrees_valueOf 13 = .ok (.iaload, 1) := by decide +kernel
theorem dTrees_valueOf_14 : decode bTrees_valueOf 14 = .ok (.goto 4, 3) := by decide +kernel
theorem dTrees_valueOf_17 : decode bTrees_valueOf 17 = .ok (.iconst (-1), 1) := by decide +kernel
theorem dTrees_valueOf_18 : decode bTrees_valueOf 18 = .ok (.ireturn, 1) := by decide +kernel
theorem dTrees_countOf_0 : decode bTrees_countOf 0 = .ok (.aload_n 0, 1) := by decide +kernel
theorem dTrees_countOf_1 : decode bTrees_countOf 1 = .ok (.iload_n 1, 1) := by decide +kernel
theorem dTrees_countOf_2 : decode bTrees_countOf 2 = .ok (.invokevirtual 31, 3) := by decide +kernel
theorem dTrees_countOf_5 : decode bTrees_countOf 5 = .ok (.ifCond .eq 12, 3) := by decide +kernel
theorem dTrees_countOf_8 : decode bTrees_countOf 8 = .ok (.aload_n 0, 1) := by decide +kernel
theorem dTrees_countOf_9 : decode bTrees_countOf 9 = .ok (.getfield 18, 3) := by decide +kernel
theorem dTrees_countOf_12 : decode bTrees_countOf 12 = .ok (.iload_n 1, 1) := by decide +kernel
theorem dTrees_countOf_13 : decode bTrees_countOf 13 = .ok (.iaload, 1) := by decide +kernel
theorem dTrees_countOf_14 : decode bTrees_countOf 14 = .ok (.goto 4, 3) := by decide +kernel
theorem dTrees_countOf_17 : decode bTrees_countOf 17 = .ok (.iconst 0, 1) := by decide +kernel
theorem dTrees_countOf_18 : decode bTrees_countOf 18 = .ok (.ireturn, 1) := by decide +kernel
theorem dTrees_firstOf_0 : decode bTrees_firstOf 0 = .ok (.aload_n 0, 1) := by decide +kernel
theorem dTrees_firstOf_1 : decode bTrees_firstOf 1 = .ok (.iload_n 1, 1) := by decide +kernel
theorem dTrees_firstOf_2 : decode bTrees_firstOf 2 = .ok (.invokevirtual 31, 3) := by decide +kernel
theorem dTrees_firstOf_5 : decode bTrees_firstOf 5 = .ok (.ifCond .eq 12, 3) := by decide +kernel
theorem dTrees_firstOf_8 : decode bTrees_firstOf 8 = .ok (.aload_n 0, 1) := by decide +kernel
theorem dTrees_firstOf_9 : decode bTrees_firstOf 9 = .ok (.getfield 21, 3) := by decide +kernel
theorem dTrees_firstOf_12 : decode bTrees_firstOf 12 = .ok (.iload_n 1, 1) := by decide +kernel
theorem dTrees_firstOf_13 : decode bTrees_firstOf 13 = .ok (.iaload, 1) := by decide +kernel
theorem dTrees_firstOf_14 : decode bTrees_firstOf 14 = .ok (.goto 4, 3) := by decide +kernel
theorem dTrees_firstOf_17 : decode bTrees_firstOf 17 = .ok (.iconst 0, 1) := by decide +kernel
theorem dTrees_firstOf_18 : decode bTrees_firstOf 18 = .ok (.ireturn, 1) := by decide +kernel
theorem dTrees_leftOfTwo_0 : decode bTrees_leftOfTwo 0 = .ok (.aload_n 0, 1) := by decide +kernel
theorem dTrees_leftOfTwo_1 : decode bTrees_leftOfTwo 1 = .ok (.iload_n 1, 1) := by decide +kernel
theorem dTrees_leftOfTwo_2 : decode bTrees_leftOfTwo 2 = .ok (.iconst 1, 1) := by decide +kernel
theorem dTrees_leftOfTwo_3 : decode bTrees_leftOfTwo 3 = .ok (.isub, 1) := by decide +kernel
theorem dTrees_leftOfTwo_4 : decode bTrees_leftOfTwo 4 = .ok (.invokevirtual 35, 3) := by decide +kernel
theorem dTrees_leftOfTwo_7 : decode bTrees_leftOfTwo 7 = .ok (.iconst 1, 1) := by decide +kernel
theorem dTrees_leftOfTwo_8 : decode bTrees_leftOfTwo 8 = .ok (.isub, 1) := by decide +kernel
theorem dTrees_leftOfTwo_9 : decode bTrees_leftOfTwo 9 = .ok (.ireturn, 1) := by decide +kernel
theorem dTrees_grow_0 : decode bTrees_grow 0 = .ok (.aload_n 0, 1) := by decide +kernel
theorem dTrees_grow_1 : decode bTrees_grow 1 = .ok (.getfield 24, 3) := by decide +kernel
theorem dTrees_grow_4 : decode bTrees_grow 4 = .ok (.istore 4, 2) := by decide +kernel
theorem dTrees_grow_6 : decode bTrees_grow 6 = .ok (.aload_n 0, 1) := by decide +kernel
theorem dTrees_grow_7 : decode bTrees_grow 7 = .ok (.aload_n 0, 1) := by decide +kernel
theorem dTrees_grow_8 : decode bTrees_grow 8 = .ok (.getfield 9, 3) := by decide +kernel
theorem dTrees_grow_11 : decode bTrees_grow 11 = .ok (.iload 4, 2) := by decide +kernel
theorem dTrees_grow_13 : decode bTrees_grow 13 = .ok (.iconst 1, 1) := by decide +kernel
theorem dTrees_grow_14 : decode bTrees_grow 14 = .ok (.iadd, 1) := by decide +kernel
theorem dTrees_grow_15 : decode bTrees_grow 15 = .ok (.invokestatic 39, 3) := by decide +kernel
theorem dTrees_grow_18 : decode bTrees_grow 18 = .ok (.putfield 9, 3) := by decide +kernel
theorem dTrees_grow_21 : decode bTrees_grow 21 = .ok (.aload_n 0, 1) := by decide +kernel
theorem dTrees_grow_22 : decode bTrees_grow 22 = .ok (.aload_n 0, 1) := by decide +kernel
theorem dTrees_grow_23 : decode bTrees_grow 23 = .ok (.getfield 15, 3) := by decide +kernel
theorem dTrees_grow_26 : decode bTrees_grow 26 = .ok (.iload 4, 2) := by decide +kernel
theorem dTrees_grow_28 : decode bTrees_grow 28 = .ok (.iconst 1, 1) := by decide +kernel
theorem dTrees_grow_29 : decode bTrees_grow 29 = .ok (.iadd, 1) := by decide +kernel
theorem dTrees_grow_30 : decode bTrees_grow 30 = .ok (.invokestatic 39, 3) := by decide +kernel
theorem dTrees_grow_33 : decode bTrees_grow 33 = .ok (.putfield 15, 3) := by decide +kernel
theorem dTrees_grow_36 : decode bTrees_grow 36 = .ok (.aload_n 0, 1) := by decide +kernel
theorem dTrees_grow_37 : decode bTrees_grow 37 = .ok (.aload_n 0, 1) := by decide +kernel
theorem dTrees_grow_38 : decode bTrees_grow 38 = .ok (.getfield 18, 3) := by decide +kernel
theorem dTrees_grow_41 : decode bTrees_grow 41 = .ok (.iload 4, 2) := by decide +kernel
theorem dTrees_grow_43 : decode bTrees_grow 43 = .ok (.iconst 1, 1) := by decide +kernel
theorem dTrees_grow_44 : decode bTrees_grow 44 = .ok (.iadd, 1) := by decide +kernel
theorem dTrees_grow_45 : decode bTrees_grow 45 = .ok (.invokestatic 39, 3) := by decide +kernel
theorem dTrees_grow_48 : decode bTrees_grow 48 = .ok (.putfield 18, 3) := by decide +kernel
theorem dTrees_grow_51 : decode bTrees_grow 51 = .ok (.aload_n 0, 1) := by decide +kernel
theorem dTrees_grow_52 : decode bTrees_grow 52 = .ok (.aload_n 0, 1) := by decide +kernel
theorem dTrees_grow_53 : decode bTrees_grow 53 = .ok (.getfield 21, 3) := by decide +kernel
theorem dTrees_grow_56 : decode bTrees_grow 56 = .ok (.iload 4, 2) := by decide +kernel
theorem dTrees_grow_58 : decode bTrees_grow 58 = .ok (.iconst 1, 1) := by decide +kernel
theorem dTrees_grow_59 : decode bTrees_grow 59 = .ok (.iadd, 1) := by decide +kernel
theorem dTrees_grow_60 : decode bTrees_grow 60 = .ok (.invokestatic 39, 3) := by decide +kernel
theorem dTrees_grow_63 : decode bTrees_grow 63 = .ok (.putfield 21, 3) := by decide +kernel
theorem dTrees_grow_66 : decode bTrees_grow 66 = .ok (.iload 4, 2) := by decide +kernel
theorem dTrees_grow_68 : decode bTrees_grow 68 = .ok (.istore 5, 2) := by decide +kernel
theorem dTrees_grow_70 : decode bTrees_grow 70 = .ok (.iconst 0, 1) := by decide +kernel
theorem dTrees_grow_71 : decode bTrees_grow 71 = .ok (.istore 6, 2) := by decide +kernel
theorem dTrees_grow_73 : decode bTrees_grow 73 = .ok (.iload 6, 2) := by decide +kernel
theorem dTrees_grow_75 : decode bTrees_grow 75 = .ok (.iload_n 3, 1) := by decide +kernel
theorem dTrees_grow_76 : decode bTrees_grow 76 = .ok (.if_icmp .ge 19, 3) := by decide +kernel
theorem dTrees_grow_79 : decode bTrees_grow 79 = .ok (.aload_n 0, 1) := by decide +kernel
theorem dTrees_grow_80 : decode bTrees_grow 80 = .ok (.iload 5, 2) := by decide +kernel
theorem dTrees_grow_82 : decode bTrees_grow 82 = .ok (.iconst 1, 1) := by decide +kernel
theorem dTrees_grow_83 : decode bTrees_grow 83 = .ok (.isub, 1) := by decide +kernel
theorem dTrees_grow_84 : decode bTrees_grow 84 = .ok (.invokevirtual 35, 3) := by decide +kernel
theorem dTrees_grow_87 : decode bTrees_grow 87 = .ok (.istore 5, 2) := by decide +kernel
theorem dTrees_grow_89 : decode bTrees_grow 89 = .ok (.iinc 6 1, 3) := by decide +kernel
theorem dTrees_grow_92 : decode bTrees_grow 92 = .ok (.goto (-19), 3) := by decide +kernel
theorem dTrees_grow_95 : decode bTrees_grow 95 = .ok (.aload_n 0, 1) := by decide +kernel
theorem dTrees_grow_96 : decode bTrees_grow 96 = .ok (.getfield 9, 3) := by decide +kernel
theorem dTrees_grow_99 : decode bTrees_grow 99 = .ok (.iload 4, 2) := by decide +kernel
theorem dTrees_grow_101 : decode bTrees_grow 101 = .ok (.iload_n 1, 1) := by decide +kernel
theorem dTrees_grow_102 : decode bTrees_grow 102 = .ok (.iastore, 1) := by decide +kernel
theorem dTrees_grow_103 : decode bTrees_grow 103 = .ok (.aload_n 0, 1) := by decide +kernel
theorem dTrees_grow_104 : decode bTrees_grow 104 = .ok (.getfield 15, 3) := by decide +kernel
theorem dTrees_grow_107 : decode bTrees_grow 107 = .ok (.iload 4, 2) := by decide +kernel
theorem dTrees_grow_109 : decode bTrees_grow 109 = .ok (.iload_n 2, 1) := by decide +kernel
theorem dTrees_grow_110 : decode bTrees_grow 110 = .ok (.iastore, 1) := by decide +kernel
theorem dTrees_grow_111 : decode bTrees_grow 111 = .ok (.aload_n 0, 1) := by decide +kernel
theorem dTrees_grow_112 : decode bTrees_grow 112 = .ok (.getfield 18, 3) := by decide +kernel
theorem dTrees_grow_115 : decode bTrees_grow 115 = .ok (.iload 4, 2) := by decide +kernel
theorem dTrees_grow_117 : decode bTrees_grow 117 = .ok (.iload_n 3, 1) := by decide +kernel
theorem dTrees_grow_118 : decode bTrees_grow 118 = .ok (.iastore, 1) := by decide +kernel
theorem dTrees_grow_119 : decode bTrees_grow 119 = .ok (.aload_n 0, 1) := by decide +kernel
theorem dTrees_grow_120 : decode bTrees_grow 120 = .ok (.getfield 21, 3) := by decide +kernel
theorem dTrees_grow_123 : decode bTrees_grow 123 = .ok (.iload 4, 2) := by decide +kernel
theorem dTrees_grow_125 : decode bTrees_grow 125 = .ok (.iload 5, 2) := by decide +kernel
theorem dTrees_grow_127 : decode bTrees_grow 127 = .ok (.iastore, 1) := by decide +kernel
theorem dTrees_grow_128 : decode bTrees_grow 128 = .ok (.aload_n 0, 1) := by decide +kernel
theorem dTrees_grow_129 : decode bTrees_grow 129 = .ok (.dup, 1) := by decide +kernel
theorem dTrees_grow_130 : decode bTrees_grow 130 = .ok (.getfield 24, 3) := by decide +kernel
theorem dTrees_grow_133 : decode bTrees_grow 133 = .ok (.iconst 1, 1) := by decide +kernel
theorem dTrees_grow_134 : decode bTrees_grow 134 = .ok (.iadd, 1) := by decide +kernel
theorem dTrees_grow_135 : decode bTrees_grow 135 = .ok (.putfield 24, 3) := by decide +kernel
theorem dTrees_grow_138 : decode bTrees_grow 138 = .ok (.aload_n 0, 1) := by decide +kernel
theorem dTrees_grow_139 : decode bTrees_grow 139 = .ok (.dup, 1) := by decide +kernel
theorem dTrees_grow_140 : decode bTrees_grow 140 = .ok (.getfield 28, 3) := by decide +kernel
theorem dTrees_grow_143 : decode bTrees_grow 143 = .ok (.iconst 1, 1) := by decide +kernel
theorem dTrees_grow_144 : decode bTrees_grow 144 = .ok (.iload_n 3, 1) := by decide +kernel
theorem dTrees_grow_145 : decode bTrees_grow 145 = .ok (.isub, 1) := by decide +kernel
theorem dTrees_grow_146 : decode bTrees_grow 146 = .ok (.iadd, 1) := by decide +kernel
theorem dTrees_grow_147 : decode bTrees_grow 147 = .ok (.putfield 28, 3) := by decide +kernel
theorem dTrees_grow_150 : decode bTrees_grow 150 = .ok (.iload 4, 2) := by decide +kernel
theorem dTrees_grow_152 : decode bTrees_grow 152 = .ok (.ireturn, 1) := by decide +kernel
theorem dTrees_fell_0 : decode bTrees_fell 0 = .ok (.aload_n 0, 1) := by decide +kernel
theorem dTrees_fell_1 : decode bTrees_fell 1 = .ok (.iconst 0, 1) := by decide +kernel
theorem dTrees_fell_2 : decode bTrees_fell 2 = .ok (.putfield 24, 3) := by decide +kernel
theorem dTrees_fell_5 : decode bTrees_fell 5 = .ok (.aload_n 0, 1) := by decide +kernel
theorem dTrees_fell_6 : decode bTrees_fell 6 = .ok (.iconst 0, 1) := by decide +kernel
theorem dTrees_fell_7 : decode bTrees_fell 7 = .ok (.putfield 28, 3) := by decide +kernel
theorem dTrees_fell_10 : decode bTrees_fell 10 = .ok (.return_, 1) := by decide +kernel
