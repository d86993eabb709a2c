theorem dOperators_init_0 : decode bOperators_init 0 = .ok (.aload_n 0, 1) := by decide +kernel
theorem dOperators_init_1 : decode bOperators_init 1 = .ok (.invokespecial 3, 3) := by decide +kernel
theorem dOperators_init_4 : decode bOperators_init 4 = .ok (.aload_n 0, 1) := by decide +kernel
theorem dOperators_init_5 : decode bOperators_init 5 = .ok (.aload_n 1, 1) := by decide +kernel
theorem dOperators_init_6 : decode bOperators_init 6 = .ok (.putfield 9, 3) := by decide +kernel
theorem dOperators_init_9 : decode bOperators_init 9 = .ok (.return_, 1) := by decide +kernel
theorem dOperators_unary_0 : decode bOperators_unary 0 = .ok (.aload_n 0, 1) := by decide +kernel
theorem dOperators_unary_1 : decode bOperators_unary 1 = .ok (.getfield 9, 3) := by decide +kernel
theorem dOperators_unary_4 : decode bOperators_unary 4 = .ok (.iload_n 3, 1) := by decide +kernel
theorem dOperators_unary_5 : decode bOperators_unary 5 = .ok (.invokevirtual 15, 3) := by decide +kernel
theorem dOperators_unary_8 : decode bOperators_unary 8 = .ok (.istore 4, 2) := by decide +kernel
theorem dOperators_unary_10 : decode bOperators_unary 10 = .ok (.iload_n 2, 1) := by decide +kernel
theorem dOperators_unary_11 : decode bOperators_unary 11 = .ok (.ifCond .ne 28, 3) := by decide +kernel
theorem dOperators_unary_14 : decode bOperators_unary 14 = .ok (.iload 4, 2) := by decide +kernel
theorem dOperators_unary_16 : decode bOperators_unary 16 = .ok (.iconst 1, 1) := by decide +kernel
theorem dOperators_unary_17 : decode bOperators_unary 17 = .ok (.if_icmp .eq 14, 3) := by decide +kernel
theorem dOperators_unary_20 : decode bOperators_unary 20 = .ok (.iload 4, 2) := by decide +kernel
theorem dOperators_unary_22 : decode bOperators_unary 22 = .ok (.ifCond .eq 9, 3) := by decide +kernel
theorem dOperators_unary_25 : decode bOperators_unary 25 = .ok (.iload 4, 2) := by decide +kernel
theorem dOperators_unary_27 : decode bOperators_unary 27 = .ok (.iconst 3, 1) := by decide +kernel
theorem dOperators_unary_28 : decode bOperators_unary 28 = .ok (.if_icmp .ne 7, 3) := by decide +kernel
theorem dOperators_unary_31 : decode bOperators_unary 31 = .ok (.iconst 1, 1) := by decide +kernel
theorem dOperators_unary_32 : decode bOperators_unary 32 = .ok (.goto 18, 3) := by decide +kernel
theorem dOperators_unary_35 : decode bOperators_unary 35 = .ok (.iconst 0, 1) := by decide +kernel
theorem dOperators_unary_36 : decode bOperators_unary 36 = .ok (.goto 14, 3) := by decide +kernel
theorem dOperators_unary_39 : decode bOperators_unary 39 = .ok (.iload 4, 2) := by decide +kernel
theorem dOperators_unary_41 : decode bOperators_unary 41 = .ok (.iconst 2, 1) := by decide +kernel
theorem dOperators_unary_42 : decode bOperators_unary 42 = .ok (.if_icmp .ne 7, 3) := by decide +kernel
theorem dOperators_unary_45 : decode bOperators_unary 45 = .ok (.iconst 1, 1) := by decide +kernel
theorem dOperators_unary_46 : decode bOperators_unary 46 = .ok (.goto 4, 3) := by decide +kernel
theorem dOperators_unary_49 : decode bOperators_unary 49 = .ok (.iconst 0, 1) := by decide +kernel
theorem dOperators_unary_50 : decode bOperators_unary 50 = .ok (.istore 5, 2) := by decide +kernel
theorem dOperators_unary_52 : decode bOperators_unary 52 = .ok (.iload 5, 2) := by decide +kernel
theorem dOperators_unary_54 : decode bOperators_unary 54 = .ok (.ifCond .ne 5, 3) := by decide +kernel
theorem dOperators_unary_57 : decode bOperators_unary 57 = .ok (.iconst 3, 1) := by decide +kernel
theorem dOperators_unary_58 : decode bOperators_unary 58 = .ok (.ireturn, 1) := by decide +kernel
theorem dOperators_unary_59 : decode bOperators_unary 59 = .ok (.aload_n 0, 1) := by decide +kernel
theorem dOperators_unary_60 : decode bOperators_unary 60 = .ok (.getfield 9, 3) := by decide +kernel
theorem dOperators_unary_63 : decode bOperators_unary 63 = .ok (.iload_n 1, 1) := by decide +kernel
theorem dOperators_unary_64 : decode bOperators_unary 64 = .ok (.iload 4, 2) := by decide +kernel
theorem dOperators_unary_66 : decode bOperators_unary 66 = .ok (.aload_n 0, 1) := by decide +kernel
theorem dOperators_unary_67 : decode bOperators_unary 67 = .ok (.getfield 9, 3) := by decide +kernel
theorem dOperators_unary_70 : decode bOperators_unary 70 = .ok (.iload_n 3, 1) := by decide +kernel
theorem dOperators_unary_71 : decode bOperators_unary 71 = .ok (.invokevirtual 21, 3) := by decide +kernel
theorem dOperators_unary_74 : decode bOperators_unary 74 = .ok (.aload_n 0, 1) := by decide +kernel
theorem dOperators_unary_75 : decode bOperators_unary 75 = .ok (.getfield 9, 3) := by decide +kernel
theorem dOperators_unary_78 : decode bOperators_unary 78 = .ok (.iload_n 3, 1) := by decide +kernel
theorem dOperators_unary_79 : decode bOperators_unary 79 = .ok (.invokevirtual 24, 3) := by decide +kernel
theorem dOperators_unary_82 : decode bOperators_unary 82 = .ok (.invokevirtual 28, 3) := by decide +kernel
theorem dOperators_unary_85 : decode bOperators_unary 85 = .ok (.aload_n 0, 1) := by decide +kernel
theorem dOperators_unary_86 : decode bOperators_unary 86 = .ok (.getfield 9, 3) := by decide +kernel
theorem dOperators_unary_89 : decode bOperators_unary 89 = .ok (.iload_n 3, 1) := by decide +kernel
theorem dOperators_unary_90 : decode bOperators_unary 90 = .ok (.invokevirtual 24, 3) := by decide +kernel
theorem dOperators_unary_93 : decode bOperators_unary 93 = .ok (.ifCond .eq 10, 3) := by decide +kernel
theorem dOperators_unary_96 : decode bOperators_unary 96 = .ok (.aload_n 0, 1) := by decide +kernel
theorem dOperators_unary_97 : decode bOperators_unary 97 = .ok (.iload_n 1, 1) := by decide +kernel
theorem dOperators_unary_98 : decode bOperators_unary 98 = .ok (.iload_n 2, 1) := by decide +kernel
theorem dOperators_unary_99 : decode bOperators_unary 99 = .ok (.iload_n 3, 1) := by decide +kernel
theorem dOperators_unary_100 : decode bOperators_unary 100 = .ok (.invokevirtual 32, 3) := by decide +kernel
theorem dOperators_unary_103 : decode bOperators_unary 103 = .ok (.iconst 0, 1) := by decide +kernel
theorem dOperators_unary_104 : decode bOperators_unary 104 = .ok (.ireturn, 1) := by decide +kernel
theorem dOperators_computeUnary_0 : decode bOperators_computeUnary 0 = .ok (.aload_n 0, 1) := by decide +kernel
theorem dOperators_computeUnary_1 : decode bOperators_computeUnary 1 = .ok (.getfield 9, 3) := by decide +kernel
theorem dOperators_computeUnary_4 : decode bOperators_computeUnary 4 = .ok (.iload_n 3, 1) := by decide +kernel
theorem dOperators_computeUnary_5 : decode bOperators_computeUnary 5 = .ok (.invokevirtual 36, 3) := by decide +kernel
theorem dOperators_computeUnary_8 : decode bOperators_computeUnary 8 = .ok (.istore 4, 2) := by decide +kernel
theorem dOperators_computeUnary_10 : decode bOperators_computeUnary 10 = .ok (.aload_n 0, 1) := by decide +kernel
theorem dOperators_computeUnary_11 : decode bOperators_computeUnary 11 = .ok (.getfield 9, 3) := by decide +kernel
theorem dOperators_computeUnary_14 : decode bOperators_computeUnary 14 = .ok (.iload_n 3, 1) := by decide +kernel
theorem dOperators_computeUnary_15 : decode bOperators_computeUnary 15 = .ok (.invokevirtual 15, 3) := by decide +kernel
theorem dOperators_computeUnary_18 : decode bOperators_computeUnary 18 = .ok (.tableswitch 115 0 3 #[45, 30, 115, 61], 30) := by decide +kernel
theorem dOperators_computeUnary_48 : decode bOperators_computeUnary 48 = .ok (.aload_n 0, 1) := by decide +kernel
theorem dOperators_computeUnary_49 : decode bOperators_computeUnary 49 = .ok (.getfield 9, 3) := by decide +kernel
theorem dOperators_computeUnary_52 : decode bOperators_computeUnary 52 = .ok (.iload_n 1, 1) := by decide +kernel
theorem dOperators_computeUnary_53 : decode bOperators_computeUnary 53 = .ok (.iconst 1, 1) := by decide +kernel
theorem dOperators_computeUnary_54 : decode bOperators_computeUnary 54 = .ok (.iload 4, 2) := by decide +kernel
theorem dOperators_computeUnary_56 : decode bOperators_computeUnary 56 = .ok (.isub, 1) := by decide +kernel
theorem dOperators_computeUnary_57 : decode bOperators_computeUnary 57 = .ok (.invokevirtual 39, 3) := by decide +kernel
theorem dOperators_computeUnary_60 : decode bOperators_computeUnary 60 = .ok (.goto 107, 3) := by decide +kernel
theorem dOperators_computeUnary_63 : decode bOperators_computeUnary 63 = .ok (.aload_n 0, 1) := by decide +kernel
theorem dOperators_computeUnary_64 : decode bOperators_computeUnary 64 = .ok (.getfield 9, 3) := by decide +kernel
theorem dOperators_computeUnary_67 : decode bOperators_computeUnary 67 = .ok (.iload_n 1, 1) := by decide +kernel
theorem dOperators_computeUnary_68 : decode bOperators_computeUnary 68 = .ok (.iload 4, 2) := by decide +kernel
theorem dOperators_computeUnary_70 : decode bOperators_computeUnary 70 = .ok (.invokestatic 43, 3) := by decide +kernel
theorem dOperators_computeUnary_73 : decode bOperators_computeUnary 73 = .ok (.invokevirtual 39, 3) := by decide +kernel
theorem dOperators_computeUnary_76 : decode bOperators_computeUnary 76 = .ok (.goto 91, 3) := by decide +kernel
theorem dOperators_computeUnary_79 : decode bOperators_computeUnary 79 = .ok (.iconst 0, 1) := by decide +kernel
theorem dOperators_computeUnary_80 : decode bOperators_computeUnary 80 = .ok (.istore 5, 2) := by decide +kernel
theorem dOperators_computeUnary_82 : decode bOperators_computeUnary 82 = .ok (.iload 5, 2) := by decide +kernel
theorem dOperators_computeUnary_84 : decode bOperators_computeUnary 84 = .ok (.aload_n 0, 1) := by decide +kernel
theorem dOperators_computeUnary_85 : decode bOperators_computeUnary 85 = .ok (.getfield 9, 3) := by decide +kernel
theorem dOperators_computeUnary_88 : decode bOperators_computeUnary 88 = .ok (.iload_n 3, 1) := by decide +kernel
theorem dOperators_computeUnary_89 : decode bOperators_computeUnary 89 = .ok (.invokevirtual 21, 3) := by decide +kernel
theorem dOperators_computeUnary_92 : decode bOperators_computeUnary 92 = .ok (.if_icmp .ge 38, 3) := by decide +kernel
theorem dOperators_computeUnary_95 : decode bOperators_computeUnary 95 = .ok (.aload_n 0, 1) := by decide +kernel
theorem dOperators_computeUnary_96 : decode bOperators_computeUnary 96 = .ok (.getfield 9, 3) := by decide +kernel
theorem dOperators_computeUnary_99 : decode bOperators_computeUnary 99 = .ok (.getfield 48, 3) := by decide +kernel
theorem dOperators_computeUnary_102 : decode bOperators_computeUnary 102 = .ok (.iload_n 1, 1) := by decide +kernel
theorem dOperators_computeUnary_103 : decode bOperators_computeUnary 103 = .ok (.iload 5, 2) := by decide +kernel
theorem dOperators_computeUnary_105 : decode bOperators_computeUnary 105 = .ok (.aload_n 0, 1) := by decide +kernel
theorem dOperators_computeUnary_106 : decode bOperators_computeUnary 106 = .ok (.getfield 9, 3) := by decide +kernel
theorem dOperators_computeUnary_109 : decode bOperators_computeUnary 109 = .ok (.getfield 48, 3) := by decide +kernel
theorem dOperators_computeUnary_112 : decode bOperators_computeUnary 112 = .ok (.iload_n 3, 1) := by decide +kernel
theorem dOperators_computeUnary_113 : decode bOperators_computeUnary 113 = .ok (.iload 5, 2) := by decide +kernel
theorem dOperators_computeUnary_115 : decode bOperators_computeUnary 115 = .ok (.invokevirtual 52, 3) := by decide +kernel
theorem dOperators_computeUnary_118 : decode bOperators_computeUnary 118 = .ok (.invokestatic 43, 3) := by decide +kernel
theorem dOperators_computeUnary_121 : decode bOperators_computeUnary 121 = .ok (.invokevirtual 58, 3) := by decide +kernel
theorem dOperators_computeUnary_124 : decode bOperators_computeUnary 124 = .ok (.iinc 5 1, 3) := by decide +kernel
theorem dOperators_computeUnary_127 : decode bOperators_computeUnary 127 = .ok (.goto (-45), 3) := by decide +kernel
theorem dOperators_computeUnary_130 : decode bOperators_computeUnary 130 = .ok (.goto 37, 3) := by decide +kernel
theorem dOperators_computeUnary_133 : decode bOperators_computeUnary 133 = .ok (.aload_n 0, 1) := by decide +kernel
theorem dOperators_computeUnary_134 : decode bOperators_computeUnary 134 = .ok (.getfield 9, 3) := by decide +kernel
theorem dOperators_computeUnary_137 : decode bOperators_computeUnary 137 = .ok (.iload_n 1, 1) := by decide +kernel
theorem dOperators_computeUnary_138 : decode bOperators_computeUnary 138 = .ok (.iload_n 2, 1) := by decide +kernel
theorem dOperators_computeUnary_139 : decode bOperators_computeUnary 139 = .ok (.iconst 1, 1) := by decide +kernel
theorem dOperators_computeUnary_140 : decode bOperators_computeUnary 140 = .ok (.if_icmp .ne 9, 3) := by decide +kernel
theorem dOperators_computeUnary_143 : decode bOperators_computeUnary 143 = .ok (.iload 4, 2) := by decide +kernel
theorem dOperators_computeUnary_145 : decode bOperators_computeUnary 145 = .ok (.ineg, 1) := by decide +kernel
theorem dOperators_computeUnary_146 : decode bOperators_computeUnary 146 = .ok (.goto 18, 3) := by decide +kernel
theorem dOperators_computeUnary_149 : decode bOperators_computeUnary 149 = .ok (.iload_n 2, 1) := by decide +kernel
theorem dOperators_computeUnary_150 : decode bOperators_computeUnary 150 = .ok (.iconst 3, 1) := by decide +kernel
theorem dOperators_computeUnary_151 : decode bOperators_computeUnary 151 = .ok (.if_icmp .ne 11, 3) := by decide +kernel
theorem dOperators_computeUnary_154 : decode bOperators_computeUnary 154 = .ok (.iload 4, 2) := by decide +kernel
theorem dOperators_computeUnary_156 : decode bOperators_computeUnary 156 = .ok (.invokestatic 61, 3) := by decide +kernel
theorem dOperators_computeUnary_159 : decode bOperators_computeUnary 159 = .ok (.goto 5, 3) := by decide +kernel
theorem dOperators_computeUnary_162 : decode bOperators_computeUnary 162 = .ok (.iload 4, 2) := by decide +kernel
theorem dOperators_computeUnary_164 : decode bOperators_computeUnary 164 = .ok (.invokevirtual 39, 3) := by decide +kernel
theorem dOperators_computeUnary_167 : decode bOperators_computeUnary 167 = .ok (.return_, 1) := by decide +kernel
theorem dOperators_binary_0 : decode bOperators_binary 0 = .ok (.aload_n 0, 1) := by decide +kernel
theorem dOperators_binary_1 : decode bOperators_binary 1 = .ok (.iload_n 2, 1) := by decide +kernel
theorem dOperators_binary_2 : decode bOperators_binary 2 = .ok (.iload_n 3, 1) := by decide +kernel
theorem dOperators_binary_3 : decode bOperators_binary 3 = .ok (.iload 4, 2) := by decide +kernel
theorem dOperators_binary_5 : decode bOperators_binary 5 = .ok (.invokevirtual 66, 3) := by decide +kernel
theorem dOperators_binary_8 : decode bOperators_binary 8 = .ok (.istore 5, 2) := by decide +kernel
theorem dOperators_binary_10 : decode bOperators_binary 10 = .ok (.iload 5, 2) := by decide +kernel
theorem dOperators_binary_12 : decode bOperators_binary 12 = .ok (.iconst (-1), 1) := by decide +kernel
theorem dOperators_binary_13 : decode bOperators_binary 13 = .ok (.if_icmp .ne 5, 3) := by decide +kernel
theorem dOperators_binary_16 : decode bOperators_binary 16 = .ok (.iconst 3, 1) := by decide +kernel
theorem dOperators_binary_17 : decode bOperators_binary 17 = .ok (.ireturn, 1) := by decide +kernel
theorem dOperators_binary_18 : decode bOperators_binary 18 = .ok (.iload 5, 2) := by decide +kernel
theorem dOperators_binary_20 : decode bOperators_binary 20 = .ok (.iconst 3, 1) := by decide +kernel
theorem dOperators_binary_21 : decode bOperators_binary 21 = .ok (.if_icmp .ne 14, 3) := by decide +kernel
theorem dOperators_binary_24 : decode bOperators_binary 24 = .ok (.aload_n 0, 1) := by decide +kernel
theorem dOperators_binary_25 : decode bOperators_binary 25 = .ok (.iload_n 2, 1) := by decide +kernel
theorem dOperators_binary_26 : decode bOperators_binary 26 = .ok (.iload_n 3, 1) := by decide +kernel
theorem dOperators_binary_27 : decode bOperators_binary 27 = .ok (.iload 4, 2) := by decide +kernel
theorem dOperators_binary_29 : decode bOperators_binary 29 = .ok (.invokevirtual 70, 3) := by decide +kernel
theorem dOperators_binary_32 : decode bOperators_binary 32 = .ok (.goto 4, 3) := by decide +kernel
theorem dOperators_binary_35 : decode bOperators_binary 35 = .ok (.iconst 0, 1) := by decide +kernel
theorem dOperators_binary_36 : decode bOperators_binary 36 = .ok (.istore 6, 2) := by decide +kernel
theorem dOperators_binary_38 : decode bOperators_binary 38 = .ok (.aload_n 0, 1) := by decide +kernel
theorem dOperators_binary_39 : decode bOperators_binary 39 = .ok (.getfield 9, 3) := by decide +kernel
theorem dOperators_binary_42 : decode bOperators_binary 42 = .ok (.iload_n 1, 1) := by decide +kernel
theorem dOperators_binary_43 : decode bOperators_binary 43 = .ok (.iload 5, 2) := by decide +kernel
theorem dOperators_binary_45 : decode bOperators_binary 45 = .ok (.iload 6, 2) := by decide +kernel
theorem dOperators_binary_47 : decode bOperators_binary 47 = .ok (.aload_n 0, 1) := by decide +kernel
theorem dOperators_binary_48 : decode bOperators_binary 48 = .ok (.getfield 9, 3) := by decide +kernel
theorem dOperators_binary_51 : decode bOperators_binary 51 = .ok (.iload_n 3, 1) := by decide +kernel
theorem dOperators_binary_52 : decode bOperators_binary 52 = .ok (.invokevirtual 24, 3) := by decide +kernel
theorem dOperators_binary_55 : decode bOperators_binary 55 = .ok (.ifCond .eq 19, 3) := by decide +kernel
theorem dOperators_binary_58 : decode bOperators_binary 58 = .ok (.aload_n 0, 1) := by decide +kernel
theorem dOperators_binary_59 : decode bOperators_binary 59 = .ok (.getfield 9, 3) := by decide +kernel
theorem dOperators_binary_62 : decode bOperators_binary 62 = .ok (.iload 4, 2) := by decide +kernel
theorem dOperators_binary_64 : decode bOperators_binary 64 = .ok (.invokevirtual 24, 3) := by decide +kernel
theorem dOperators_binary_67 : decode bOperators_binary 67 = .ok (.ifCond .eq 7, 3) := by decide +kernel
theorem dOperators_binary_70 : decode bOperators_binary 70 = .ok (.iconst 1, 1) := by decide +kernel
theorem dOperators_binary_71 : decode bOperators_binary 71 = .ok (.goto 4, 3) := by decide +kernel
theorem dOperators_binary_74 : decode bOperators_binary 74 = .ok (.iconst 0, 1) := by decide +kernel
theorem dOperators_binary_75 : decode bOperators_binary 75 = .ok (.invokevirtual 28, 3) := by decide +kernel
theorem dOperators_binary_78 : decode bOperators_binary 78 = .ok (.aload_n 0, 1) := by decide +kernel
theorem dOperators_binary_79 : decode bOperators_binary 79 = .ok (.getfield 9, 3) := by decide +kernel
theorem dOperators_binary_82 : decode bOperators_binary 82 = .ok (.iload_n 3, 1) := by decide +kernel
theorem dOperators_binary_83 : decode bOperators_binary 83 = .ok (.invokevirtual 15, 3) := by decide +kernel
theorem dOperators_binary_86 : decode bOperators_binary 86 = .ok (.iconst 3, 1) := by decide +kernel
theorem dOperators_binary_87 : decode bOperators_binary 87 = .ok (.if_icmp .ne 20, 3) := by decide +kernel
theorem dOperators_binary_90 : decode bOperators_binary 90 = .ok (.aload_n 0, 1) := by decide +kernel
theorem dOperators_binary_91 : decode bOperators_binary 91 = .ok (.getfield 9, 3) := by decide +kernel
theorem dOperators_binary_94 : decode bOperators_binary 94 = .ok (.iload 4, 2) := by decide +kernel
theorem dOperators_binary_96 : decode bOperators_binary 96 = .ok (.invokevirtual 15, 3) := by decide +kernel
theorem dOperators_binary_99 : decode bOperators_binary 99 = .ok (.iconst 3, 1) := by decide +kernel
theorem dOperators_binary_100 : decode bOperators_binary 100 = .ok (.if_icmp .ne 7, 3) := by decide +kernel
theorem dOperators_binary_103 : decode bOperators_binary 103 = .ok (.iconst 1, 1) := by decide +kernel
theorem dOperators_binary_104 : decode bOperators_binary 104 = .ok (.goto 4, 3) := by decide +kernel
theorem dOperators_binary_107 : decode bOperators_binary 107 = .ok (.iconst 0, 1) := by decide +kernel
theorem dOperators_binary_108 : decode bOperators_binary 108 = .ok (.istore 7, 2) := by decide +kernel
theorem dOperators_binary_110 : decode bOperators_binary 110 = .ok (.iload 6, 2) := by decide +kernel
theorem dOperators_binary_112 : decode bOperators_binary 112 = .ok (.bipush 64, 2) := by decide +kernel
theorem dOperators_binary_114 : decode bOperators_binary 114 = .ok (.if_icmp .gt 34, 3) := by decide +kernel
theorem dOperators_binary_117 : decode bOperators_binary 117 = .ok (.iload 7, 2) := by decide +kernel
theorem dOperators_binary_119 : decode bOperators_binary 119 = .ok (.ifCond .eq 31, 3) := by decide +kernel
theorem dOperators_binary_122 : decode bOperators_binary 122 = .ok (.iload_n 2, 1) := by decide +kernel
theorem dOperators_binary_123 : decode bOperators_binary 123 = .ok (.bipush 14, 2) := by decide +kernel
theorem dOperators_binary_125 : decode bOperators_binary 125 = .ok (.if_icmp .eq 25, 3) := by decide +kernel
theorem dOperators_binary_128 : decode bOperators_binary 128 = .ok (.aload_n 0, 1) := by decide +kernel
theorem dOperators_binary_129 : decode bOperators_binary 129 = .ok (.getfield 9, 3) := by decide +kernel
theorem dOperators_binary_132 : decode bOperators_binary 132 = .ok (.iload_n 3, 1) := by decide +kernel
theorem dOperators_binary_133 : decode bOperators_binary 133 = .ok (.invokevirtual 21, 3) := by decide +kernel
theorem dOperators_binary_136 : decode bOperators_binary 136 = .ok (.aload_n 0, 1) := by decide +kernel
theorem dOperators_binary_137 : decode bOperators_binary 137 = .ok (.getfield 9, 3) := by decide +kernel
theorem dOperators_binary_140 : decode bOperators_binary 140 = .ok (.iload 4, 2) := by decide +kernel
theorem dOperators_binary_142 : decode bOperators_binary 142 = .ok (.invokevirtual 21, 3) := by decide +kernel
theorem dOperators_binary_145 : decode bOperators_binary 145 = .ok (.if_icmp .eq 5, 3) := by decide +kernel
theorem dOperators_binary_148 : decode bOperators_binary 148 = .ok (.iconst 4, 1) := by decide +kernel
theorem dOperators_binary_149 : decode bOperators_binary 149 = .ok (.ireturn, 1) := by decide +kernel
theorem dOperators_binary_150 : decode bOperators_binary 150 = .ok (.aload_n 0, 1) := by decide +kernel
theorem dOperators_binary_151 : decode bOperators_binary 151 = .ok (.getfield 9, 3) := by decide +kernel
theorem dOperators_binary_154 : decode bOperators_binary 154 = .ok (.iload_n 1, 1) := by decide +kernel
theorem dOperators_binary_155 : decode bOperators_binary 155 = .ok (.invokevirtual 24, 3) := by decide +kernel
theorem dOperators_binary_158 : decode bOperators_binary 158 = .ok (.ifCond .ne 5, 3) := by decide +kernel
theorem dOperators_binary_161 : decode bOperators_binary 161 = .ok (.iconst 0, 1) := by decide +kernel
theorem dOperators_binary_162 : decode bOperators_binary 162 = .ok (.ireturn, 1) := by decide +kernel
theorem dOperators_binary_163 : decode bOperators_binary 163 = .ok (.iload 5, 2) := by decide +kernel
theorem dOperators_binary_165 : decode bOperators_binary 165 = .ok (.iconst 2, 1) := by decide +kernel
theorem dOperators_binary_166 : decode bOperators_binary 166 = .ok (.if_icmp .ne 29, 3) := by decide +kernel
theorem dOperators_binary_169 : decode bOperators_binary 169 = .ok (.aload_n 0, 1) := by decide +kernel
theorem dOperators_binary_170 : decode bOperators_binary 170 = .ok (.iload_n 1, 1) := by decide +kernel
theorem dOperators_binary_171 : decode bOperators_binary 171 = .ok (.iload_n 2, 1) := by decide +kernel
theorem dOperators_binary_172 : decode bOperators_binary 172 = .ok (.aload_n 0, 1) := by decide +kernel
theorem dOperators_binary_173 : decode bOperators_binary 173 = .ok (.getfield 9, 3) := by decide +kernel
theorem dOperators_binary_176 : decode bOperators_binary 176 = .ok (.iload_n 3, 1) := by decide +kernel
theorem dOperators_binary_177 : decode bOperators_binary 177 = .ok (.invokevirtual 36, 3) := by decide +kernel
theorem dOperators_binary_180 : decode bOperators_binary 180 = .ok (.i2l, 1) := by decide +kernel
theorem dOperators_binary_181 : decode bOperators_binary 181 = .ok (.aload_n 0, 1) := by decide +kernel
theorem dOperators_binary_182 : decode bOperators_binary 182 = .ok (.getfield 9, 3) := by decide +kernel
theorem dOperators_binary_185 : decode bOperators_binary 185 = .ok (.iload 4, 2) := by decide +kernel
theorem dOperators_binary_187 : decode bOperators_binary 187 = .ok (.invokevirtual 36, 3) := by decide +kernel
theorem dOperators_binary_190 : decode bOperators_binary 190 = .ok (.i2l, 1) := by decide +kernel
theorem dOperators_binary_191 : decode bOperators_binary 191 = .ok (.invokevirtual 73, 3) := by decide +kernel
theorem dOperators_binary_194 : decode bOperators_binary 194 = .ok (.ireturn, 1) := by decide +kernel
theorem dOperators_binary_195 : decode bOperators_binary 195 = .ok (.iload_n 2, 1) := by decide +kernel
theorem dOperators_binary_196 : decode bOperators_binary 196 = .ok (.iconst 5, 1) := by decide +kernel
theorem dOperators_binary_197 : decode bOperators_binary 197 = .ok (.if_icmp .gt 15, 3) := by decide +kernel
theorem dOperators_binary_200 : decode bOperators_binary 200 = .ok (.aload_n 0, 1) := by decide +kernel
theorem dOperators_binary_201 : decode bOperators_binary 201 = .ok (.iload_n 1, 1) := by decide +kernel
theorem dOperators_binary_202 : decode bOperators_binary 202 = .ok (.iload_n 2, 1) := by decide +kernel
theorem dOperators_binary_203 : decode bOperators_binary 203 = .ok (.iload_n 3, 1) := by decide +kernel
theorem dOperators_binary_204 : decode bOperators_binary 204 = .ok (.iload 4, 2) := by decide +kernel
theorem dOperators_binary_206 : decode bOperators_binary 206 = .ok (.invokevirtual 77, 3) := by decide +kernel
theorem dOperators_binary_209 : decode bOperators_binary 209 = .ok (.goto 148, 3) := by decide +kernel
theorem dOperators_binary_212 : decode bOperators_binary 212 = .ok (.iload_n 2, 1) := by decide +kernel
theorem dOperators_binary_213 : decode bOperators_binary 213 = .ok (.bipush 7, 2) := by decide +kernel
theorem dOperators_binary_215 : decode bOperators_binary 215 = .ok (.if_icmp .gt 40, 3) := by decide +kernel
theorem dOperators_binary_218 : decode bOperators_binary 218 = .ok (.aload_n 0, 1) := by decide +kernel
theorem dOperators_binary_219 : decode bOperators_binary 219 = .ok (.getfield 9, 3) := by decide +kernel
theorem dOperators_binary_222 : decode bOperators_binary 222 = .ok (.iload_n 1, 1) := by decide +kernel
theorem dOperators_binary_223 : decode bOperators_binary 223 = .ok (.aload_n 0, 1) := by decide +kernel
theorem dOperators_binary_224 : decode bOperators_binary 224 = .ok (.iload_n 3, 1) := by decide +kernel
theorem dOperators_binary_225 : decode bOperators_binary 225 = .ok (.iload 4, 2) := by decide +kernel
theorem dOperators_binary_227 : decode bOperators_binary 227 = .ok (.invokevirtual 81, 3) := by decide +kernel
theorem dOperators_binary_230 : decode bOperators_binary 230 = .ok (.iload_n 2, 1) := by decide +kernel
theorem dOperators_binary_231 : decode bOperators_binary 231 = .ok (.bipush 6, 2) := by decide +kernel
theorem dOperators_binary_233 : decode bOperators_binary 233 = .ok (.if_icmp .ne 7, 3) := by decide +kernel
theorem dOperators_binary_236 : decode bOperators_binary 236 = .ok (.iconst 1, 1) := by decide +kernel
theorem dOperators_binary_237 : decode bOperators_binary 237 = .ok (.goto 4, 3) := by decide +kernel
theorem dOperators_binary_240 : decode bOperators_binary 240 = .ok (.iconst 0, 1) := by decide +kernel
theorem dOperators_binary_241 : decode bOperators_binary 241 = .ok (.if_icmp .ne 7, 3) := by decide +kernel
theorem dOperators_binary_244 : decode bOperators_binary 244 = .ok (.iconst 1, 1) := by decide +kernel
theorem dOperators_binary_245 : decode bOperators_binary 245 = .ok (.goto 4, 3) := by decide +kernel
theorem dOperators_binary_248 : decode bOperators_binary 248 = .ok (.iconst 0, 1) := by decide +kernel
theorem dOperators_binary_249 : decode bOperators_binary 249 = .ok (.invokevirtual 39, 3) := by decide +kernel
theorem dOperators_binary_252 : decode bOperators_binary 252 = .ok (.goto 105, 3) := by decide +kernel
theorem dOperators_binary_255 : decode bOperators_binary 255 = .ok (.iload_n 2, 1) := by decide +kernel
theorem dOperators_binary_256 : decode bOperators_binary 256 = .ok (.bipush 11, 2) := by decide +kernel
theorem dOperators_binary_258 : decode bOperators_binary 258 = .ok (.if_icmp .gt 30, 3) := by decide +kernel
theorem dOperators_binary_261 : decode bOperators_binary 261 = .ok (.aload_n 0, 1) := by decide +kernel
theorem dOperators_binary_262 : decode bOperators_binary 262 = .ok (.getfield 9, 3) := by decide +kernel
theorem dOperators_binary_265 : decode bOperators_binary 265 = .ok (.iload_n 1, 1) := by decide +kernel
theorem dOperators_binary_266 : decode bOperators_binary 266 = .ok (.aload_n 0, 1) := by decide +kernel
theorem dOperators_binary_267 : decode bOperators_binary 267 = .ok (.iload_n 2, 1) := by decide +kernel
theorem dOperators_binary_268 : decode bOperators_binary 268 = .ok (.iload_n 3, 1) := by decide +kernel
theorem dOperators_binary_269 : decode bOperators_binary 269 = .ok (.iload 4, 2) := by decide +kernel
theorem dOperators_binary_271 : decode bOperators_binary 271 = .ok (.invokevirtual 85, 3) := by decide +kernel
theorem dOperators_binary_274 : decode bOperators_binary 274 = .ok (.ifCond .eq 7, 3) := by decide +kernel
theorem dOperators_binary_277 : decode bOperators_binary 277 = .ok (.iconst 1, 1) := by decide +kernel
theorem dOperators_binary_278 : decode bOperators_binary 278 = .ok (.goto 4, 3) := by decide +kernel
theorem dOperators_binary_281 : decode bOperators_binary 281 = .ok (.iconst 0, 1) := by decide +kernel
theorem dOperators_binary_282 : decode bOperators_binary 282 = .ok (.invokevirtual 39, 3) := by decide +kernel
theorem dOperators_binary_285 : decode bOperators_binary 285 = .ok (.goto 72, 3) := by decide +kernel
theorem dOperators_binary_288 : decode bOperators_binary 288 = .ok (.iload_n 2, 1) := by decide +kernel
theorem dOperators_binary_289 : decode bOperators_binary 289 = .ok (.bipush 13, 2) := by decide +kernel
theorem dOperators_binary_291 : decode bOperators_binary 291 = .ok (.if_icmp .gt 15, 3) := by decide +kernel
theorem dOperators_binary_294 : decode bOperators_binary 294 = .ok (.aload_n 0, 1) := by decide +kernel
theorem dOperators_binary_295 : decode bOperators_binary 295 = .ok (.iload_n 1, 1) := by decide +kernel
theorem dOperators_binary_296 : decode bOperators_binary 296 = .ok (.iload_n 2, 1) := by decide +kernel
theorem dOperators_binary_297 : decode bOperators_binary 297 = .ok (.iload_n 3, 1) := by decide +kernel
theorem dOperators_binary_298 : decode bOperators_binary 298 = .ok (.iload 4, 2) := by decide +kernel
theorem dOperators_binary_300 : decode bOperators_binary 300 = .ok (.invokevirtual 89, 3) := by decide +kernel
theorem dOperators_binary_303 : decode bOperators_binary 303 = .ok (.goto 54, 3) := by decide +kernel
theorem dOperators_binary_306 : decode bOperators_binary 306 = .ok (.iload_n 2, 1) := by decide +kernel
theorem dOperators_binary_307 : decode bOperators_binary 307 = .ok (.bipush 14, 2) := by decide +kernel
theorem dOperators_binary_309 : decode bOperators_binary 309 = .ok (.if_icmp .ne 14, 3) := by decide +kernel
theorem dOperators_binary_312 : decode bOperators_binary 312 = .ok (.aload_n 0, 1) := by decide +kernel
theorem dOperators_binary_313 : decode bOperators_binary 313 = .ok (.iload_n 1, 1) := by decide +kernel
theorem dOperators_binary_314 : decode bOperators_binary 314 = .ok (.iload_n 3, 1) := by decide +kernel
theorem dOperators_binary_315 : decode bOperators_binary 315 = .ok (.iload 4, 2) := by decide +kernel
theorem dOperators_binary_317 : decode bOperators_binary 317 = .ok (.invokevirtual 92, 3) := by decide +kernel
theorem dOperators_binary_320 : decode bOperators_binary 320 = .ok (.goto 37, 3) := by decide +kernel
theorem dOperators_binary_323 : decode bOperators_binary 323 = .ok (.aload_n 0, 1) := by decide +kernel
theorem dOperators_binary_324 : decode bOperators_binary 324 = .ok (.iload_n 1, 1) := by decide +kernel
theorem dOperators_binary_325 : decode bOperators_binary 325 = .ok (.iload_n 3, 1) := by decide +kernel
theorem dOperators_binary_326 : decode bOperators_binary 326 = .ok (.iload_n 2, 1) := by decide +kernel
theorem dOperators_binary_327 : decode bOperators_binary 327 = .ok (.bipush 19, 2) := by decide +kernel
theorem dOperators_binary_329 : decode bOperators_binary 329 = .ok (.if_icmp .ne 15, 3) := by decide +kernel
theorem dOperators_binary_332 : decode bOperators_binary 332 = .ok (.aload_n 0, 1) := by decide +kernel
theorem dOperators_binary_333 : decode bOperators_binary 333 = .ok (.getfield 9, 3) := by decide +kernel
theorem dOperators_binary_336 : decode bOperators_binary 336 = .ok (.iload 4, 2) := by decide +kernel
theorem dOperators_binary_338 : decode bOperators_binary 338 = .ok (.invokevirtual 36, 3) := by decide +kernel
theorem dOperators_binary_341 : decode bOperators_binary 341 = .ok (.goto 13, 3) := by decide +kernel
theorem dOperators_binary_344 : decode bOperators_binary 344 = .ok (.aload_n 0, 1) := by decide +kernel
theorem dOperators_binary_345 : decode bOperators_binary 345 = .ok (.getfield 9, 3) := by decide +kernel
theorem dOperators_binary_348 : decode bOperators_binary 348 = .ok (.iload 4, 2) := by decide +kernel
theorem dOperators_binary_350 : decode bOperators_binary 350 = .ok (.invokevirtual 36, 3) := by decide +kernel
theorem dOperators_binary_353 : decode bOperators_binary 353 = .ok (.ineg, 1) := by decide +kernel
theorem dOperators_binary_354 : decode bOperators_binary 354 = .ok (.invokevirtual 95, 3) := by decide +kernel
theorem dOperators_binary_357 : decode bOperators_binary 357 = .ok (.iconst 0, 1) := by decide +kernel
theorem dOperators_binary_358 : decode bOperators_binary 358 = .ok (.ireturn, 1) := by decide +kernel
theorem dOperators_resultClass_0 : decode bOperators_resultClass 0 = .ok (.aload_n 0, 1) := by decide +kernel
theorem dOperators_resultClass_1 : decode bOperators_resultClass 1 = .ok (.getfield 9, 3) := by decide +kernel
theorem dOperators_resultClass_4 : decode bOperators_resultClass 4 = .ok (.iload_n 2, 1) := by decide +kernel
theorem dOperators_resultClass_5 : decode bOperators_resultClass 5 = .ok (.invokevirtual 15, 3) := by decide +kernel
theorem dOperators_resultClass_8 : decode bOperators_resultClass 8 = .ok (.istore 4, 2) := by decide +kernel
theorem dOperators_resultClass_10 : decode bOperators_resultClass 10 = .ok (.aload_n 0, 1) := by decide +kernel
theorem dOperators_resultClass_11 : decode bOperators_resultClass 11 = .ok (.getfield 9, 3) := by decide +kernel
theorem dOperators_resultClass_14 : decode bOperators_resultClass 14 = .ok (.iload_n 3, 1) := by decide +kernel
theorem dOperators_resultClass_15 : decode bOperators_resultClass 15 = .ok (.invokevirtual 15, 3) := by decide +kernel
theorem dOperators_resultClass_18 : decode bOperators_resultClass 18 = .ok (.istore 5, 2) := by decide +kernel
theorem dOperators_resultClass_20 : decode bOperators_resultClass 20 = .ok (.iload_n 1, 1) := by decide +kernel
theorem dOperators_resultClass_21 : decode bOperators_resultClass 21 = .ok (.iconst 5, 1) := by decide +kernel
theorem dOperators_resultClass_22 : decode bOperators_resultClass 22 = .ok (.if_icmp .gt 34, 3) := by decide +kernel
theorem dOperators_resultClass_25 : decode bOperators_resultClass 25 = .ok (.iload 4, 2) := by decide +kernel
theorem dOperators_resultClass_27 : decode bOperators_resultClass 27 = .ok (.iload 5, 2) := by decide +kernel
theorem dOperators_resultClass_29 : decode bOperators_resultClass 29 = .ok (.if_icmp .ne 25, 3) := by decide +kernel
theorem dOperators_resultClass_32 : decode bOperators_resultClass 32 = .ok (.iload 4, 2) := by decide +kernel
theorem dOperators_resultClass_34 : decode bOperators_resultClass 34 = .ok (.iconst 1, 1) := by decide +kernel
theorem dOperators_resultClass_35 : decode bOperators_resultClass 35 = .ok (.if_icmp .eq 14, 3) := by decide +kernel
theorem dOperators_resultClass_38 : decode bOperators_resultClass 38 = .ok (.iload 4, 2) := by decide +kernel
theorem dOperators_resultClass_40 : decode bOperators_resultClass 40 = .ok (.ifCond .eq 9, 3) := by decide +kernel
theorem dOperators_resultClass_43 : decode bOperators_resultClass 43 = .ok (.iload 4, 2) := by decide +kernel
theorem dOperators_resultClass_45 : decode bOperators_resultClass 45 = .ok (.iconst 3, 1) := by decide +kernel
theorem dOperators_resultClass_46 : decode bOperators_resultClass 46 = .ok (.if_icmp .ne 8, 3) := by decide +kernel
theorem dOperators_resultClass_49 : decode bOperators_resultClass 49 = .ok (.iload 4, 2) := by decide +kernel
theorem dOperators_resultClass_51 : decode bOperators_resultClass 51 = .ok (.goto 4, 3) := by decide +kernel
theorem dOperators_resultClass_54 : decode bOperators_resultClass 54 = .ok (.iconst (-1), 1) := by decide +kernel
theorem dOperators_resultClass_55 : decode bOperators_resultClass 55 = .ok (.ireturn, 1) := by decide +kernel
theorem dOperators_resultClass_56 : decode bOperators_resultClass 56 = .ok (.iload_n 1, 1) := by decide +kernel
theorem dOperators_resultClass_57 : decode bOperators_resultClass 57 = .ok (.bipush 7, 2) := by decide +kernel
theorem dOperators_resultClass_59 : decode bOperators_resultClass 59 = .ok (.if_icmp .gt 18, 3) := by decide +kernel
theorem dOperators_resultClass_62 : decode bOperators_resultClass 62 = .ok (.aload_n 0, 1) := by decide +kernel
theorem dOperators_resultClass_63 : decode bOperators_resultClass 63 = .ok (.iload_n 2, 1) := by decide +kernel
theorem dOperators_resultClass_64 : decode bOperators_resultClass 64 = .ok (.iload_n 3, 1) := by decide +kernel
theorem dOperators_resultClass_65 : decode bOperators_resultClass 65 = .ok (.invokevirtual 98, 3) := by decide +kernel
theorem dOperators_resultClass_68 : decode bOperators_resultClass 68 = .ok (.ifCond .eq 7, 3) := by decide +kernel
theorem dOperators_resultClass_71 : decode bOperators_resultClass 71 = .ok (.iconst 1, 1) := by decide +kernel
theorem dOperators_resultClass_72 : decode bOperators_resultClass 72 = .ok (.goto 4, 3) := by decide +kernel
theorem dOperators_resultClass_75 : decode bOperators_resultClass 75 = .ok (.iconst (-1), 1) := by decide +kernel
theorem dOperators_resultClass_76 : decode bOperators_resultClass 76 = .ok (.ireturn, 1) := by decide +kernel
theorem dOperators_resultClass_77 : decode bOperators_resultClass 77 = .ok (.iload_n 1, 1) := by decide +kernel
theorem dOperators_resultClass_78 : decode bOperators_resultClass 78 = .ok (.bipush 11, 2) := by decide +kernel
theorem dOperators_resultClass_80 : decode bOperators_resultClass 80 = .ok (.if_icmp .gt 29, 3) := by decide +kernel
theorem dOperators_resultClass_83 : decode bOperators_resultClass 83 = .ok (.aload_n 0, 1) := by decide +kernel
theorem dOperators_resultClass_84 : decode bOperators_resultClass 84 = .ok (.iload_n 2, 1) := by decide +kernel
theorem dOperators_resultClass_85 : decode bOperators_resultClass 85 = .ok (.iload_n 3, 1) := by decide +kernel
theorem dOperators_resultClass_86 : decode bOperators_resultClass 86 = .ok (.invokevirtual 98, 3) := by decide +kernel
theorem dOperators_resultClass_89 : decode bOperators_resultClass 89 = .ok (.ifCond .eq 18, 3) := by decide +kernel
theorem dOperators_resultClass_92 : decode bOperators_resultClass 92 = .ok (.iload 4, 2) := by decide +kernel
theorem dOperators_resultClass_94 : decode bOperators_resultClass 94 = .ok (.iconst 1, 1) := by decide +kernel
theorem dOperators_resultClass_95 : decode bOperators_resultClass 95 = .ok (.if_icmp .eq 12, 3) := by decide +kernel
theorem dOperators_resultClass_98 : decode bOperators_resultClass 98 = .ok (.iload 4, 2) := by decide +kernel
theorem dOperators_resultClass_100 : decode bOperators_resultClass 100 = .ok (.ifCond .eq 7, 3) := by decide +kernel
theorem dOperators_resultClass_103 : decode bOperators_resultClass 103 = .ok (.iconst 1, 1) := by decide +kernel
theorem dOperators_resultClass_104 : decode bOperators_resultClass 104 = .ok (.goto 4, 3) := by decide +kernel
theorem dOperators_resultClass_107 : decode bOperators_resultClass 107 = .ok (.iconst (-1), 1) := by decide +kernel
theorem dOperators_resultClass_108 : decode bOperators_resultClass 108 = .ok (.ireturn, 1) := by decide +kernel
theorem dOperators_resultClass_109 : decode bOperators_resultClass 109 = .ok (.iload 4, 2) := by decide +kernel
theorem dOperators_resultClass_111 : decode bOperators_resultClass 111 = .ok (.iconst 2, 1) := by decide +kernel
theorem dOperators_resultClass_112 : decode bOperators_resultClass 112 = .ok (.if_icmp .ne 13, 3) := by decide +kernel
theorem dOperators_resultClass_115 : decode bOperators_resultClass 115 = .ok (.iload 5, 2) := by decide +kernel
theorem dOperators_resultClass_117 : decode bOperators_resultClass 117 = .ok (.iconst 2, 1) := by decide +kernel
theorem dOperators_resultClass_118 : decode bOperators_resultClass 118 = .ok (.if_icmp .ne 7, 3) := by decide +kernel
theorem dOperators_resultClass_121 : decode bOperators_resultClass 121 = .ok (.iconst 1, 1) := by decide +kernel
theorem dOperators_resultClass_122 : decode bOperators_resultClass 122 = .ok (.goto 4, 3) := by decide +kernel
theorem dOperators_resultClass_125 : decode bOperators_resultClass 125 = .ok (.iconst 0, 1) := by decide +kernel
theorem dOperators_resultClass_126 : decode bOperators_resultClass 126 = .ok (.istore 6, 2) := by decide +kernel
theorem dOperators_resultClass_128 : decode bOperators_resultClass 128 = .ok (.iload_n 1, 1) := by decide +kernel
theorem dOperators_resultClass_129 : decode bOperators_resultClass 129 = .ok (.bipush 13, 2) := by decide +kernel
theorem dOperators_resultClass_131 : decode bOperators_resultClass 131 = .ok (.if_icmp .gt 54, 3) := by decide +kernel
theorem dOperators_resultClass_134 : decode bOperators_resultClass 134 = .ok (.iload 4, 2) := by decide +kernel
theorem dOperators_resultClass_136 : decode bOperators_resultClass 136 = .ok (.iconst 3, 1) := by decide +kernel
theorem dOperators_resultClass_137 : decode bOperators_resultClass 137 = .ok (.if_icmp .eq 9, 3) := by decide +kernel
theorem dOperators_resultClass_140 : decode bOperators_resultClass 140 = .ok (.iload 4, 2) := by decide +kernel
theorem dOperators_resultClass_142 : decode bOperators_resultClass 142 = .ok (.iconst 2, 1) := by decide +kernel
theorem dOperators_resultClass_143 : decode bOperators_resultClass 143 = .ok (.if_icmp .ne 19, 3) := by decide +kernel
theorem dOperators_resultClass_146 : decode bOperators_resultClass 146 = .ok (.iload 5, 2) := by decide +kernel
theorem dOperators_resultClass_148 : decode bOperators_resultClass 148 = .ok (.iconst 3, 1) := by decide +kernel
theorem dOperators_resultClass_149 : decode bOperators_resultClass 149 = .ok (.if_icmp .eq 9, 3) := by decide +kernel
theorem dOperators_resultClass_152 : decode bOperators_resultClass 152 = .ok (.iload 5, 2) := by decide +kernel
theorem dOperators_resultClass_154 : decode bOperators_resultClass 154 = .ok (.iconst 2, 1) := by decide +kernel
theorem dOperators_resultClass_155 : decode bOperators_resultClass 155 = .ok (.if_icmp .ne 7, 3) := by decide +kernel
theorem dOperators_resultClass_158 : decode bOperators_resultClass 158 = .ok (.iconst 1, 1) := by decide +kernel
theorem dOperators_resultClass_159 : decode bOperators_resultClass 159 = .ok (.goto 4, 3) := by decide +kernel
theorem dOperators_resultClass_162 : decode bOperators_resultClass 162 = .ok (.iconst 0, 1) := by decide +kernel
theorem dOperators_resultClass_163 : decode bOperators_resultClass 163 = .ok (.istore 7, 2) := by decide +kernel
theorem dOperators_resultClass_165 : decode bOperators_resultClass 165 = .ok (.iload 6, 2) := by decide +kernel
theorem dOperators_resultClass_167 : decode bOperators_resultClass 167 = .ok (.ifCond .eq 7, 3) := by decide +kernel
theorem dOperators_resultClass_170 : decode bOperators_resultClass 170 = .ok (.iconst 2, 1) := by decide +kernel
theorem dOperators_resultClass_171 : decode bOperators_resultClass 171 = .ok (.goto 13, 3) := by decide +kernel
theorem dOperators_resultClass_174 : decode bOperators_resultClass 174 = .ok (.iload 7, 2) := by decide +kernel
theorem dOperators_resultClass_176 : decode bOperators_resultClass 176 = .ok (.ifCond .eq 7, 3) := by decide +kernel
theorem dOperators_resultClass_179 : decode bOperators_resultClass 179 = .ok (.iconst 3, 1) := by decide +kernel
theorem dOperators_resultClass_180 : decode bOperators_resultClass 180 = .ok (.goto 4, 3) := by decide +kernel
theorem dOperators_resultClass_183 : decode bOperators_resultClass 183 = .ok (.iconst (-1), 1) := by decide +kernel
theorem dOperators_resultClass_184 : decode bOperators_resultClass 184 = .ok (.ireturn, 1) := by decide +kernel
theorem dOperators_resultClass_185 : decode bOperators_resultClass 185 = .ok (.iload_n 1, 1) := by decide +kernel
theorem dOperators_resultClass_186 : decode bOperators_resultClass 186 = .ok (.bipush 14, 2) := by decide +kernel
theorem dOperators_resultClass_188 : decode bOperators_resultClass 188 = .ok (.if_icmp .ne 31, 3) := by decide +kernel
theorem dOperators_resultClass_191 : decode bOperators_resultClass 191 = .ok (.iload 4, 2) := by decide +kernel
theorem dOperators_resultClass_193 : decode bOperators_resultClass 193 = .ok (.iconst 3, 1) := by decide +kernel
theorem dOperators_resultClass_194 : decode bOperators_resultClass 194 = .ok (.if_icmp .eq 8, 3) := by decide +kernel
theorem dOperators_resultClass_197 : decode bOperators_resultClass 197 = .ok (.iload 4, 2) := by decide +kernel
theorem dOperators_resultClass_199 : decode bOperators_resultClass 199 = .ok (.ifCond .ne 18, 3) := by decide +kernel
theorem dOperators_resultClass_202 : decode bOperators_resultClass 202 = .ok (.iload 5, 2) := by decide +kernel
theorem dOperators_resultClass_204 : decode bOperators_resultClass 204 = .ok (.iconst 3, 1) := by decide +kernel
theorem dOperators_resultClass_205 : decode bOperators_resultClass 205 = .ok (.if_icmp .eq 8, 3) := by decide +kernel
theorem dOperators_resultClass_208 : decode bOperators_resultClass 208 = .ok (.iload 5, 2) := by decide +kernel
theorem dOperators_resultClass_210 : decode bOperators_resultClass 210 = .ok (.ifCond .ne 7, 3) := by decide +kernel
theorem dOperators_resultClass_213 : decode bOperators_resultClass 213 = .ok (.iconst 3, 1) := by decide +kernel
theorem dOperators_resultClass_214 : decode bOperators_resultClass 214 = .ok (.goto 4, 3) := by decide +kernel
theorem dOperators_resultClass_217 : decode bOperators_resultClass 217 = .ok (.iconst (-1), 1) := by decide +kernel
theorem dOperators_resultClass_218 : decode bOperators_resultClass 218 = .ok (.ireturn, 1) := by decide +kernel
theorem dOperators_resultClass_219 : decode bOperators_resultClass 219 = .ok (.iload_n 1, 1) := by decide +kernel
theorem dOperators_resultClass_220 : decode bOperators_resultClass 220 = .ok (.bipush 18, 2) := by decide +kernel
theorem dOperators_resultClass_222 : decode bOperators_resultClass 222 = .ok (.if_icmp .gt 14, 3) := by decide +kernel
theorem dOperators_resultClass_225 : decode bOperators_resultClass 225 = .ok (.iload 6, 2) := by decide +kernel
theorem dOperators_resultClass_227 : decode bOperators_resultClass 227 = .ok (.ifCond .eq 7, 3) := by decide +kernel
theorem dOperators_resultClass_230 : decode bOperators_resultClass 230 = .ok (.iconst 2, 1) := by decide +kernel
theorem dOperators_resultClass_231 : decode bOperators_resultClass 231 = .ok (.goto 4, 3) := by decide +kernel
theorem dOperators_resultClass_234 : decode bOperators_resultClass 234 = .ok (.iconst (-1), 1) := by decide +kernel
theorem dOperators_resultClass_235 : decode bOperators_resultClass 235 = .ok (.ireturn, 1) := by decide +kernel
theorem dOperators_resultClass_236 : decode bOperators_resultClass 236 = .ok (.iload 4, 2) := by decide +kernel
theorem dOperators_resultClass_238 : decode bOperators_resultClass 238 = .ok (.iconst 3, 1) := by decide +kernel
theorem dOperators_resultClass_239 : decode bOperators_resultClass 239 = .ok (.if_icmp .ne 13, 3) := by decide +kernel
theorem dOperators_resultClass_242 : decode bOperators_resultClass 242 = .ok (.iload 5, 2) := by decide +kernel
theorem dOperators_resultClass_244 : decode bOperators_resultClass 244 = .ok (.iconst 2, 1) := by decide +kernel
theorem dOperators_resultClass_245 : decode bOperators_resultClass 245 = .ok (.if_icmp .ne 7, 3) := by decide +kernel
theorem dOperators_resultClass_248 : decode bOperators_resultClass 248 = .ok (.iconst 3, 1) := by decide +kernel
theorem dOperators_resultClass_249 : decode bOperators_resultClass 249 = .ok (.goto 4, 3) := by decide +kernel
theorem dOperators_resultClass_252 : decode bOperators_resultClass 252 = .ok (.iconst (-1), 1) := by decide +kernel
theorem dOperators_resultClass_253 : decode bOperators_resultClass 253 = .ok (.ireturn, 1) := by decide +kernel
theorem dOperators_areOfOneClass_0 : decode bOperators_areOfOneClass 0 = .ok (.aload_n 0, 1) := by decide +kernel
theorem dOperators_areOfOneClass_1 : decode bOperators_areOfOneClass 1 = .ok (.getfield 9, 3) := by decide +kernel
theorem dOperators_areOfOneClass_4 : decode bOperators_areOfOneClass 4 = .ok (.iload_n 1, 1) := by decide +kernel
theorem dOperators_areOfOneClass_5 : decode bOperators_areOfOneClass 5 = .ok (.invokevirtual 15, 3) := by decide +kernel
theorem dOperators_areOfOneClass_8 : decode bOperators_areOfOneClass 8 = .ok (.istore_n 3, 1) := by decide +kernel
theorem dOperators_areOfOneClass_9 : decode bOperators_areOfOneClass 9 = .ok (.iload_n 3, 1) := by decide +kernel
theorem dOperators_areOfOneClass_10 : decode bOperators_areOfOneClass 10 = .ok (.aload_n 0, 1) := by decide +kernel
theorem dOperators_areOfOneClass_11 : decode bOperators_areOfOneClass 11 = .ok (.getfield 9, 3) := by decide +kernel
theorem dOperators_areOfOneClass_14 : decode bOperators_areOfOneClass 14 = .ok (.iload_n 2, 1) := by decide +kernel
theorem dOperators_areOfOneClass_15 : decode bOperators_areOfOneClass 15 = .ok (.invokevirtual 15, 3) := by decide +kernel
theorem dOperators_areOfOneClass_18 : decode bOperators_areOfOneClass 18 = .ok (.if_icmp .ne 31, 3) := by decide +kernel
theorem dOperators_areOfOneClass_21 : decode bOperators_areOfOneClass 21 = .ok (.iload_n 3, 1) := by decide +kernel
theorem dOperators_areOfOneClass_22 : decode bOperators_areOfOneClass 22 = .ok (.iconst 4, 1) := by decide +kernel
theorem dOperators_areOfOneClass_23 : decode bOperators_areOfOneClass 23 = .ok (.if_icmp .ne 22, 3) := by decide +kernel
theorem dOperators_areOfOneClass_26 : decode bOperators_areOfOneClass 26 = .ok (.aload_n 0, 1) := by decide +kernel
theorem dOperators_areOfOneClass_27 : decode bOperators_areOfOneClass 27 = .ok (.getfield 9, 3) := by decide +kernel
theorem dOperators_areOfOneClass_30 : decode bOperators_areOfOneClass 30 = .ok (.iload_n 1, 1) := by decide +kernel
theorem dOperators_areOfOneClass_31 : decode bOperators_areOfOneClass 31 = .ok (.invokevirtual 21, 3) := by decide +kernel
theorem dOperators_areOfOneClass_34 : decode bOperators_areOfOneClass 34 = .ok (.aload_n 0, 1) := by decide +kernel
theorem dOperators_areOfOneClass_35 : decode bOperators_areOfOneClass 35 = .ok (.getfield 9, 3) := by decide +kernel
theorem dOperators_areOfOneClass_38 : decode bOperators_areOfOneClass 38 = .ok (.iload_n 2, 1) := by decide +kernel
theorem dOperators_areOfOneClass_39 : decode bOperators_areOfOneClass 39 = .ok (.invokevirtual 21, 3) := by decide +kernel
theorem dOperators_areOfOneClass_42 : decode bOperators_areOfOneClass 42 = .ok (.if_icmp .ne 7, 3) := by decide +kernel
theorem dOperators_areOfOneClass_45 : decode bOperators_areOfOneClass 45 = .ok (.iconst 1, 1) := by decide +kernel
theorem dOperators_areOfOneClass_46 : decode bOperators_areOfOneClass 46 = .ok (.goto 4, 3) := by decide +kernel
theorem dOperators_areOfOneClass_49 : decode bOperators_areOfOneClass 49 = .ok (.iconst 0, 1) := by decide +kernel
theorem dOperators_areOfOneClass_50 : decode bOperators_areOfOneClass 50 = .ok (.ireturn, 1) := by decide +kernel
theorem dOperators_resultLength_0 : decode bOperators_resultLength 0 = .ok (.iload_n 1, 1) := by decide +kernel
theorem dOperators_resultLength_1 : decode bOperators_resultLength 1 = .ok (.bipush 14, 2) := by decide +kernel
theorem dOperators_resultLength_3 : decode bOperators_resultLength 3 = .ok (.if_icmp .ne 15, 3) := by decide +kernel
theorem dOperators_resultLength_6 : decode bOperators_resultLength 6 = .ok (.aload_n 0, 1) := by decide +kernel
theorem dOperators_resultLength_7 : decode bOperators_resultLength 7 = .ok (.iload_n 2, 1) := by decide +kernel
theorem dOperators_resultLength_8 : decode bOperators_resultLength 8 = .ok (.invokevirtual 101, 3) := by decide +kernel
theorem dOperators_resultLength_11 : decode bOperators_resultLength 11 = .ok (.aload_n 0, 1) := by decide +kernel
theorem dOperators_resultLength_12 : decode bOperators_resultLength 12 = .ok (.iload_n 3, 1) := by decide +kernel
theorem dOperators_resultLength_13 : decode bOperators_resultLength 13 = .ok (.invokevirtual 101, 3) := by decide +kernel
theorem dOperators_resultLength_16 : decode bOperators_resultLength 16 = .ok (.iadd, 1) := by decide +kernel
theorem dOperators_resultLength_17 : decode bOperators_resultLength 17 = .ok (.ireturn, 1) := by decide +kernel
theorem dOperators_resultLength_18 : decode bOperators_resultLength 18 = .ok (.aload_n 0, 1) := by decide +kernel
theorem dOperators_resultLength_19 : decode bOperators_resultLength 19 = .ok (.getfield 9, 3) := by decide +kernel
theorem dOperators_resultLength_22 : decode bOperators_resultLength 22 = .ok (.iload_n 2, 1) := by decide +kernel
theorem dOperators_resultLength_23 : decode bOperators_resultLength 23 = .ok (.invokevirtual 15, 3) := by decide +kernel
theorem dOperators_resultLength_26 : decode bOperators_resultLength 26 = .ok (.iconst 3, 1) := by decide +kernel
theorem dOperators_resultLength_27 : decode bOperators_resultLength 27 = .ok (.if_icmp .ne 14, 3) := by decide +kernel
theorem dOperators_resultLength_30 : decode bOperators_resultLength 30 = .ok (.aload_n 0, 1) := by decide +kernel
theorem dOperators_resultLength_31 : decode bOperators_resultLength 31 = .ok (.getfield 9, 3) := by decide +kernel
theorem dOperators_resultLength_34 : decode bOperators_resultLength 34 = .ok (.iload_n 2, 1) := by decide +kernel
theorem dOperators_resultLength_35 : decode bOperators_resultLength 35 = .ok (.invokevirtual 21, 3) := by decide +kernel
theorem dOperators_resultLength_38 : decode bOperators_resultLength 38 = .ok (.goto 11, 3) := by decide +kernel
theorem dOperators_resultLength_41 : decode bOperators_resultLength 41 = .ok (.aload_n 0, 1) := by decide +kernel
theorem dOperators_resultLength_42 : decode bOperators_resultLength 42 = .ok (.getfield 9, 3) := by decide +kernel
theorem dOperators_resultLength_45 : decode bOperators_resultLength 45 = .ok (.iload_n 3, 1) := by decide +kernel
theorem dOperators_resultLength_46 : decode bOperators_resultLength 46 = .ok (.invokevirtual 21, 3) := by decide +kernel
theorem dOperators_resultLength_49 : decode bOperators_resultLength 49 = .ok (.ireturn, 1) := by decide +kernel
theorem dOperators_widthOf_0 : decode bOperators_widthOf 0 = .ok (.aload_n 0, 1) := by decide +kernel
theorem dOperators_widthOf_1 : decode bOperators_widthOf 1 = .ok (.getfield 9, 3) := by decide +kernel
theorem dOperators_widthOf_4 : decode bOperators_widthOf 4 = .ok (.iload_n 1, 1) := by decide +kernel
theorem dOperators_widthOf_5 : decode bOperators_widthOf 5 = .ok (.invokevirtual 15, 3) := by decide +kernel
theorem dOperators_widthOf_8 : decode bOperators_widthOf 8 = .ok (.iconst 3, 1) := by decide +kernel
theorem dOperators_widthOf_9 : decode bOperators_widthOf 9 = .ok (.if_icmp .ne 14, 3) := by decide +kernel
theorem dOperators_widthOf_12 : decode bOperators_widthOf 12 = .ok (.aload_n 0, 1) := by decide +kernel
theorem dOperators_widthOf_13 : decode bOperators_widthOf 13 = .ok (.getfield 9, 3) := by decide +kernel
theorem dOperators_widthOf_16 : decode bOperators_widthOf 16 = .ok (.iload_n 1, 1) := by decide +kernel
theorem dOperators_widthOf_17 : decode bOperators_widthOf 17 = .ok (.invokevirtual 21, 3) := by decide +kernel
theorem dOperators_widthOf_20 : decode bOperators_widthOf 20 = .ok (.goto 4, 3) := by decide +kernel
theorem dOperators_widthOf_23 : decode bOperators_widthOf 23 = .ok (.iconst 1, 1) := by decide +kernel
theorem dOperators_widthOf_24 : decode bOperators_widthOf 24 = .ok (.ireturn, 1) := by decide +kernel
theorem dOperators_combine_0 : decode bOperators_combine 0 = .ok (.aload_n 0, 1) := by decide +kernel
theorem dOperators_combine_1 : decode bOperators_combine 1 = .ok (.getfield 9, 3) := by decide +kernel
theorem dOperators_combine_4 : decode bOperators_combine 4 = .ok (.iload_n 1, 1) := by decide +kernel
theorem dOperators_combine_5 : decode bOperators_combine 5 = .ok (.invokevirtual 15, 3) := by decide +kernel
theorem dOperators_combine_8 : decode bOperators_combine 8 = .ok (.lookupswitch 118 #[(0, 86), (1, 28)], 28) := by decide +kernel
theorem dOperators_combine_36 : decode bOperators_combine 36 = .ok (.aload_n 0, 1) := by decide +kernel
theorem dOperators_combine_37 : decode bOperators_combine 37 = .ok (.getfield 9, 3) := by decide +kernel
theorem dOperators_combine_40 : decode bOperators_combine 40 = .ok (.iload_n 1, 1) := by decide +kernel
theorem dOperators_combine_41 : decode bOperators_combine 41 = .ok (.iload_n 2, 1) := by decide +kernel
theorem dOperators_combine_42 : decode bOperators_combine 42 = .ok (.aload_n 0, 1) := by decide +kernel
theorem dOperators_combine_43 : decode bOperators_combine 43 = .ok (.getfield 9, 3) := by decide +kernel
theorem dOperators_combine_46 : decode bOperators_combine 46 = .ok (.iload_n 3, 1) := by decide +kernel
theorem dOperators_combine_47 : decode bOperators_combine 47 = .ok (.invokevirtual 36, 3) := by decide +kernel
theorem dOperators_combine_50 : decode bOperators_combine 50 = .ok (.iconst 1, 1) := by decide +kernel
theorem dOperators_combine_51 : decode bOperators_combine 51 = .ok (.if_icmp .ne 7, 3) := by decide +kernel
theorem dOperators_combine_54 : decode bOperators_combine 54 = .ok (.iconst 1, 1) := by decide +kernel
theorem dOperators_combine_55 : decode bOperators_combine 55 = .ok (.goto 4, 3) := by decide +kernel
theorem dOperators_combine_58 : decode bOperators_combine 58 = .ok (.iconst 0, 1) := by decide +kernel
theorem dOperators_combine_59 : decode bOperators_combine 59 = .ok (.aload_n 0, 1) := by decide +kernel
theorem dOperators_combine_60 : decode bOperators_combine 60 = .ok (.getfield 9, 3) := by decide +kernel
theorem dOperators_combine_63 : decode bOperators_combine 63 = .ok (.iload 4, 2) := by decide +kernel
theorem dOperators_combine_65 : decode bOperators_combine 65 = .ok (.invokevirtual 36, 3) := by decide +kernel
theorem dOperators_combine_68 : decode bOperators_combine 68 = .ok (.iconst 1, 1) := by decide +kernel
theorem dOperators_combine_69 : decode bOperators_combine 69 = .ok (.if_icmp .ne 7, 3) := by decide +kernel
theorem dOperators_combine_72 : decode bOperators_combine 72 = .ok (.iconst 1, 1) := by decide +kernel
theorem dOperators_combine_73 : decode bOperators_combine 73 = .ok (.goto 4, 3) := by decide +kernel
theorem dOperators_combine_76 : decode bOperators_combine 76 = .ok (.iconst 0, 1) := by decide +kernel
theorem dOperators_combine_77 : decode bOperators_combine 77 = .ok (.invokestatic 104, 3) := by decide +kernel
theorem dOperators_combine_80 : decode bOperators_combine 80 = .ok (.ifCond .eq 7, 3) := by decide +kernel
theorem dOperators_combine_83 : decode bOperators_combine 83 = .ok (.iconst 1, 1) := by decide +kernel
theorem dOperators_combine_84 : decode bOperators_combine 84 = .ok (.goto 4, 3) := by decide +kernel
theorem dOperators_combine_87 : decode bOperators_combine 87 = .ok (.iconst 0, 1) := by decide +kernel
theorem dOperators_combine_88 : decode bOperators_combine 88 = .ok (.invokevirtual 39, 3) := by decide +kernel
theorem dOperators_combine_91 : decode bOperators_combine 91 = .ok (.goto 101, 3) := by decide +kernel
theorem dOperators_combine_94 : decode bOperators_combine 94 = .ok (.aload_n 0, 1) := by decide +kernel
theorem dOperators_combine_95 : decode bOperators_combine 95 = .ok (.getfield 9, 3) := by decide +kernel
theorem dOperators_combine_98 : decode bOperators_combine 98 = .ok (.iload_n 1, 1) := by decide +kernel
theorem dOperators_combine_99 : decode bOperators_combine 99 = .ok (.iload_n 2, 1) := by decide +kernel
theorem dOperators_combine_100 : decode bOperators_combine 100 = .ok (.aload_n 0, 1) := by decide +kernel
theorem dOperators_combine_101 : decode bOperators_combine 101 = .ok (.getfield 9, 3) := by decide +kernel
theorem dOperators_combine_104 : decode bOperators_combine 104 = .ok (.iload_n 3, 1) := by decide +kernel
theorem dOperators_combine_105 : decode bOperators_combine 105 = .ok (.invokevirtual 36, 3) := by decide +kernel
theorem dOperators_combine_108 : decode bOperators_combine 108 = .ok (.aload_n 0, 1) := by decide +kernel
theorem dOperators_combine_109 : decode bOperators_combine 109 = .ok (.getfield 9, 3) := by decide +kernel
theorem dOperators_combine_112 : decode bOperators_combine 112 = .ok (.iload 4, 2) := by decide +kernel
theorem dOperators_combine_114 : decode bOperators_combine 114 = .ok (.invokevirtual 36, 3) := by decide +kernel
theorem dOperators_combine_117 : decode bOperators_combine 117 = .ok (.invokestatic 108, 3) := by decide +kernel
theorem dOperators_combine_120 : decode bOperators_combine 120 = .ok (.invokevirtual 39, 3) := by decide +kernel
theorem dOperators_combine_123 : decode bOperators_combine 123 = .ok (.goto 69, 3) := by decide +kernel
theorem dOperators_combine_126 : decode bOperators_combine 126 = .ok (.iconst 0, 1) := by decide +kernel
theorem dOperators_combine_127 : decode bOperators_combine 127 = .ok (.istore 5, 2) := by decide +kernel
theorem dOperators_combine_129 : decode bOperators_combine 129 = .ok (.iload 5, 2) := by decide +kernel
theorem dOperators_combine_131 : decode bOperators_combine 131 = .ok (.aload_n 0, 1) := by decide +kernel
theorem dOperators_combine_132 : decode bOperators_combine 132 = .ok (.getfield 9, 3) := by decide +kernel
theorem dOperators_combine_135 : decode bOperators_combine 135 = .ok (.iload_n 1, 1) := by decide +kernel
theorem dOperators_combine_136 : decode bOperators_combine 136 = .ok (.invokevirtual 21, 3) := by decide +kernel
theorem dOperators_combine_139 : decode bOperators_combine 139 = .ok (.if_icmp .ge 53, 3) := by decide +kernel
theorem dOperators_combine_142 : decode bOperators_combine 142 = .ok (.aload_n 0, 1) := by decide +kernel
theorem dOperators_combine_143 : decode bOperators_combine 143 = .ok (.getfield 9, 3) := by decide +kernel
theorem dOperators_combine_146 : decode bOperators_combine 146 = .ok (.getfield 48, 3) := by decide +kernel
theorem dOperators_combine_149 : decode bOperators_combine 149 = .ok (.iload_n 1, 1) := by decide +kernel
theorem dOperators_combine_150 : decode bOperators_combine 150 = .ok (.iload 5, 2) := by decide +kernel
theorem dOperators_combine_152 : decode bOperators_combine 152 = .ok (.iload_n 2, 1) := by decide +kernel
theorem dOperators_combine_153 : decode bOperators_combine 153 = .ok (.aload_n 0, 1) := by decide +kernel
theorem dOperators_combine_154 : decode bOperators_combine 154 = .ok (.getfield 9, 3) := by decide +kernel
theorem dOperators_combine_157 : decode bOperators_combine 157 = .ok (.getfield 48, 3) := by decide +kernel
theorem dOperators_combine_160 : decode bOperators_combine 160 = .ok (.iload_n 3, 1) := by decide +kernel
theorem dOperators_combine_161 : decode bOperators_combine 161 = .ok (.iload 5, 2) := by decide +kernel
theorem dOperators_combine_163 : decode bOperators_combine 163 = .ok (.invokevirtual 52, 3) := by decide +kernel
theorem dOperators_combine_166 : decode bOperators_combine 166 = .ok (.aload_n 0, 1) := by decide +kernel
theorem dOperators_combine_167 : decode bOperators_combine 167 = .ok (.getfield 9, 3) := by decide +kernel
theorem dOperators_combine_170 : decode bOperators_combine 170 = .ok (.getfield 48, 3) := by decide +kernel
theorem dOperators_combine_173 : decode bOperators_combine 173 = .ok (.iload 4, 2) := by decide +kernel
theorem dOperators_combine_175 : decode bOperators_combine 175 = .ok (.iload 5, 2) := by decide +kernel
theorem dOperators_combine_177 : decode bOperators_combine 177 = .ok (.invokevirtual 52, 3) := by decide +kernel
theorem dOperators_combine_180 : decode bOperators_combine 180 = .ok (.invokestatic 108, 3) := by decide +kernel
theorem dOperators_combine_183 : decode bOperators_combine 183 = .ok (.invokevirtual 58, 3) := by decide +kernel
theorem dOperators_combine_186 : decode bOperators_combine 186 = .ok (.iinc 5 1, 3) := by decide +kernel
theorem dOperators_combine_189 : decode bOperators_combine 189 = .ok (.goto (-60), 3) := by decide +kernel
theorem dOperators_combine_192 : decode bOperators_combine 192 = .ok (.return_, 1) := by decide +kernel
theorem dOperators_areAlike_0 : decode bOperators_areAlike 0 = .ok (.aload_n 0, 1) := by decide +kernel
theorem dOperators_areAlike_1 : decode bOperators_areAlike 1 = .ok (.getfield 9, 3) := by decide +kernel
theorem dOperators_areAlike_4 : decode bOperators_areAlike 4 = .ok (.iload_n 1, 1) := by decide +kernel
theorem dOperators_areAlike_5 : decode bOperators_areAlike 5 = .ok (.invokevirtual 15, 3) := by decide +kernel
theorem dOperators_areAlike_8 : decode bOperators_areAlike 8 = .ok (.iconst 3, 1) := by decide +kernel
theorem dOperators_areAlike_9 : decode bOperators_areAlike 9 = .ok (.if_icmp .eq 28, 3) := by decide +kernel
theorem dOperators_areAlike_12 : decode bOperators_areAlike 12 = .ok (.aload_n 0, 1) := by decide +kernel
theorem dOperators_areAlike_13 : decode bOperators_areAlike 13 = .ok (.getfield 9, 3) := by decide +kernel
theorem dOperators_areAlike_16 : decode bOperators_areAlike 16 = .ok (.iload_n 1, 1) := by decide +kernel
theorem dOperators_areAlike_17 : decode bOperators_areAlike 17 = .ok (.invokevirtual 36, 3) := by decide +kernel
theorem dOperators_areAlike_20 : decode bOperators_areAlike 20 = .ok (.aload_n 0, 1) := by decide +kernel
theorem dOperators_areAlike_21 : decode bOperators_areAlike 21 = .ok (.getfield 9, 3) := by decide +kernel
theorem dOperators_areAlike_24 : decode bOperators_areAlike 24 = .ok (.iload_n 2, 1) := by decide +kernel
theorem dOperators_areAlike_25 : decode bOperators_areAlike 25 = .ok (.invokevirtual 36, 3) := by decide +kernel
theorem dOperators_areAlike_28 : decode bOperators_areAlike 28 = .ok (.if_icmp .ne 7, 3) := by decide +kernel
theorem dOperators_areAlike_31 : decode bOperators_areAlike 31 = .ok (.iconst 1, 1) := by decide +kernel
theorem dOperators_areAlike_32 : decode bOperators_areAlike 32 = .ok (.goto 4, 3) := by decide +kernel
theorem dOperators_areAlike_35 : decode bOperators_areAlike 35 = .ok (.iconst 0, 1) := by decide +kernel
theorem dOperators_areAlike_36 : decode bOperators_areAlike 36 = .ok (.ireturn, 1) := by decide +kernel
theorem dOperators_areAlike_37 : decode bOperators_areAlike 37 = .ok (.iconst 0, 1) := by decide +kernel
theorem dOperators_areAlike_38 : decode bOperators_areAlike 38 = .ok (.istore_n 3, 1) := by decide +kernel
theorem dOperators_areAlike_39 : decode bOperators_areAlike 39 = .ok (.iload_n 3, 1) := by decide +kernel
theorem dOperators_areAlike_40 : decode bOperators_areAlike 40 = .ok (.aload_n 0, 1) := by decide +kernel
theorem dOperators_areAlike_41 : decode bOperators_areAlike 41 = .ok (.getfield 9, 3) := by decide +kernel
theorem dOperators_areAlike_44 : decode bOperators_areAlike 44 = .ok (.iload_n 1, 1) := by decide +kernel
theorem dOperators_areAlike_45 : decode bOperators_areAlike 45 = .ok (.invokevirtual 21, 3) := by decide +kernel
theorem dOperators_areAlike_48 : decode bOperators_areAlike 48 = .ok (.if_icmp .ge 38, 3) := by decide +kernel
theorem dOperators_areAlike_51 : decode bOperators_areAlike 51 = .ok (.aload_n 0, 1) := by decide +kernel
theorem dOperators_areAlike_52 : decode bOperators_areAlike 52 = .ok (.getfield 9, 3) := by decide +kernel
theorem dOperators_areAlike_55 : decode bOperators_areAlike 55 = .ok (.getfield 48, 3) := by decide +kernel
theorem dOperators_areAlike_58 : decode bOperators_areAlike 58 = .ok (.iload_n 1, 1) := by decide +kernel
theorem dOperators_areAlike_59 : decode bOperators_areAlike 59 = .ok (.iload_n 3, 1) := by decide +kernel
theorem dOperators_areAlike_60 : decode bOperators_areAlike 60 = .ok (.invokevirtual 52, 3) := by decide +kernel
theorem dOperators_areAlike_63 : decode bOperators_areAlike 63 = .ok (.aload_n 0, 1) := by decide +kernel
theorem dOperators_areAlike_64 : decode bOperators_areAlike 64 = .ok (.getfield 9, 3) := by decide +kernel
theorem dOperators_areAlike_67 : decode bOperators_areAlike 67 = .ok (.getfield 48, 3) := by decide +kernel
theorem dOperators_areAlike_70 : decode bOperators_areAlike 70 = .ok (.iload_n 2, 1) := by decide +kernel
theorem dOperators_areAlike_71 : decode bOperators_areAlike 71 = .ok (.iload_n 3, 1) := by decide +kernel
theorem dOperators_areAlike_72 : decode bOperators_areAlike 72 = .ok (.invokevirtual 52, 3) := by decide +kernel
theorem dOperators_areAlike_75 : decode bOperators_areAlike 75 = .ok (.if_icmp .eq 5, 3) := by decide +kernel
theorem dOperators_areAlike_78 : decode bOperators_areAlike 78 = .ok (.iconst 0, 1) := by decide +kernel
theorem dOperators_areAlike_79 : decode bOperators_areAlike 79 = .ok (.ireturn, 1) := by decide +kernel
theorem dOperators_areAlike_80 : decode bOperators_areAlike 80 = .ok (.iinc 3 1, 3) := by decide +kernel
theorem dOperators_areAlike_83 : decode bOperators_areAlike 83 = .ok (.goto (-44), 3) := by decide +kernel
theorem dOperators_areAlike_86 : decode bOperators_areAlike 86 = .ok (.iconst 1, 1) := by decide +kernel
theorem dOperators_areAlike_87 : decode bOperators_areAlike 87 = .ok (.ireturn, 1) := by decide +kernel
theorem dOperators_isOrdered_0 : decode bOperators_isOrdered 0 = .ok (.aload_n 0, 1) := by decide +kernel
theorem dOperators_isOrdered_1 : decode bOperators_isOrdered 1 = .ok (.getfield 9, 3) := by decide +kernel
theorem dOperators_isOrdered_4 : decode bOperators_isOrdered 4 = .ok (.iload_n 2, 1) := by decide +kernel
theorem dOperators_isOrdered_5 : decode bOperators_isOrdered 5 = .ok (.invokevirtual 36, 3) := by decide +kernel
theorem dOperators_isOrdered_8 : decode bOperators_isOrdered 8 = .ok (.aload_n 0, 1) := by decide +kernel
theorem dOperators_isOrdered_9 : decode bOperators_isOrdered 9 = .ok (.getfield 9, 3) := by decide +kernel
theorem dOperators_isOrdered_12 : decode bOperators_isOrdered 12 = .ok (.iload_n 3, 1) := by decide +kernel
theorem dOperators_isOrdered_13 : decode bOperators_isOrdered 13 = .ok (.invokevirtual 36, 3) := by decide +kernel
theorem dOperators_isOrdered_16 : decode bOperators_isOrdered 16 = .ok (.invokestatic 111, 3) := by decide +kernel
theorem dOperators_isOrdered_19 : decode bOperators_isOrdered 19 = .ok (.istore 4, 2) := by decide +kernel
theorem dOperators_isOrdered_21 : decode bOperators_isOrdered 21 = .ok (.aload_n 0, 1) := by decide +kernel
theorem dOperators_isOrdered_22 : decode bOperators_isOrdered 22 = .ok (.getfield 9, 3) := by decide +kernel
theorem dOperators_isOrdered_25 : decode bOperators_isOrdered 25 = .ok (.iload_n 2, 1) := by decide +kernel
theorem dOperators_isOrdered_26 : decode bOperators_isOrdered 26 = .ok (.invokevirtual 15, 3) := by decide +kernel
theorem dOperators_isOrdered_29 : decode bOperators_isOrdered 29 = .ok (.iconst 3, 1) := by decide +kernel
theorem dOperators_isOrdered_30 : decode bOperators_isOrdered 30 = .ok (.if_icmp .ne 44, 3) := by decide +kernel
theorem dOperators_isOrdered_33 : decode bOperators_isOrdered 33 = .ok (.aload_n 0, 1) := by decide +kernel
theorem dOperators_isOrdered_34 : decode bOperators_isOrdered 34 = .ok (.iload_n 2, 1) := by decide +kernel
theorem dOperators_isOrdered_35 : decode bOperators_isOrdered 35 = .ok (.invokevirtual 116, 3) := by decide +kernel
theorem dOperators_isOrdered_38 : decode bOperators_isOrdered 38 = .ok (.ifCond .eq 11, 3) := by decide +kernel
theorem dOperators_isOrdered_41 : decode bOperators_isOrdered 41 = .ok (.aload_n 0, 1) := by decide +kernel
theorem dOperators_isOrdered_42 : decode bOperators_isOrdered 42 = .ok (.iload_n 3, 1) := by decide +kernel
theorem dOperators_isOrdered_43 : decode bOperators_isOrdered 43 = .ok (.invokevirtual 116, 3) := by decide +kernel
theorem dOperators_isOrdered_46 : decode bOperators_isOrdered 46 = .ok (.ifCond .ne 5, 3) := by decide +kernel
theorem dOperators_isOrdered_49 : decode bOperators_isOrdered 49 = .ok (.iconst 0, 1) := by decide +kernel
theorem dOperators_isOrdered_50 : decode bOperators_isOrdered 50 = .ok (.ireturn, 1) := by decide +kernel
theorem dOperators_isOrdered_51 : decode bOperators_isOrdered 51 = .ok (.aload_n 0, 1) := by decide +kernel
theorem dOperators_isOrdered_52 : decode bOperators_isOrdered 52 = .ok (.iload_n 2, 1) := by decide +kernel
theorem dOperators_isOrdered_53 : decode bOperators_isOrdered 53 = .ok (.invokevirtual 119, 3) := by decide +kernel
theorem dOperators_isOrdered_56 : decode bOperators_isOrdered 56 = .ok (.ldc2_w 123, 3) := by decide +kernel
theorem dOperators_isOrdered_59 : decode bOperators_isOrdered 59 = .ok (.lxor, 1) := by decide +kernel
theorem dOperators_isOrdered_60 : decode bOperators_isOrdered 60 = .ok (.aload_n 0, 1) := by decide +kernel
theorem dOperators_isOrdered_61 : decode bOperators_isOrdered 61 = .ok (.iload_n 3, 1) := by decide +kernel
theorem dOperators_isOrdered_62 : decode bOperators_isOrdered 62 = .ok (.invokevirtual 119, 3) := by decide +kernel
theorem dOperators_isOrdered_65 : decode bOperators_isOrdered 65 = .ok (.ldc2_w 123, 3) := by decide +kernel
theorem dOperators_isOrdered_68 : decode bOperators_isOrdered 68 = .ok (.lxor, 1) := by decide +kernel
theorem dOperators_isOrdered_69 : decode bOperators_isOrdered 69 = .ok (.invokestatic 125, 3) := by decide +kernel
theorem dOperators_isOrdered_72 : decode bOperators_isOrdered 72 = .ok (.istore 4, 2) := by decide +kernel
theorem dOperators_isOrdered_74 : decode bOperators_isOrdered 74 = .ok (.iload_n 1, 1) := by decide +kernel
theorem dOperators_isOrdered_75 : decode bOperators_isOrdered 75 = .ok (.tableswitch 58 8 10 #[25, 36, 47], 25) := by decide +kernel
theorem dOperators_isOrdered_100 : decode bOperators_isOrdered 100 = .ok (.iload 4, 2) := by decide +kernel
theorem dOperators_isOrdered_102 : decode bOperators_isOrdered 102 = .ok (.ifCond .ge 7, 3) := by decide +kernel
theorem dOperators_isOrdered_105 : decode bOperators_isOrdered 105 = .ok (.iconst 1, 1) := by decide +kernel
theorem dOperators_isOrdered_106 : decode bOperators_isOrdered 106 = .ok (.goto 4, 3) := by decide +kernel
theorem dOperators_isOrdered_109 : decode bOperators_isOrdered 109 = .ok (.iconst 0, 1) := by decide +kernel
theorem dOperators_isOrdered_110 : decode bOperators_isOrdered 110 = .ok (.ireturn, 1) := by decide +kernel
theorem dOperators_isOrdered_111 : decode bOperators_isOrdered 111 = .ok (.iload 4, 2) := by decide +kernel
theorem dOperators_isOrdered_113 : decode bOperators_isOrdered 113 = .ok (.ifCond .gt 7, 3) := by decide +kernel
theorem dOperators_isOrdered_116 : decode bOperators_isOrdered 116 = .ok (.iconst 1, 1) := by decide +kernel
theorem dOperators_isOrdered_117 : decode bOperators_isOrdered 117 = .ok (.goto 4, 3) := by decide +kernel
theorem dOperators_isOrdered_120 : decode bOperators_isOrdered 120 = .ok (.iconst 0, 1) := by decide +kernel
theorem dOperators_isOrdered_121 : decode bOperators_isOrdered 121 = .ok (.ireturn, 1) := by decide +kernel
theorem dOperators_isOrdered_122 : decode bOperators_isOrdered 122 = .ok (.iload 4, 2) := by decide +kernel
theorem dOperators_isOrdered_124 : decode bOperators_isOrdered 124 = .ok (.ifCond .le 7, 3) := by decide +kernel
theorem dOperators_isOrdered_127 : decode bOperators_isOrdered 127 = .ok (.iconst 1, 1) := by decide +kernel
theorem dOperators_isOrdered_128 : decode bOperators_isOrdered 128 = .ok (.goto 4, 3) := by decide +kernel
theorem dOperators_isOrdered_131 : decode bOperators_isOrdered 131 = .ok (.iconst 0, 1) := by decide +kernel
theorem dOperators_isOrdered_132 : decode bOperators_isOrdered 132 = .ok (.ireturn, 1) := by decide +kernel
theorem dOperators_isOrdered_133 : decode bOperators_isOrdered 133 = .ok (.iload 4, 2) := by decide +kernel
theorem dOperators_isOrdered_135 : decode bOperators_isOrdered 135 = .ok (.ifCond .lt 7, 3) := by decide +kernel
theorem dOperators_isOrdered_138 : decode bOperators_isOrdered 138 = .ok (.iconst 1, 1) := by decide +kernel
theorem dOperators_isOrdered_139 : decode bOperators_isOrdered 139 = .ok (.goto 4, 3) := by decide +kernel
theorem dOperators_isOrdered_142 : decode bOperators_isOrdered 142 = .ok (.iconst 0, 1) := by decide +kernel
theorem dOperators_isOrdered_143 : decode bOperators_isOrdered 143 = .ok (.ireturn, 1) := by decide +kernel
theorem dOperators_isClear_0 : decode bOperators_isClear 0 = .ok (.aload_n 0, 1) := by decide +kernel
theorem dOperators_isClear_1 : decode bOperators_isClear 1 = .ok (.getfield 9, 3) := by decide +kernel
theorem dOperators_isClear_4 : decode bOperators_isClear 4 = .ok (.iload_n 1, 1) := by decide +kernel
theorem dOperators_isClear_5 : decode bOperators_isClear 5 = .ok (.invokevirtual 15, 3) := by decide +kernel
theorem dOperators_isClear_8 : decode bOperators_isClear 8 = .ok (.iconst 3, 1) := by decide +kernel
theorem dOperators_isClear_9 : decode bOperators_isClear 9 = .ok (.if_icmp .ne 25, 3) := by decide +kernel
theorem dOperators_isClear_12 : decode bOperators_isClear 12 = .ok (.aload_n 0, 1) := by decide +kernel
theorem dOperators_isClear_13 : decode bOperators_isClear 13 = .ok (.getfield 9, 3) := by decide +kernel
theorem dOperators_isClear_16 : decode bOperators_isClear 16 = .ok (.getfield 48, 3) := by decide +kernel
theorem dOperators_isClear_19 : decode bOperators_isClear 19 = .ok (.iload_n 1, 1) := by decide +kernel
theorem dOperators_isClear_20 : decode bOperators_isClear 20 = .ok (.aload_n 0, 1) := by decide +kernel
theorem dOperators_isClear_21 : decode bOperators_isClear 21 = .ok (.getfield 9, 3) := by decide +kernel
theorem dOperators_isClear_24 : decode bOperators_isClear 24 = .ok (.iload_n 1, 1) := by decide +kernel
theorem dOperators_isClear_25 : decode bOperators_isClear 25 = .ok (.invokevirtual 21, 3) := by decide +kernel
theorem dOperators_isClear_28 : decode bOperators_isClear 28 = .ok (.invokevirtual 130, 3) := by decide +kernel
theorem dOperators_isClear_31 : decode bOperators_isClear 31 = .ok (.ifCond .eq 7, 3) := by decide +kernel
theorem dOperators_isClear_34 : decode bOperators_isClear 34 = .ok (.iconst 1, 1) := by decide +kernel
theorem dOperators_isClear_35 : decode bOperators_isClear 35 = .ok (.goto 4, 3) := by decide +kernel
theorem dOperators_isClear_38 : decode bOperators_isClear 38 = .ok (.iconst 0, 1) := by decide +kernel
theorem dOperators_isClear_39 : decode bOperators_isClear 39 = .ok (.ireturn, 1) := by decide +kernel
theorem dOperators_countsAs_0 : decode bOperators_countsAs 0 = .ok (.aload_n 0, 1) := by decide +kernel
theorem dOperators_countsAs_1 : decode bOperators_countsAs 1 = .ok (.getfield 9, 3) := by decide +kernel
theorem dOperators_countsAs_4 : decode bOperators_countsAs 4 = .ok (.iload_n 1, 1) := by decide +kernel
theorem dOperators_countsAs_5 : decode bOperators_countsAs 5 = .ok (.invokevirtual 15, 3) := by decide +kernel
theorem dOperators_countsAs_8 : decode bOperators_countsAs 8 = .ok (.iconst 3, 1) := by decide +kernel
theorem dOperators_countsAs_9 : decode bOperators_countsAs 9 = .ok (.if_icmp .ne 25, 3) := by decide +kernel
theorem dOperators_countsAs_12 : decode bOperators_countsAs 12 = .ok (.aload_n 0, 1) := by decide +kernel
theorem dOperators_countsAs_13 : decode bOperators_countsAs 13 = .ok (.getfield 9, 3) := by decide +kernel
theorem dOperators_countsAs_16 : decode bOperators_countsAs 16 = .ok (.getfield 48, 3) := by decide +kernel
theorem dOperators_countsAs_19 : decode bOperators_countsAs 19 = .ok (.iload_n 1, 1) := by decide +kernel
theorem dOperators_countsAs_20 : decode bOperators_countsAs 20 = .ok (.aload_n 0, 1) := by decide +kernel
theorem dOperators_countsAs_21 : decode bOperators_countsAs 21 = .ok (.getfield 9, 3) := by decide +kernel
theorem dOperators_countsAs_24 : decode bOperators_countsAs 24 = .ok (.iload_n 1, 1) := by decide +kernel
theorem dOperators_countsAs_25 : decode bOperators_countsAs 25 = .ok (.invokevirtual 21, 3) := by decide +kernel
theorem dOperators_countsAs_28 : decode bOperators_countsAs 28 = .ok (.invokevirtual 132, 3) := by decide +kernel
theorem dOperators_countsAs_31 : decode bOperators_countsAs 31 = .ok (.goto 12, 3) := by decide +kernel
theorem dOperators_countsAs_34 : decode bOperators_countsAs 34 = .ok (.aload_n 0, 1) := by decide +kernel
theorem dOperators_countsAs_35 : decode bOperators_countsAs 35 = .ok (.getfield 9, 3) := by decide +kernel
theorem dOperators_countsAs_38 : decode bOperators_countsAs 38 = .ok (.iload_n 1, 1) := by decide +kernel
theorem dOperators_countsAs_39 : decode bOperators_countsAs 39 = .ok (.invokevirtual 36, 3) := by decide +kernel
theorem dOperators_countsAs_42 : decode bOperators_countsAs 42 = .ok (.i2l, 1) := by decide +kernel
theorem dOperators_countsAs_43 : decode bOperators_countsAs 43 = .ok (.lreturn, 1) := by decide +kernel
theorem dOperators_calculate_0 : decode bOperators_calculate 0 = .ok (.iload_n 2, 1) := by decide +kernel
theorem dOperators_calculate_1 : decode bOperators_calculate 1 = .ok (.bipush 16, 2) := by decide +kernel
theorem dOperators_calculate_3 : decode bOperators_calculate 3 = .ok (.if_icmp .lt 13, 3) := by decide +kernel
theorem dOperators_calculate_6 : decode bOperators_calculate 6 = .ok (.iload_n 2, 1) := by decide +kernel
theorem dOperators_calculate_7 : decode bOperators_calculate 7 = .ok (.bipush 18, 2) := by decide +kernel
theorem dOperators_calculate_9 : decode bOperators_calculate 9 = .ok (.if_icmp .gt 7, 3) := by decide +kernel
theorem dOperators_calculate_12 : decode bOperators_calculate 12 = .ok (.iconst 1, 1) := by decide +kernel
theorem dOperators_calculate_13 : decode bOperators_calculate 13 = .ok (.goto 4, 3) := by decide +kernel
theorem dOperators_calculate_16 : decode bOperators_calculate 16 = .ok (.iconst 0, 1) := by decide +kernel
theorem dOperators_calculate_17 : decode bOperators_calculate 17 = .ok (.istore 7, 2) := by decide +kernel
theorem dOperators_calculate_19 : decode bOperators_calculate 19 = .ok (.iload 7, 2) := by decide +kernel
theorem dOperators_calculate_21 : decode bOperators_calculate 21 = .ok (.ifCond .eq 13, 3) := by decide +kernel
theorem dOperators_calculate_24 : decode bOperators_calculate 24 = .ok (.lload 5, 2) := by decide +kernel
theorem dOperators_calculate_26 : decode bOperators_calculate 26 = .ok (.lconst 0, 1) := by decide +kernel
theorem dOperators_calculate_27 : decode bOperators_calculate 27 = .ok (.lcmp, 1) := by decide +kernel
theorem dOperators_calculate_28 : decode bOperators_calculate 28 = .ok (.ifCond .ne 6, 3) := by decide +kernel
theorem dOperators_calculate_31 : decode bOperators_calculate 31 = .ok (.bipush 10, 2) := by decide +kernel
theorem dOperators_calculate_33 : decode bOperators_calculate 33 = .ok (.ireturn, 1) := by decide +kernel
theorem dOperators_calculate_34 : decode bOperators_calculate 34 = .ok (.iload 7, 2) := by decide +kernel
theorem dOperators_calculate_36 : decode bOperators_calculate 36 = .ok (.ifCond .eq 13, 3) := by decide +kernel
theorem dOperators_calculate_39 : decode bOperators_calculate 39 = .ok (.iload_n 2, 1) := by decide +kernel
theorem dOperators_calculate_40 : decode bOperators_calculate 40 = .ok (.lload_n 3, 1) := by decide +kernel
theorem dOperators_calculate_41 : decode bOperators_calculate 41 = .ok (.lload 5, 2) := by decide +kernel
theorem dOperators_calculate_43 : decode bOperators_calculate 43 = .ok (.invokestatic 136, 3) := by decide +kernel
theorem dOperators_calculate_46 : decode bOperators_calculate 46 = .ok (.goto 33, 3) := by decide +kernel
theorem dOperators_calculate_49 : decode bOperators_calculate 49 = .ok (.iload_n 2, 1) := by decide +kernel
theorem dOperators_calculate_50 : decode bOperators_calculate 50 = .ok (.bipush 12, 2) := by decide +kernel
theorem dOperators_calculate_52 : decode bOperators_calculate 52 = .ok (.if_icmp .ne 10, 3) := by decide +kernel
theorem dOperators_calculate_55 : decode bOperators_calculate 55 = .ok (.lload_n 3, 1) := by decide +kernel
theorem dOperators_calculate_56 : decode bOperators_calculate 56 = .ok (.lload 5, 2) := by decide +kernel
theorem dOperators_calculate_58 : decode bOperators_calculate 58 = .ok (.ladd, 1) := by decide +kernel
theorem dOperators_calculate_59 : decode bOperators_calculate 59 = .ok (.goto 20, 3) := by decide +kernel
theorem dOperators_calculate_62 : decode bOperators_calculate 62 = .ok (.iload_n 2, 1) := by decide +kernel
theorem dOperators_calculate_63 : decode bOperators_calculate 63 = .ok (.bipush 13, 2) := by decide +kernel
theorem dOperators_calculate_65 : decode bOperators_calculate 65 = .ok (.if_icmp .ne 10, 3) := by decide +kernel
theorem dOperators_calculate_68 : decode bOperators_calculate 68 = .ok (.lload_n 3, 1) := by decide +kernel
theorem dOperators_calculate_69 : decode bOperators_calculate 69 = .ok (.lload 5, 2) := by decide +kernel
theorem dOperators_calculate_71 : decode bOperators_calculate 71 = .ok (.lsub, 1) := by decide +kernel
theorem dOperators_calculate_72 : decode bOperators_calculate 72 = .ok (.goto 7, 3) := by decide +kernel
theorem dOperators_calculate_75 : decode bOperators_calculate 75 = .ok (.lload_n 3, 1) := by decide +kernel
theorem dOperators_calculate_76 : decode bOperators_calculate 76 = .ok (.lload 5, 2) := by decide +kernel
theorem dOperators_calculate_78 : decode bOperators_calculate 78 = .ok (.lmul, 1) := by decide +kernel
theorem dOperators_calculate_79 : decode bOperators_calculate 79 = .ok (.lstore 8, 2) := by decide +kernel
theorem dOperators_calculate_81 : decode bOperators_calculate 81 = .ok (.lload 8, 2) := by decide +kernel
theorem dOperators_calculate_83 : decode bOperators_calculate 83 = .ok (.ldc2_w 140, 3) := by decide +kernel
theorem dOperators_calculate_86 : decode bOperators_calculate 86 = .ok (.lcmp, 1) := by decide +kernel
theorem dOperators_calculate_87 : decode bOperators_calculate 87 = .ok (.ifCond .gt 12, 3) := by decide +kernel
theorem dOperators_calculate_90 : decode bOperators_calculate 90 = .ok (.lload 8, 2) := by decide +kernel
theorem dOperators_calculate_92 : decode bOperators_calculate 92 = .ok (.ldc2_w 142, 3) := by decide +kernel
theorem dOperators_calculate_95 : decode bOperators_calculate 95 = .ok (.lcmp, 1) := by decide +kernel
theorem dOperators_calculate_96 : decode bOperators_calculate 96 = .ok (.ifCond .ge 6, 3) := by decide +kernel
theorem dOperators_calculate_99 : decode bOperators_calculate 99 = .ok (.bipush 9, 2) := by decide +kernel
theorem dOperators_calculate_101 : decode bOperators_calculate 101 = .ok (.ireturn, 1) := by decide +kernel
theorem dOperators_calculate_102 : decode bOperators_calculate 102 = .ok (.aload_n 0, 1) := by decide +kernel
theorem dOperators_calculate_103 : decode bOperators_calculate 103 = .ok (.getfield 9, 3) := by decide +kernel
theorem dOperators_calculate_106 : decode bOperators_calculate 106 = .ok (.iload_n 1, 1) := by decide +kernel
theorem dOperators_calculate_107 : decode bOperators_calculate 107 = .ok (.lload 8, 2) := by decide +kernel
theorem dOperators_calculate_109 : decode bOperators_calculate 109 = .ok (.l2i, 1) := by decide +kernel
theorem dOperators_calculate_110 : decode bOperators_calculate 110 = .ok (.invokevirtual 39, 3) := by decide +kernel
theorem dOperators_calculate_113 : decode bOperators_calculate 113 = .ok (.iconst 0, 1) := by decide +kernel
theorem dOperators_calculate_114 : decode bOperators_calculate 114 = .ok (.ireturn, 1) := by decide +kernel
theorem dOperators_divided_0 : decode bOperators_divided 0 = .ok (.lload_n 3, 1) := by decide +kernel
theorem dOperators_divided_1 : decode bOperators_divided 1 = .ok (.lconst 0, 1) := by decide +kernel
theorem dOperators_divided_2 : decode bOperators_divided 2 = .ok (.lcmp, 1) := by decide +kernel
theorem dOperators_divided_3 : decode bOperators_divided 3 = .ok (.ifCond .ne 5, 3) := by decide +kernel
theorem dOperators_divided_6 : decode bOperators_divided 6 = .ok (.lconst 0, 1) := by decide +kernel
theorem dOperators_divided_7 : decode bOperators_divided 7 = .ok (.lreturn, 1) := by decide +kernel
theorem dOperators_divided_8 : decode bOperators_divided 8 = .ok (.iload_n 0, 1) := by decide +kernel
theorem dOperators_divided_9 : decode bOperators_divided 9 = .ok (.bipush 16, 2) := by decide +kernel
theorem dOperators_divided_11 : decode bOperators_divided 11 = .ok (.if_icmp .ne 9, 3) := by decide +kernel
theorem dOperators_divided_14 : decode bOperators_divided 14 = .ok (.lload_n 1, 1) := by decide +kernel
theorem dOperators_divided_15 : decode bOperators_divided 15 = .ok (.lload_n 3, 1) := by decide +kernel
theorem dOperators_divided_16 : decode bOperators_divided 16 = .ok (.ldiv, 1) := by decide +kernel
theorem dOperators_divided_17 : decode bOperators_divided 17 = .ok (.goto 20, 3) := by decide +kernel
theorem dOperators_divided_20 : decode bOperators_divided 20 = .ok (.iload_n 0, 1) := by decide +kernel
theorem dOperators_divided_21 : decode bOperators_divided 21 = .ok (.bipush 17, 2) := by decide +kernel
theorem dOperators_divided_23 : decode bOperators_divided 23 = .ok (.if_icmp .ne 11, 3) := by decide +kernel
theorem dOperators_divided_26 : decode bOperators_divided 26 = .ok (.lload_n 1, 1) := by decide +kernel
theorem dOperators_divided_27 : decode bOperators_divided 27 = .ok (.lload_n 3, 1) := by decide +kernel
theorem dOperators_divided_28 : decode bOperators_divided 28 = .ok (.invokestatic 144, 3) := by decide +kernel
theorem dOperators_divided_31 : decode bOperators_divided 31 = .ok (.goto 6, 3) := by decide +kernel
theorem dOperators_divided_34 : decode bOperators_divided 34 = .ok (.lload_n 1, 1) := by decide +kernel
theorem dOperators_divided_35 : decode bOperators_divided 35 = .ok (.lload_n 3, 1) := by decide +kernel
theorem dOperators_divided_36 : decode bOperators_divided 36 = .ok (.lrem, 1) := by decide +kernel
theorem dOperators_divided_37 : decode bOperators_divided 37 = .ok (.lreturn, 1) := by decide +kernel
theorem dOperators_sumRows_0 : decode bOperators_sumRows 0 = .ok (.aload_n 0, 1) := by decide +kernel
theorem dOperators_sumRows_1 : decode bOperators_sumRows 1 = .ok (.getfield 9, 3) := by decide +kernel
theorem dOperators_sumRows_4 : decode bOperators_sumRows 4 = .ok (.iload_n 1, 1) := by decide +kernel
theorem dOperators_sumRows_5 : decode bOperators_sumRows 5 = .ok (.invokevirtual 21, 3) := by decide +kernel
theorem dOperators_sumRows_8 : decode bOperators_sumRows 8 = .ok (.istore 5, 2) := by decide +kernel
theorem dOperators_sumRows_10 : decode bOperators_sumRows 10 = .ok (.aload_n 0, 1) := by decide +kernel
theorem dOperators_sumRows_11 : decode bOperators_sumRows 11 = .ok (.iload_n 3, 1) := by decide +kernel
theorem dOperators_sumRows_12 : decode bOperators_sumRows 12 = .ok (.invokevirtual 116, 3) := by decide +kernel
theorem dOperators_sumRows_15 : decode bOperators_sumRows 15 = .ok (.ifCond .eq 12, 3) := by decide +kernel
theorem dOperators_sumRows_18 : decode bOperators_sumRows 18 = .ok (.aload_n 0, 1) := by decide +kernel
theorem dOperators_sumRows_19 : decode bOperators_sumRows 19 = .ok (.iload 4, 2) := by decide +kernel
theorem dOperators_sumRows_21 : decode bOperators_sumRows 21 = .ok (.invokevirtual 116, 3) := by decide +kernel
theorem dOperators_sumRows_24 : decode bOperators_sumRows 24 = .ok (.ifCond .ne 18, 3) := by decide +kernel
theorem dOperators_sumRows_27 : decode bOperators_sumRows 27 = .ok (.aload_n 0, 1) := by decide +kernel
theorem dOperators_sumRows_28 : decode bOperators_sumRows 28 = .ok (.getfield 9, 3) := by decide +kernel
theorem dOperators_sumRows_31 : decode bOperators_sumRows 31 = .ok (.getfield 48, 3) := by decide +kernel
theorem dOperators_sumRows_34 : decode bOperators_sumRows 34 = .ok (.iload_n 1, 1) := by decide +kernel
theorem dOperators_sumRows_35 : decode bOperators_sumRows 35 = .ok (.iload 5, 2) := by decide +kernel
theorem dOperators_sumRows_37 : decode bOperators_sumRows 37 = .ok (.iconst 1, 1) := by decide +kernel
theorem dOperators_sumRows_38 : decode bOperators_sumRows 38 = .ok (.invokevirtual 148, 3) := by decide +kernel
theorem dOperators_sumRows_41 : decode bOperators_sumRows 41 = .ok (.return_, 1) := by decide +kernel
theorem dOperators_sumRows_42 : decode bOperators_sumRows 42 = .ok (.iload_n 2, 1) := by decide +kernel
theorem dOperators_sumRows_43 : decode bOperators_sumRows 43 = .ok (.bipush 12, 2) := by decide +kernel
theorem dOperators_sumRows_45 : decode bOperators_sumRows 45 = .ok (.if_icmp .ne 18, 3) := by decide +kernel
theorem dOperators_sumRows_48 : decode bOperators_sumRows 48 = .ok (.aload_n 0, 1) := by decide +kernel
theorem dOperators_sumRows_49 : decode bOperators_sumRows 49 = .ok (.iload_n 3, 1) := by decide +kernel
theorem dOperators_sumRows_50 : decode bOperators_sumRows 50 = .ok (.invokevirtual 119, 3) := by decide +kernel
theorem dOperators_sumRows_53 : decode bOperators_sumRows 53 = .ok (.aload_n 0, 1) := by decide +kernel
theorem dOperators_sumRows_54 : decode bOperators_sumRows 54 = .ok (.iload 4, 2) := by decide +kernel
theorem dOperators_sumRows_56 : decode bOperators_sumRows 56 = .ok (.invokevirtual 119, 3) := by decide +kernel
theorem dOperators_sumRows_59 : decode bOperators_sumRows 59 = .ok (.ladd, 1) := by decide +kernel
theorem dOperators_sumRows_60 : decode bOperators_sumRows 60 = .ok (.goto 15, 3) := by decide +kernel
theorem dOperators_sumRows_63 : decode bOperators_sumRows 63 = .ok (.aload_n 0, 1) := by decide +kernel
theorem dOperators_sumRows_64 : decode bOperators_sumRows 64 = .ok (.iload_n 3, 1) := by decide +kernel
theorem dOperators_sumRows_65 : decode bOperators_sumRows 65 = .ok (.invokevirtual 119, 3) := by decide +kernel
theorem dOperators_sumRows_68 : decode bOperators_sumRows 68 = .ok (.aload_n 0, 1) := by decide +kernel
theorem dOperators_sumRows_69 : decode bOperators_sumRows 69 = .ok (.iload 4, 2) := by decide +kernel
theorem dOperators_sumRows_71 : decode bOperators_sumRows 71 = .ok (.invokevirtual 119, 3) := by decide +kernel
theorem dOperators_sumRows_74 : decode bOperators_sumRows 74 = .ok (.lsub, 1) := by decide +kernel
theorem dOperators_sumRows_75 : decode bOperators_sumRows 75 = .ok (.lstore 6, 2) := by decide +kernel
theorem dOperators_sumRows_77 : decode bOperators_sumRows 77 = .ok (.aload_n 0, 1) := by decide +kernel
theorem dOperators_sumRows_78 : decode bOperators_sumRows 78 = .ok (.getfield 9, 3) := by decide +kernel
theorem dOperators_sumRows_81 : decode bOperators_sumRows 81 = .ok (.getfield 48, 3) := by decide +kernel
theorem dOperators_sumRows_84 : decode bOperators_sumRows 84 = .ok (.iload_n 1, 1) := by decide +kernel
theorem dOperators_sumRows_85 : decode bOperators_sumRows 85 = .ok (.iload 5, 2) := by decide +kernel
theorem dOperators_sumRows_87 : decode bOperators_sumRows 87 = .ok (.lload 6, 2) := by decide +kernel
theorem dOperators_sumRows_89 : decode bOperators_sumRows 89 = .ok (.invokevirtual 151, 3) := by decide +kernel
theorem dOperators_sumRows_92 : decode bOperators_sumRows 92 = .ok (.return_, 1) := by decide +kernel
theorem dOperators_join_0 : decode bOperators_join 0 = .ok (.aload_n 0, 1) := by decide +kernel
theorem dOperators_join_1 : decode bOperators_join 1 = .ok (.iload_n 3, 1) := by decide +kernel
theorem dOperators_join_2 : decode bOperators_join 2 = .ok (.invokevirtual 101, 3) := by decide +kernel
theorem dOperators_join_5 : decode bOperators_join 5 = .ok (.istore 4, 2) := by decide +kernel
theorem dOperators_join_7 : decode bOperators_join 7 = .ok (.iconst 0, 1) := by decide +kernel
theorem dOperators_join_8 : decode bOperators_join 8 = .ok (.istore 5, 2) := by decide +kernel
theorem dOperators_join_10 : decode bOperators_join 10 = .ok (.iload 5, 2) := by decide +kernel
theorem dOperators_join_12 : decode bOperators_join 12 = .ok (.aload_n 0, 1) := by decide +kernel
theorem dOperators_join_13 : decode bOperators_join 13 = .ok (.getfield 9, 3) := by decide +kernel
theorem dOperators_join_16 : decode bOperators_join 16 = .ok (.iload_n 1, 1) := by decide +kernel
theorem dOperators_join_17 : decode bOperators_join 17 = .ok (.invokevirtual 21, 3) := by decide +kernel
theorem dOperators_join_20 : decode bOperators_join 20 = .ok (.if_icmp .ge 49, 3) := by decide +kernel
theorem dOperators_join_23 : decode bOperators_join 23 = .ok (.aload_n 0, 1) := by decide +kernel
theorem dOperators_join_24 : decode bOperators_join 24 = .ok (.getfield 9, 3) := by decide +kernel
theorem dOperators_join_27 : decode bOperators_join 27 = .ok (.getfield 48, 3) := by decide +kernel
theorem dOperators_join_30 : decode bOperators_join 30 = .ok (.iload_n 1, 1) := by decide +kernel
theorem dOperators_join_31 : decode bOperators_join 31 = .ok (.iload 5, 2) := by decide +kernel
theorem dOperators_join_33 : decode bOperators_join 33 = .ok (.iload 5, 2) := by decide +kernel
theorem dOperators_join_35 : decode bOperators_join 35 = .ok (.iload 4, 2) := by decide +kernel
theorem dOperators_join_37 : decode bOperators_join 37 = .ok (.if_icmp .ge 13, 3) := by decide +kernel
theorem dOperators_join_40 : decode bOperators_join 40 = .ok (.aload_n 0, 1) := by decide +kernel
theorem dOperators_join_41 : decode bOperators_join 41 = .ok (.iload_n 3, 1) := by decide +kernel
theorem dOperators_join_42 : decode bOperators_join 42 = .ok (.iload 5, 2) := by decide +kernel
theorem dOperators_join_44 : decode bOperators_join 44 = .ok (.invokevirtual 155, 3) := by decide +kernel
theorem dOperators_join_47 : decode bOperators_join 47 = .ok (.goto 13, 3) := by decide +kernel
theorem dOperators_join_50 : decode bOperators_join 50 = .ok (.aload_n 0, 1) := by decide +kernel
theorem dOperators_join_51 : decode bOperators_join 51 = .ok (.iload_n 2, 1) := by decide +kernel
theorem dOperators_join_52 : decode bOperators_join 52 = .ok (.iload 5, 2) := by decide +kernel
theorem dOperators_join_54 : decode bOperators_join 54 = .ok (.iload 4, 2) := by decide +kernel
theorem dOperators_join_56 : decode bOperators_join 56 = .ok (.isub, 1) := by decide +kernel
theorem dOperators_join_57 : decode bOperators_join 57 = .ok (.invokevirtual 155, 3) := by decide +kernel
theorem dOperators_join_60 : decode bOperators_join 60 = .ok (.invokevirtual 58, 3) := by decide +kernel
theorem dOperators_join_63 : decode bOperators_join 63 = .ok (.iinc 5 1, 3) := by decide +kernel
theorem dOperators_join_66 : decode bOperators_join 66 = .ok (.goto (-56), 3) := by decide +kernel
theorem dOperators_join_69 : decode bOperators_join 69 = .ok (.return_, 1) := by decide +kernel
theorem dOperators_elementOf_0 : decode bOperators_elementOf 0 = .ok (.aload_n 0, 1) := by decide +kernel
theorem dOperators_elementOf_1 : decode bOperators_elementOf 1 = .ok (.getfield 9, 3) := by decide +kernel
theorem dOperators_elementOf_4 : decode bOperators_elementOf 4 = .ok (.iload_n 1, 1) := by decide +kernel
theorem dOperators_elementOf_5 : decode bOperators_elementOf 5 = .ok (.invokevirtual 15, 3) := by decide +kernel
theorem dOperators_elementOf_8 : decode bOperators_elementOf 8 = .ok (.iconst 3, 1) := by decide +kernel
theorem dOperators_elementOf_9 : decode bOperators_elementOf 9 = .ok (.if_icmp .ne 18, 3) := by decide +kernel
theorem dOperators_elementOf_12 : decode bOperators_elementOf 12 = .ok (.aload_n 0, 1) := by decide +kernel
theorem dOperators_elementOf_13 : decode bOperators_elementOf 13 = .ok (.getfield 9, 3) := by decide +kernel
theorem dOperators_elementOf_16 : decode bOperators_elementOf 16 = .ok (.getfield 48, 3) := by decide +kernel
theorem dOperators_elementOf_19 : decode bOperators_elementOf 19 = .ok (.iload_n 1, 1) := by decide +kernel
theorem dOperators_elementOf_20 : decode bOperators_elementOf 20 = .ok (.iload_n 2, 1) := by decide +kernel
theorem dOperators_elementOf_21 : decode bOperators_elementOf 21 = .ok (.invokevirtual 52, 3) := by decide +kernel
theorem dOperators_elementOf_24 : decode bOperators_elementOf 24 = .ok (.goto 11, 3) := by decide +kernel
theorem dOperators_elementOf_27 : decode bOperators_elementOf 27 = .ok (.aload_n 0, 1) := by decide +kernel
theorem dOperators_elementOf_28 : decode bOperators_elementOf 28 = .ok (.getfield 9, 3) := by decide +kernel
theorem dOperators_elementOf_31 : decode bOperators_elementOf 31 = .ok (.iload_n 1, 1) := by decide +kernel
theorem dOperators_elementOf_32 : decode bOperators_elementOf 32 = .ok (.invokevirtual 36, 3) := by decide +kernel
theorem dOperators_elementOf_35 : decode bOperators_elementOf 35 = .ok (.ireturn, 1) := by decide +kernel
theorem dOperators_shift_0 : decode bOperators_shift 0 = .ok (.aload_n 0, 1) := by decide +kernel
theorem dOperators_shift_1 : decode bOperators_shift 1 = .ok (.getfield 9, 3) := by decide +kernel
theorem dOperators_shift_4 : decode bOperators_shift 4 = .ok (.iload_n 2, 1) := by decide +kernel
theorem dOperators_shift_5 : decode bOperators_shift 5 = .ok (.invokevirtual 21, 3) := by decide +kernel
theorem dOperators_shift_8 : decode bOperators_shift 8 = .ok (.istore 4, 2) := by decide +kernel
theorem dOperators_shift_10 : decode bOperators_shift 10 = .ok (.iconst 0, 1) := by decide +kernel
theorem dOperators_shift_11 : decode bOperators_shift 11 = .ok (.istore 5, 2) := by decide +kernel
theorem dOperators_shift_13 : decode bOperators_shift 13 = .ok (.iload 5, 2) := by decide +kernel
theorem dOperators_shift_15 : decode bOperators_shift 15 = .ok (.iload 4, 2) := by decide +kernel
theorem dOperators_shift_17 : decode bOperators_shift 17 = .ok (.if_icmp .ge 64, 3) := by decide +kernel
theorem dOperators_shift_20 : decode bOperators_shift 20 = .ok (.iload 5, 2) := by decide +kernel
theorem dOperators_shift_22 : decode bOperators_shift 22 = .ok (.i2l, 1) := by decide +kernel
theorem dOperators_shift_23 : decode bOperators_shift 23 = .ok (.iload_n 3, 1) := by decide +kernel
theorem dOperators_shift_24 : decode bOperators_shift 24 = .ok (.i2l, 1) := by decide +kernel
theorem dOperators_shift_25 : decode bOperators_shift 25 = .ok (.lsub, 1) := by decide +kernel
theorem dOperators_shift_26 : decode bOperators_shift 26 = .ok (.lstore 6, 2) := by decide +kernel
theorem dOperators_shift_28 : decode bOperators_shift 28 = .ok (.aload_n 0, 1) := by decide +kernel
theorem dOperators_shift_29 : decode bOperators_shift 29 = .ok (.getfield 9, 3) := by decide +kernel
theorem dOperators_shift_32 : decode bOperators_shift 32 = .ok (.getfield 48, 3) := by decide +kernel
theorem dOperators_shift_35 : decode bOperators_shift 35 = .ok (.iload_n 1, 1) := by decide +kernel
theorem dOperators_shift_36 : decode bOperators_shift 36 = .ok (.iload 5, 2) := by decide +kernel
theorem dOperators_shift_38 : decode bOperators_shift 38 = .ok (.lload 6, 2) := by decide +kernel
theorem dOperators_shift_40 : decode bOperators_shift 40 = .ok (.lconst 0, 1) := by decide +kernel
theorem dOperators_shift_41 : decode bOperators_shift 41 = .ok (.lcmp, 1) := by decide +kernel
theorem dOperators_shift_42 : decode bOperators_shift 42 = .ok (.ifCond .lt 29, 3) := by decide +kernel
theorem dOperators_shift_45 : decode bOperators_shift 45 = .ok (.lload 6, 2) := by decide +kernel
theorem dOperators_shift_47 : decode bOperators_shift 47 = .ok (.iload 4, 2) := by decide +kernel
theorem dOperators_shift_49 : decode bOperators_shift 49 = .ok (.i2l, 1) := by decide +kernel
theorem dOperators_shift_50 : decode bOperators_shift 50 = .ok (.lcmp, 1) := by decide +kernel
theorem dOperators_shift_51 : decode bOperators_shift 51 = .ok (.ifCond .ge 20, 3) := by decide +kernel
theorem dOperators_shift_54 : decode bOperators_shift 54 = .ok (.aload_n 0, 1) := by decide +kernel
theorem dOperators_shift_55 : decode bOperators_shift 55 = .ok (.getfield 9, 3) := by decide +kernel
theorem dOperators_shift_58 : decode bOperators_shift 58 = .ok (.getfield 48, 3) := by decide +kernel
theorem dOperators_shift_61 : decode bOperators_shift 61 = .ok (.iload_n 2, 1) := by decide +kernel
theorem dOperators_shift_62 : decode bOperators_shift 62 = .ok (.lload 6, 2) := by decide +kernel
theorem dOperators_shift_64 : decode bOperators_shift 64 = .ok (.l2i, 1) := by decide +kernel
theorem dOperators_shift_65 : decode bOperators_shift 65 = .ok (.invokevirtual 52, 3) := by decide +kernel
theorem dOperators_shift_68 : decode bOperators_shift 68 = .ok (.goto 4, 3) := by decide +kernel
theorem dOperators_shift_71 : decode bOperators_shift 71 = .ok (.iconst 2, 1) := by decide +kernel
theorem dOperators_shift_72 : decode bOperators_shift 72 = .ok (.invokevirtual 58, 3) := by decide +kernel
theorem dOperators_shift_75 : decode bOperators_shift 75 = .ok (.iinc 5 1, 3) := by decide +kernel
theorem dOperators_shift_78 : decode bOperators_shift 78 = .ok (.goto (-65), 3) := by decide +kernel
theorem dOperators_shift_81 : decode bOperators_shift 81 = .ok (.return_, 1) := by decide +kernel
