theorem dModel_subtype_0 : decode bModel_subtype 0 = .ok (.aload_n 0, 1) := by decide +kernel
theorem dModel_subtype_1 : decode bModel_subtype 1 = .ok (.aload_n 0, 1) := by decide +kernel
theorem dModel_subtype_2 : decode bModel_subtype 2 = .ok (.iload_n 2, 1) := by decide +kernel
theorem dModel_subtype_3 : decode bModel_subtype 3 = .ok (.invokevirtual 288, 3) := by decide +kernel
theorem dModel_subtype_6 : decode bModel_subtype 6 = .ok (.ifCond .eq 7, 3) := by decide +kernel
theorem dModel_subtype_9 : decode bModel_subtype 9 = .ok (.iconst 1, 1) := by decide +kernel
theorem dModel_subtype_10 : decode bModel_subtype 10 = .ok (.goto 15, 3) := by decide +kernel
theorem dModel_subtype_13 : decode bModel_subtype 13 = .ok (.iload_n 1, 1) := by decide +kernel
theorem dModel_subtype_14 : decode bModel_subtype 14 = .ok (.invokestatic 111, 3) := by decide +kernel
theorem dModel_subtype_17 : decode bModel_subtype 17 = .ok (.ifCond .ne 7, 3) := by decide +kernel
theorem dModel_subtype_20 : decode bModel_subtype 20 = .ok (.iconst 2, 1) := by decide +kernel
theorem dModel_subtype_21 : decode bModel_subtype 21 = .ok (.goto 4, 3) := by decide +kernel
theorem dModel_subtype_24 : decode bModel_subtype 24 = .ok (.iconst 0, 1) := by decide +kernel
theorem dModel_subtype_25 : decode bModel_subtype 25 = .ok (.putfield 99, 3) := by decide +kernel
theorem dModel_subtype_28 : decode bModel_subtype 28 = .ok (.aload_n 0, 1) := by decide +kernel
theorem dModel_subtype_29 : decode bModel_subtype 29 = .ok (.getfield 99, 3) := by decide +kernel
theorem dModel_subtype_32 : decode bModel_subtype 32 = .ok (.ifCond .le 5, 3) := by decide +kernel
theorem dModel_subtype_35 : decode bModel_subtype 35 = .ok (.iconst 0, 1) := by decide +kernel
theorem dModel_subtype_36 : decode bModel_subtype 36 = .ok (.ireturn, 1) := by decide +kernel
theorem dModel_subtype_37 : decode bModel_subtype 37 = .ok (.aload_n 0, 1) := by decide +kernel
theorem dModel_subtype_38 : decode bModel_subtype 38 = .ok (.iload_n 1, 1) := by decide +kernel
theorem dModel_subtype_39 : decode bModel_subtype 39 = .ok (.invokevirtual 281, 3) := by decide +kernel
theorem dModel_subtype_42 : decode bModel_subtype 42 = .ok (.ifCond .eq 11, 3) := by decide +kernel
theorem dModel_subtype_45 : decode bModel_subtype 45 = .ok (.aload_n 0, 1) := by decide +kernel
theorem dModel_subtype_46 : decode bModel_subtype 46 = .ok (.iconst (-1), 1) := by decide +kernel
theorem dModel_subtype_47 : decode bModel_subtype 47 = .ok (.bipush 7, 2) := by decide +kernel
theorem dModel_subtype_49 : decode bModel_subtype 49 = .ok (.invokevirtual 272, 3) := by decide +kernel
theorem dModel_subtype_52 : decode bModel_subtype 52 = .ok (.ireturn, 1) := by decide +kernel
theorem dModel_subtype_53 : decode bModel_subtype 53 = .ok (.aload_n 0, 1) := by decide +kernel
theorem dModel_subtype_54 : decode bModel_subtype 54 = .ok (.aload_n 0, 1) := by decide +kernel
theorem dModel_subtype_55 : decode bModel_subtype 55 = .ok (.getfield 115, 3) := by decide +kernel
theorem dModel_subtype_58 : decode bModel_subtype 58 = .ok (.sipush 3000, 3) := by decide +kernel
theorem dModel_subtype_61 : decode bModel_subtype 61 = .ok (.if_icmp .ne 7, 3) := by decide +kernel
theorem dModel_subtype_64 : decode bModel_subtype 64 = .ok (.iconst 3, 1) := by decide +kernel
theorem dModel_subtype_65 : decode bModel_subtype 65 = .ok (.goto 4, 3) := by decide +kernel
theorem dModel_subtype_68 : decode bModel_subtype 68 = .ok (.iconst 0, 1) := by decide +kernel
theorem dModel_subtype_69 : decode bModel_subtype 69 = .ok (.putfield 99, 3) := by decide +kernel
theorem dModel_subtype_72 : decode bModel_subtype 72 = .ok (.aload_n 0, 1) := by decide +kernel
theorem dModel_subtype_73 : decode bModel_subtype 73 = .ok (.getfield 99, 3) := by decide +kernel
theorem dModel_subtype_76 : decode bModel_subtype 76 = .ok (.ifCond .le 5, 3) := by decide +kernel
theorem dModel_subtype_79 : decode bModel_subtype 79 = .ok (.iconst 0, 1) := by decide +kernel
theorem dModel_subtype_80 : decode bModel_subtype 80 = .ok (.ireturn, 1) := by decide +kernel
theorem dModel_subtype_81 : decode bModel_subtype 81 = .ok (.aload_n 0, 1) := by decide +kernel
theorem dModel_subtype_82 : decode bModel_subtype 82 = .ok (.iconst (-1), 1) := by decide +kernel
theorem dModel_subtype_83 : decode bModel_subtype 83 = .ok (.putfield 9, 3) := by decide +kernel
theorem dModel_subtype_86 : decode bModel_subtype 86 = .ok (.aload_n 0, 1) := by decide +kernel
theorem dModel_subtype_87 : decode bModel_subtype 87 = .ok (.iload_n 1, 1) := by decide +kernel
theorem dModel_subtype_88 : decode bModel_subtype 88 = .ok (.iconst 0, 1) := by decide +kernel
theorem dModel_subtype_89 : decode bModel_subtype 89 = .ok (.iload_n 2, 1) := by decide +kernel
theorem dModel_subtype_90 : decode bModel_subtype 90 = .ok (.iconst 0, 1) := by decide +kernel
theorem dModel_subtype_91 : decode bModel_subtype 91 = .ok (.invokevirtual 284, 3) := by decide +kernel
theorem dModel_subtype_94 : decode bModel_subtype 94 = .ok (.iconst 0, 1) := by decide +kernel
theorem dModel_subtype_95 : decode bModel_subtype 95 = .ok (.ireturn, 1) := by decide +kernel
theorem dModel_fits_0 : decode bModel_fits 0 = .ok (.aload_n 0, 1) := by decide +kernel
theorem dModel_fits_1 : decode bModel_fits 1 = .ok (.getfield 29, 3) := by decide +kernel
theorem dModel_fits_4 : decode bModel_fits 4 = .ok (.iload_n 1, 1) := by decide +kernel
theorem dModel_fits_5 : decode bModel_fits 5 = .ok (.iaload, 1) := by decide +kernel
theorem dModel_fits_6 : decode bModel_fits 6 = .ok (.aload_n 0, 1) := by decide +kernel
theorem dModel_fits_7 : decode bModel_fits 7 = .ok (.getfield 54, 3) := by decide +kernel
theorem dModel_fits_10 : decode bModel_fits 10 = .ok (.iload_n 2, 1) := by decide +kernel
theorem dModel_fits_11 : decode bModel_fits 11 = .ok (.iaload, 1) := by decide +kernel
theorem dModel_fits_12 : decode bModel_fits 12 = .ok (.if_icmp .ne 23, 3) := by decide +kernel
theorem dModel_fits_15 : decode bModel_fits 15 = .ok (.aload_n 0, 1) := by decide +kernel
theorem dModel_fits_16 : decode bModel_fits 16 = .ok (.getfield 29, 3) := by decide +kernel
theorem dModel_fits_19 : decode bModel_fits 19 = .ok (.iload_n 1, 1) := by decide +kernel
theorem dModel_fits_20 : decode bModel_fits 20 = .ok (.iaload, 1) := by decide +kernel
theorem dModel_fits_21 : decode bModel_fits 21 = .ok (.iconst 4, 1) := by decide +kernel
theorem dModel_fits_22 : decode bModel_fits 22 = .ok (.if_icmp .ne 15, 3) := by decide +kernel
theorem dModel_fits_25 : decode bModel_fits 25 = .ok (.aload_n 0, 1) := by decide +kernel
theorem dModel_fits_26 : decode bModel_fits 26 = .ok (.getfield 32, 3) := by decide +kernel
theorem dModel_fits_29 : decode bModel_fits 29 = .ok (.iload_n 1, 1) := by decide +kernel
theorem dModel_fits_30 : decode bModel_fits 30 = .ok (.iaload, 1) := by decide +kernel
theorem dModel_fits_31 : decode bModel_fits 31 = .ok (.iload_n 2, 1) := by decide +kernel
theorem dModel_fits_32 : decode bModel_fits 32 = .ok (.if_icmp .eq 5, 3) := by decide +kernel
theorem dModel_fits_35 : decode bModel_fits 35 = .ok (.iconst 3, 1) := by decide +kernel
theorem dModel_fits_36 : decode bModel_fits 36 = .ok (.ireturn, 1) := by decide +kernel
theorem dModel_fits_37 : decode bModel_fits 37 = .ok (.aload_n 0, 1) := by decide +kernel
theorem dModel_fits_38 : decode bModel_fits 38 = .ok (.getfield 29, 3) := by decide +kernel
theorem dModel_fits_41 : decode bModel_fits 41 = .ok (.iload_n 1, 1) := by decide +kernel
theorem dModel_fits_42 : decode bModel_fits 42 = .ok (.iaload, 1) := by decide +kernel
theorem dModel_fits_43 : decode bModel_fits 43 = .ok (.iconst 3, 1) := by decide +kernel
theorem dModel_fits_44 : decode bModel_fits 44 = .ok (.if_icmp .ne 20, 3) := by decide +kernel
theorem dModel_fits_47 : decode bModel_fits 47 = .ok (.aload_n 0, 1) := by decide +kernel
theorem dModel_fits_48 : decode bModel_fits 48 = .ok (.getfield 32, 3) := by decide +kernel
theorem dModel_fits_51 : decode bModel_fits 51 = .ok (.iload_n 1, 1) := by decide +kernel
theorem dModel_fits_52 : decode bModel_fits 52 = .ok (.iaload, 1) := by decide +kernel
theorem dModel_fits_53 : decode bModel_fits 53 = .ok (.aload_n 0, 1) := by decide +kernel
theorem dModel_fits_54 : decode bModel_fits 54 = .ok (.getfield 63, 3) := by decide +kernel
theorem dModel_fits_57 : decode bModel_fits 57 = .ok (.iload_n 2, 1) := by decide +kernel
theorem dModel_fits_58 : decode bModel_fits 58 = .ok (.iaload, 1) := by decide +kernel
theorem dModel_fits_59 : decode bModel_fits 59 = .ok (.if_icmp .eq 5, 3) := by decide +kernel
theorem dModel_fits_62 : decode bModel_fits 62 = .ok (.iconst 4, 1) := by decide +kernel
theorem dModel_fits_63 : decode bModel_fits 63 = .ok (.ireturn, 1) := by decide +kernel
theorem dModel_fits_64 : decode bModel_fits 64 = .ok (.aload_n 0, 1) := by decide +kernel
theorem dModel_fits_65 : decode bModel_fits 65 = .ok (.getfield 29, 3) := by decide +kernel
theorem dModel_fits_68 : decode bModel_fits 68 = .ok (.iload_n 1, 1) := by decide +kernel
theorem dModel_fits_69 : decode bModel_fits 69 = .ok (.iaload, 1) := by decide +kernel
theorem dModel_fits_70 : decode bModel_fits 70 = .ok (.iconst 2, 1) := by decide +kernel
theorem dModel_fits_71 : decode bModel_fits 71 = .ok (.if_icmp .ne 51, 3) := by decide +kernel
theorem dModel_fits_74 : decode bModel_fits 74 = .ok (.aload_n 0, 1) := by decide +kernel
theorem dModel_fits_75 : decode bModel_fits 75 = .ok (.getfield 35, 3) := by decide +kernel
theorem dModel_fits_78 : decode bModel_fits 78 = .ok (.iload_n 1, 1) := by decide +kernel
theorem dModel_fits_79 : decode bModel_fits 79 = .ok (.baload, 1) := by decide +kernel
theorem dModel_fits_80 : decode bModel_fits 80 = .ok (.ifCond .eq 42, 3) := by decide +kernel
theorem dModel_fits_83 : decode bModel_fits 83 = .ok (.aload_n 0, 1) := by decide +kernel
theorem dModel_fits_84 : decode bModel_fits 84 = .ok (.getfield 42, 3) := by decide +kernel
theorem dModel_fits_87 : decode bModel_fits 87 = .ok (.iload_n 1, 1) := by decide +kernel
theorem dModel_fits_88 : decode bModel_fits 88 = .ok (.laload, 1) := by decide +kernel
theorem dModel_fits_89 : decode bModel_fits 89 = .ok (.aload_n 0, 1) := by decide +kernel
theorem dModel_fits_90 : decode bModel_fits 90 = .ok (.getfield 57, 3) := by decide +kernel
theorem dModel_fits_93 : decode bModel_fits 93 = .ok (.iload_n 2, 1) := by decide +kernel
theorem dModel_fits_94 : decode bModel_fits 94 = .ok (.iaload, 1) := by decide +kernel
theorem dModel_fits_95 : decode bModel_fits 95 = .ok (.i2l, 1) := by decide +kernel
theorem dModel_fits_96 : decode bModel_fits 96 = .ok (.lcmp, 1) := by decide +kernel
theorem dModel_fits_97 : decode bModel_fits 97 = .ok (.ifCond .lt 20, 3) := by decide +kernel
theorem dModel_fits_100 : decode bModel_fits 100 = .ok (.aload_n 0, 1) := by decide +kernel
theorem dModel_fits_101 : decode bModel_fits 101 = .ok (.getfield 42, 3) := by decide +kernel
theorem dModel_fits_104 : decode bModel_fits 104 = .ok (.iload_n 1, 1) := by decide +kernel
theorem dModel_fits_105 : decode bModel_fits 105 = .ok (.laload, 1) := by decide +kernel
theorem dModel_fits_106 : decode bModel_fits 106 = .ok (.aload_n 0, 1) := by decide +kernel
theorem dModel_fits_107 : decode bModel_fits 107 = .ok (.getfield 60, 3) := by decide +kernel
theorem dModel_fits_110 : decode bModel_fits 110 = .ok (.iload_n 2, 1) := by decide +kernel
theorem dModel_fits_111 : decode bModel_fits 111 = .ok (.iaload, 1) := by decide +kernel
theorem dModel_fits_112 : decode bModel_fits 112 = .ok (.i2l, 1) := by decide +kernel
theorem dModel_fits_113 : decode bModel_fits 113 = .ok (.lcmp, 1) := by decide +kernel
theorem dModel_fits_114 : decode bModel_fits 114 = .ok (.ifCond .le 8, 3) := by decide +kernel
theorem dModel_fits_117 : decode bModel_fits 117 = .ok (.bipush 8, 2) := by decide +kernel
theorem dModel_fits_119 : decode bModel_fits 119 = .ok (.goto 4, 3) := by decide +kernel
theorem dModel_fits_122 : decode bModel_fits 122 = .ok (.iconst 0, 1) := by decide +kernel
theorem dModel_fits_123 : decode bModel_fits 123 = .ok (.ireturn, 1) := by decide +kernel
theorem dModel_declare_0 : decode bModel_declare 0 = .ok (.aload_n 0, 1) := by decide +kernel
theorem dModel_declare_1 : decode bModel_declare 1 = .ok (.aload_n 0, 1) := by decide +kernel
theorem dModel_declare_2 : decode bModel_declare 2 = .ok (.iload_n 3, 1) := by decide +kernel
theorem dModel_declare_3 : decode bModel_declare 3 = .ok (.invokevirtual 288, 3) := by decide +kernel
theorem dModel_declare_6 : decode bModel_declare 6 = .ok (.ifCond .ne 16, 3) := by decide +kernel
theorem dModel_declare_9 : decode bModel_declare 9 = .ok (.iload_n 1, 1) := by decide +kernel
theorem dModel_declare_10 : decode bModel_declare 10 = .ok (.ifCond .ne 16, 3) := by decide +kernel
theorem dModel_declare_13 : decode bModel_declare 13 = .ok (.aload_n 0, 1) := by decide +kernel
theorem dModel_declare_14 : decode bModel_declare 14 = .ok (.iload 4, 2) := by decide +kernel
theorem dModel_declare_16 : decode bModel_declare 16 = .ok (.invokevirtual 266, 3) := by decide +kernel
theorem dModel_declare_19 : decode bModel_declare 19 = .ok (.ifCond .eq 7, 3) := by decide +kernel
theorem dModel_declare_22 : decode bModel_declare 22 = .ok (.iconst 1, 1) := by decide +kernel
theorem dModel_declare_23 : decode bModel_declare 23 = .ok (.goto 24, 3) := by decide +kernel
theorem dModel_declare_26 : decode bModel_declare 26 = .ok (.iload_n 1, 1) := by decide +kernel
theorem dModel_declare_27 : decode bModel_declare 27 = .ok (.ifCond .lt 15, 3) := by decide +kernel
theorem dModel_declare_30 : decode bModel_declare 30 = .ok (.iload_n 1, 1) := by decide +kernel
theorem dModel_declare_31 : decode bModel_declare 31 = .ok (.iconst 2, 1) := by decide +kernel
theorem dModel_declare_32 : decode bModel_declare 32 = .ok (.if_icmp .gt 10, 3) := by decide +kernel
theorem dModel_declare_35 : decode bModel_declare 35 = .ok (.iload_n 2, 1) := by decide +kernel
theorem dModel_declare_36 : decode bModel_declare 36 = .ok (.invokestatic 111, 3) := by decide +kernel
theorem dModel_declare_39 : decode bModel_declare 39 = .ok (.ifCond .ne 7, 3) := by decide +kernel
theorem dModel_declare_42 : decode bModel_declare 42 = .ok (.iconst 2, 1) := by decide +kernel
theorem dModel_declare_43 : decode bModel_declare 43 = .ok (.goto 4, 3) := by decide +kernel
theorem dModel_declare_46 : decode bModel_declare 46 = .ok (.iconst 0, 1) := by decide +kernel
theorem dModel_declare_47 : decode bModel_declare 47 = .ok (.putfield 99, 3) := by decide +kernel
theorem dModel_declare_50 : decode bModel_declare 50 = .ok (.aload_n 0, 1) := by decide +kernel
theorem dModel_declare_51 : decode bModel_declare 51 = .ok (.getfield 99, 3) := by decide +kernel
theorem dModel_declare_54 : decode bModel_declare 54 = .ok (.ifCond .le 5, 3) := by decide +kernel
theorem dModel_declare_57 : decode bModel_declare 57 = .ok (.iconst 0, 1) := by decide +kernel
theorem dModel_declare_58 : decode bModel_declare 58 = .ok (.ireturn, 1) := by decide +kernel
theorem dModel_declare_59 : decode bModel_declare 59 = .ok (.aload_n 0, 1) := by decide +kernel
theorem dModel_declare_60 : decode bModel_declare 60 = .ok (.getfield 9, 3) := by decide +kernel
theorem dModel_declare_63 : decode bModel_declare 63 = .ok (.istore 5, 2) := by decide +kernel
theorem dModel_declare_65 : decode bModel_declare 65 = .ok (.iload_n 1, 1) := by decide +kernel
theorem dModel_declare_66 : decode bModel_declare 66 = .ok (.ifCond .ne 75, 3) := by decide +kernel
theorem dModel_declare_69 : decode bModel_declare 69 = .ok (.aload_n 0, 1) := by decide +kernel
theorem dModel_declare_70 : decode bModel_declare 70 = .ok (.aload_n 0, 1) := by decide +kernel
theorem dModel_declare_71 : decode bModel_declare 71 = .ok (.getfield 23, 3) := by decide +kernel
theorem dModel_declare_74 : decode bModel_declare 74 = .ok (.iload 4, 2) := by decide +kernel
theorem dModel_declare_76 : decode bModel_declare 76 = .ok (.iaload, 1) := by decide +kernel
theorem dModel_declare_77 : decode bModel_declare 77 = .ok (.iload 4, 2) := by decide +kernel
theorem dModel_declare_79 : decode bModel_declare 79 = .ok (.invokevirtual 269, 3) := by decide +kernel
theorem dModel_declare_82 : decode bModel_declare 82 = .ok (.istore 6, 2) := by decide +kernel
theorem dModel_declare_84 : decode bModel_declare 84 = .ok (.iload 6, 2) := by decide +kernel
theorem dModel_declare_86 : decode bModel_declare 86 = .ok (.ifCond .le 7, 3) := by decide +kernel
theorem dModel_declare_89 : decode bModel_declare 89 = .ok (.iload 6, 2) := by decide +kernel
theorem dModel_declare_91 : decode bModel_declare 91 = .ok (.ineg, 1) := by decide +kernel
theorem dModel_declare_92 : decode bModel_declare 92 = .ok (.ireturn, 1) := by decide +kernel
theorem dModel_declare_93 : decode bModel_declare 93 = .ok (.aload_n 0, 1) := by decide +kernel
theorem dModel_declare_94 : decode bModel_declare 94 = .ok (.iload 4, 2) := by decide +kernel
theorem dModel_declare_96 : decode bModel_declare 96 = .ok (.iload_n 3, 1) := by decide +kernel
theorem dModel_declare_97 : decode bModel_declare 97 = .ok (.invokevirtual 291, 3) := by decide +kernel
theorem dModel_declare_100 : decode bModel_declare 100 = .ok (.istore 6, 2) := by decide +kernel
theorem dModel_declare_102 : decode bModel_declare 102 = .ok (.iload 6, 2) := by decide +kernel
theorem dModel_declare_104 : decode bModel_declare 104 = .ok (.iconst 3, 1) := by decide +kernel
theorem dModel_declare_105 : decode bModel_declare 105 = .ok (.if_icmp .eq 22, 3) := by decide +kernel
theorem dModel_declare_108 : decode bModel_declare 108 = .ok (.iload 6, 2) := by decide +kernel
theorem dModel_declare_110 : decode bModel_declare 110 = .ok (.iconst 4, 1) := by decide +kernel
theorem dModel_declare_111 : decode bModel_declare 111 = .ok (.if_icmp .eq 16, 3) := by decide +kernel
theorem dModel_declare_114 : decode bModel_declare 114 = .ok (.aload_n 0, 1) := by decide +kernel
theorem dModel_declare_115 : decode bModel_declare 115 = .ok (.getfield 35, 3) := by decide +kernel
theorem dModel_declare_118 : decode bModel_declare 118 = .ok (.iload 4, 2) := by decide +kernel
theorem dModel_declare_120 : decode bModel_declare 120 = .ok (.baload, 1) := by decide +kernel
theorem dModel_declare_121 : decode bModel_declare 121 = .ok (.ifCond .ne 6, 3) := by decide +kernel
theorem dModel_declare_124 : decode bModel_declare 124 = .ok (.iconst 5, 1) := by decide +kernel
theorem dModel_declare_125 : decode bModel_declare 125 = .ok (.istore 6, 2) := by decide +kernel
theorem dModel_declare_127 : decode bModel_declare 127 = .ok (.iload 6, 2) := by decide +kernel
theorem dModel_declare_129 : decode bModel_declare 129 = .ok (.ifCond .le 12, 3) := by decide +kernel
theorem dModel_declare_132 : decode bModel_declare 132 = .ok (.aload_n 0, 1) := by decide +kernel
theorem dModel_declare_133 : decode bModel_declare 133 = .ok (.iload 4, 2) := by decide +kernel
theorem dModel_declare_135 : decode bModel_declare 135 = .ok (.iload 6, 2) := by decide +kernel
theorem dModel_declare_137 : decode bModel_declare 137 = .ok (.invokevirtual 272, 3) := by decide +kernel
theorem dModel_declare_140 : decode bModel_declare 140 = .ok (.ireturn, 1) := by decide +kernel
theorem dModel_declare_141 : decode bModel_declare 141 = .ok (.aload_n 0, 1) := by decide +kernel
theorem dModel_declare_142 : decode bModel_declare 142 = .ok (.iload_n 2, 1) := by decide +kernel
theorem dModel_declare_143 : decode bModel_declare 143 = .ok (.invokevirtual 281, 3) := by decide +kernel
theorem dModel_declare_146 : decode bModel_declare 146 = .ok (.ifCond .eq 11, 3) := by decide +kernel
theorem dModel_declare_149 : decode bModel_declare 149 = .ok (.aload_n 0, 1) := by decide +kernel
theorem dModel_declare_150 : decode bModel_declare 150 = .ok (.iconst (-1), 1) := by decide +kernel
theorem dModel_declare_151 : decode bModel_declare 151 = .ok (.bipush 7, 2) := by decide +kernel
theorem dModel_declare_153 : decode bModel_declare 153 = .ok (.invokevirtual 272, 3) := by decide +kernel
theorem dModel_declare_156 : decode bModel_declare 156 = .ok (.ireturn, 1) := by decide +kernel
theorem dModel_declare_157 : decode bModel_declare 157 = .ok (.aload_n 0, 1) := by decide +kernel
theorem dModel_declare_158 : decode bModel_declare 158 = .ok (.getfield 294, 3) := by decide +kernel
theorem dModel_declare_161 : decode bModel_declare 161 = .ok (.sipush 2000, 3) := by decide +kernel
theorem dModel_declare_164 : decode bModel_declare 164 = .ok (.if_icmp .eq 13, 3) := by decide +kernel
theorem dModel_declare_167 : decode bModel_declare 167 = .ok (.aload_n 0, 1) := by decide +kernel
theorem dModel_declare_168 : decode bModel_declare 168 = .ok (.getfield 115, 3) := by decide +kernel
theorem dModel_declare_171 : decode bModel_declare 171 = .ok (.sipush 3000, 3) := by decide +kernel
theorem dModel_declare_174 : decode bModel_declare 174 = .ok (.if_icmp .ne 16, 3) := by decide +kernel
theorem dModel_declare_177 : decode bModel_declare 177 = .ok (.aload_n 0, 1) := by decide +kernel
theorem dModel_declare_178 : decode bModel_declare 178 = .ok (.iconst 3, 1) := by decide +kernel
theorem dModel_declare_179 : decode bModel_declare 179 = .ok (.putfield 99, 3) := by decide +kernel
theorem dModel_declare_182 : decode bModel_declare 182 = .ok (.aload_n 0, 1) := by decide +kernel
theorem dModel_declare_183 : decode bModel_declare 183 = .ok (.iload 5, 2) := by decide +kernel
theorem dModel_declare_185 : decode bModel_declare 185 = .ok (.putfield 9, 3) := by decide +kernel
theorem dModel_declare_188 : decode bModel_declare 188 = .ok (.iconst 0, 1) := by decide +kernel
theorem dModel_declare_189 : decode bModel_declare 189 = .ok (.ireturn, 1) := by decide +kernel
theorem dModel_declare_190 : decode bModel_declare 190 = .ok (.aload_n 0, 1) := by decide +kernel
theorem dModel_declare_191 : decode bModel_declare 191 = .ok (.iconst (-1), 1) := by decide +kernel
theorem dModel_declare_192 : decode bModel_declare 192 = .ok (.putfield 9, 3) := by decide +kernel
theorem dModel_declare_195 : decode bModel_declare 195 = .ok (.aload_n 0, 1) := by decide +kernel
theorem dModel_declare_196 : decode bModel_declare 196 = .ok (.getfield 69, 3) := by decide +kernel
theorem dModel_declare_199 : decode bModel_declare 199 = .ok (.aload_n 0, 1) := by decide +kernel
theorem dModel_declare_200 : decode bModel_declare 200 = .ok (.getfield 294, 3) := by decide +kernel
theorem dModel_declare_203 : decode bModel_declare 203 = .ok (.iload_n 1, 1) := by decide +kernel
theorem dModel_declare_204 : decode bModel_declare 204 = .ok (.iastore, 1) := by decide +kernel
theorem dModel_declare_205 : decode bModel_declare 205 = .ok (.aload_n 0, 1) := by decide +kernel
theorem dModel_declare_206 : decode bModel_declare 206 = .ok (.getfield 72, 3) := by decide +kernel
theorem dModel_declare_209 : decode bModel_declare 209 = .ok (.aload_n 0, 1) := by decide +kernel
theorem dModel_declare_210 : decode bModel_declare 210 = .ok (.getfield 294, 3) := by decide +kernel
theorem dModel_declare_213 : decode bModel_declare 213 = .ok (.iload_n 3, 1) := by decide +kernel
theorem dModel_declare_214 : decode bModel_declare 214 = .ok (.iastore, 1) := by decide +kernel
theorem dModel_declare_215 : decode bModel_declare 215 = .ok (.iload_n 1, 1) := by decide +kernel
theorem dModel_declare_216 : decode bModel_declare 216 = .ok (.ifCond .ne 30, 3) := by decide +kernel
theorem dModel_declare_219 : decode bModel_declare 219 = .ok (.aload_n 0, 1) := by decide +kernel
theorem dModel_declare_220 : decode bModel_declare 220 = .ok (.iload 4, 2) := by decide +kernel
theorem dModel_declare_222 : decode bModel_declare 222 = .ok (.sipush 8000, 3) := by decide +kernel
theorem dModel_declare_225 : decode bModel_declare 225 = .ok (.aload_n 0, 1) := by decide +kernel
theorem dModel_declare_226 : decode bModel_declare 226 = .ok (.getfield 294, 3) := by decide +kernel
theorem dModel_declare_229 : decode bModel_declare 229 = .ok (.iadd, 1) := by decide +kernel
theorem dModel_declare_230 : decode bModel_declare 230 = .ok (.invokevirtual 177, 3) := by decide +kernel
theorem dModel_declare_233 : decode bModel_declare 233 = .ok (.aload_n 0, 1) := by decide +kernel
theorem dModel_declare_234 : decode bModel_declare 234 = .ok (.aload_n 0, 1) := by decide +kernel
theorem dModel_declare_235 : decode bModel_declare 235 = .ok (.getfield 23, 3) := by decide +kernel
theorem dModel_declare_238 : decode bModel_declare 238 = .ok (.iload 4, 2) := by decide +kernel
theorem dModel_declare_240 : decode bModel_declare 240 = .ok (.iaload, 1) := by decide +kernel
theorem dModel_declare_241 : decode bModel_declare 241 = .ok (.iload 4, 2) := by decide +kernel
theorem dModel_declare_243 : decode bModel_declare 243 = .ok (.invokevirtual 278, 3) := by decide +kernel
theorem dModel_declare_246 : decode bModel_declare 246 = .ok (.aload_n 0, 1) := by decide +kernel
theorem dModel_declare_247 : decode bModel_declare 247 = .ok (.iload_n 2, 1) := by decide +kernel
theorem dModel_declare_248 : decode bModel_declare 248 = .ok (.iconst 1, 1) := by decide +kernel
theorem dModel_declare_249 : decode bModel_declare 249 = .ok (.aload_n 0, 1) := by decide +kernel
theorem dModel_declare_250 : decode bModel_declare 250 = .ok (.getfield 294, 3) := by decide +kernel
theorem dModel_declare_253 : decode bModel_declare 253 = .ok (.iconst 0, 1) := by decide +kernel
theorem dModel_declare_254 : decode bModel_declare 254 = .ok (.invokevirtual 284, 3) := by decide +kernel
theorem dModel_declare_257 : decode bModel_declare 257 = .ok (.aload_n 0, 1) := by decide +kernel
theorem dModel_declare_258 : decode bModel_declare 258 = .ok (.dup, 1) := by decide +kernel
theorem dModel_declare_259 : decode bModel_declare 259 = .ok (.getfield 294, 3) := by decide +kernel
theorem dModel_declare_262 : decode bModel_declare 262 = .ok (.iconst 1, 1) := by decide +kernel
theorem dModel_declare_263 : decode bModel_declare 263 = .ok (.iadd, 1) := by decide +kernel
theorem dModel_declare_264 : decode bModel_declare 264 = .ok (.putfield 294, 3) := by decide +kernel
theorem dModel_declare_267 : decode bModel_declare 267 = .ok (.aload_n 0, 1) := by decide +kernel
theorem dModel_declare_268 : decode bModel_declare 268 = .ok (.getfield 294, 3) := by decide +kernel
theorem dModel_declare_271 : decode bModel_declare 271 = .ok (.iconst 1, 1) := by decide +kernel
theorem dModel_declare_272 : decode bModel_declare 272 = .ok (.isub, 1) := by decide +kernel
theorem dModel_declare_273 : decode bModel_declare 273 = .ok (.ireturn, 1) := by decide +kernel
theorem dModel_check_0 : decode bModel_check 0 = .ok (.aload_n 0, 1) := by decide +kernel
theorem dModel_check_1 : decode bModel_check 1 = .ok (.aload_n 0, 1) := by decide +kernel
theorem dModel_check_2 : decode bModel_check 2 = .ok (.iload_n 1, 1) := by decide +kernel
theorem dModel_check_3 : decode bModel_check 3 = .ok (.invokevirtual 266, 3) := by decide +kernel
theorem dModel_check_6 : decode bModel_check 6 = .ok (.ifCond .ne 16, 3) := by decide +kernel
theorem dModel_check_9 : decode bModel_check 9 = .ok (.iload_n 2, 1) := by decide +kernel
theorem dModel_check_10 : decode bModel_check 10 = .ok (.iconst (-1), 1) := by decide +kernel
theorem dModel_check_11 : decode bModel_check 11 = .ok (.if_icmp .eq 15, 3) := by decide +kernel
theorem dModel_check_14 : decode bModel_check 14 = .ok (.aload_n 0, 1) := by decide +kernel
theorem dModel_check_15 : decode bModel_check 15 = .ok (.iload_n 2, 1) := by decide +kernel
theorem dModel_check_16 : decode bModel_check 16 = .ok (.invokevirtual 288, 3) := by decide +kernel
theorem dModel_check_19 : decode bModel_check 19 = .ok (.ifCond .eq 7, 3) := by decide +kernel
theorem dModel_check_22 : decode bModel_check 22 = .ok (.iconst 1, 1) := by decide +kernel
theorem dModel_check_23 : decode bModel_check 23 = .ok (.goto 4, 3) := by decide +kernel
theorem dModel_check_26 : decode bModel_check 26 = .ok (.iconst 0, 1) := by decide +kernel
theorem dModel_check_27 : decode bModel_check 27 = .ok (.putfield 99, 3) := by decide +kernel
theorem dModel_check_30 : decode bModel_check 30 = .ok (.aload_n 0, 1) := by decide +kernel
theorem dModel_check_31 : decode bModel_check 31 = .ok (.getfield 99, 3) := by decide +kernel
theorem dModel_check_34 : decode bModel_check 34 = .ok (.ifCond .le 5, 3) := by decide +kernel
theorem dModel_check_37 : decode bModel_check 37 = .ok (.iconst 0, 1) := by decide +kernel
theorem dModel_check_38 : decode bModel_check 38 = .ok (.ireturn, 1) := by decide +kernel
theorem dModel_check_39 : decode bModel_check 39 = .ok (.aload_n 0, 1) := by decide +kernel
theorem dModel_check_40 : decode bModel_check 40 = .ok (.aload_n 0, 1) := by decide +kernel
theorem dModel_check_41 : decode bModel_check 41 = .ok (.getfield 23, 3) := by decide +kernel
theorem dModel_check_44 : decode bModel_check 44 = .ok (.iload_n 1, 1) := by decide +kernel
theorem dModel_check_45 : decode bModel_check 45 = .ok (.iaload, 1) := by decide +kernel
theorem dModel_check_46 : decode bModel_check 46 = .ok (.iload_n 1, 1) := by decide +kernel
theorem dModel_check_47 : decode bModel_check 47 = .ok (.invokevirtual 269, 3) := by decide +kernel
theorem dModel_check_50 : decode bModel_check 50 = .ok (.istore_n 3, 1) := by decide +kernel
theorem dModel_check_51 : decode bModel_check 51 = .ok (.iload_n 3, 1) := by decide +kernel
theorem dModel_check_52 : decode bModel_check 52 = .ok (.ifCond .le 6, 3) := by decide +kernel
theorem dModel_check_55 : decode bModel_check 55 = .ok (.iload_n 3, 1) := by decide +kernel
theorem dModel_check_56 : decode bModel_check 56 = .ok (.ineg, 1) := by decide +kernel
theorem dModel_check_57 : decode bModel_check 57 = .ok (.ireturn, 1) := by decide +kernel
theorem dModel_check_58 : decode bModel_check 58 = .ok (.iload_n 2, 1) := by decide +kernel
theorem dModel_check_59 : decode bModel_check 59 = .ok (.iconst (-1), 1) := by decide +kernel
theorem dModel_check_60 : decode bModel_check 60 = .ok (.if_icmp .ne 7, 3) := by decide +kernel
theorem dModel_check_63 : decode bModel_check 63 = .ok (.iconst 0, 1) := by decide +kernel
theorem dModel_check_64 : decode bModel_check 64 = .ok (.goto 9, 3) := by decide +kernel
theorem dModel_check_67 : decode bModel_check 67 = .ok (.aload_n 0, 1) := by decide +kernel
theorem dModel_check_68 : decode bModel_check 68 = .ok (.iload_n 1, 1) := by decide +kernel
theorem dModel_check_69 : decode bModel_check 69 = .ok (.iload_n 2, 1) := by decide +kernel
theorem dModel_check_70 : decode bModel_check 70 = .ok (.invokevirtual 291, 3) := by decide +kernel
theorem dModel_check_73 : decode bModel_check 73 = .ok (.istore_n 3, 1) := by decide +kernel
theorem dModel_check_74 : decode bModel_check 74 = .ok (.iload_n 3, 1) := by decide +kernel
theorem dModel_check_75 : decode bModel_check 75 = .ok (.ifCond .le 10, 3) := by decide +kernel
theorem dModel_check_78 : decode bModel_check 78 = .ok (.aload_n 0, 1) := by decide +kernel
theorem dModel_check_79 : decode bModel_check 79 = .ok (.iload_n 1, 1) := by decide +kernel
theorem dModel_check_80 : decode bModel_check 80 = .ok (.iload_n 3, 1) := by decide +kernel
theorem dModel_check_81 : decode bModel_check 81 = .ok (.invokevirtual 272, 3) := by decide +kernel
theorem dModel_check_84 : decode bModel_check 84 = .ok (.ireturn, 1) := by decide +kernel
theorem dModel_check_85 : decode bModel_check 85 = .ok (.aload_n 0, 1) := by decide +kernel
theorem dModel_check_86 : decode bModel_check 86 = .ok (.aload_n 0, 1) := by decide +kernel
theorem dModel_check_87 : decode bModel_check 87 = .ok (.getfield 23, 3) := by decide +kernel
theorem dModel_check_90 : decode bModel_check 90 = .ok (.iload_n 1, 1) := by decide +kernel
theorem dModel_check_91 : decode bModel_check 91 = .ok (.iaload, 1) := by decide +kernel
theorem dModel_check_92 : decode bModel_check 92 = .ok (.iload_n 1, 1) := by decide +kernel
theorem dModel_check_93 : decode bModel_check 93 = .ok (.invokevirtual 278, 3) := by decide +kernel
theorem dModel_check_96 : decode bModel_check 96 = .ok (.iconst 0, 1) := by decide +kernel
theorem dModel_check_97 : decode bModel_check 97 = .ok (.ireturn, 1) := by decide +kernel
theorem dModel_place_0 : decode bModel_place 0 = .ok (.aload_n 0, 1) := by decide +kernel
theorem dModel_place_1 : decode bModel_place 1 = .ok (.iconst 0, 1) := by decide +kernel
theorem dModel_place_2 : decode bModel_place 2 = .ok (.putfield 99, 3) := by decide +kernel
theorem dModel_place_5 : decode bModel_place 5 = .ok (.aload_n 0, 1) := by decide +kernel
theorem dModel_place_6 : decode bModel_place 6 = .ok (.getfield 9, 3) := by decide +kernel
theorem dModel_place_9 : decode bModel_place 9 = .ok (.ireturn, 1) := by decide +kernel
theorem dModel_typeOf_0 : decode bModel_typeOf 0 = .ok (.aload_n 0, 1) := by decide +kernel
theorem dModel_typeOf_1 : decode bModel_typeOf 1 = .ok (.aload_n 0, 1) := by decide +kernel
theorem dModel_typeOf_2 : decode bModel_typeOf 2 = .ok (.iload_n 1, 1) := by decide +kernel
theorem dModel_typeOf_3 : decode bModel_typeOf 3 = .ok (.invokevirtual 288, 3) := by decide +kernel
theorem dModel_typeOf_6 : decode bModel_typeOf 6 = .ok (.ifCond .ne 12, 3) := by decide +kernel
theorem dModel_typeOf_9 : decode bModel_typeOf 9 = .ok (.iload_n 2, 1) := by decide +kernel
theorem dModel_typeOf_10 : decode bModel_typeOf 10 = .ok (.ifCond .lt 8, 3) := by decide +kernel
theorem dModel_typeOf_13 : decode bModel_typeOf 13 = .ok (.iload_n 2, 1) := by decide +kernel
theorem dModel_typeOf_14 : decode bModel_typeOf 14 = .ok (.iconst 4, 1) := by decide +kernel
theorem dModel_typeOf_15 : decode bModel_typeOf 15 = .ok (.if_icmp .le 7, 3) := by decide +kernel
theorem dModel_typeOf_18 : decode bModel_typeOf 18 = .ok (.iconst 1, 1) := by decide +kernel
theorem dModel_typeOf_19 : decode bModel_typeOf 19 = .ok (.goto 4, 3) := by decide +kernel
theorem dModel_typeOf_22 : decode bModel_typeOf 22 = .ok (.iconst 0, 1) := by decide +kernel
theorem dModel_typeOf_23 : decode bModel_typeOf 23 = .ok (.putfield 99, 3) := by decide +kernel
theorem dModel_typeOf_26 : decode bModel_typeOf 26 = .ok (.aload_n 0, 1) := by decide +kernel
theorem dModel_typeOf_27 : decode bModel_typeOf 27 = .ok (.getfield 99, 3) := by decide +kernel
theorem dModel_typeOf_30 : decode bModel_typeOf 30 = .ok (.ifCond .le 5, 3) := by decide +kernel
theorem dModel_typeOf_33 : decode bModel_typeOf 33 = .ok (.iconst 0, 1) := by decide +kernel
theorem dModel_typeOf_34 : decode bModel_typeOf 34 = .ok (.ireturn, 1) := by decide +kernel
theorem dModel_typeOf_35 : decode bModel_typeOf 35 = .ok (.iload_n 2, 1) := by decide +kernel
theorem dModel_typeOf_36 : decode bModel_typeOf 36 = .ok (.ifCond .ne 12, 3) := by decide +kernel
theorem dModel_typeOf_39 : decode bModel_typeOf 39 = .ok (.aload_n 0, 1) := by decide +kernel
theorem dModel_typeOf_40 : decode bModel_typeOf 40 = .ok (.getfield 54, 3) := by decide +kernel
theorem dModel_typeOf_43 : decode bModel_typeOf 43 = .ok (.iload_n 1, 1) := by decide +kernel
theorem dModel_typeOf_44 : decode bModel_typeOf 44 = .ok (.iaload, 1) := by decide +kernel
theorem dModel_typeOf_45 : decode bModel_typeOf 45 = .ok (.goto 59, 3) := by decide +kernel
theorem dModel_typeOf_48 : decode bModel_typeOf 48 = .ok (.iload_n 2, 1) := by decide +kernel
theorem dModel_typeOf_49 : decode bModel_typeOf 49 = .ok (.iconst 1, 1) := by decide +kernel
theorem dModel_typeOf_50 : decode bModel_typeOf 50 = .ok (.if_icmp .ne 12, 3) := by decide +kernel
theorem dModel_typeOf_53 : decode bModel_typeOf 53 = .ok (.aload_n 0, 1) := by decide +kernel
theorem dModel_typeOf_54 : decode bModel_typeOf 54 = .ok (.getfield 57, 3) := by decide +kernel
theorem dModel_typeOf_57 : decode bModel_typeOf 57 = .ok (.iload_n 1, 1) := by decide +kernel
theorem dModel_typeOf_58 : decode bModel_typeOf 58 = .ok (.iaload, 1) := by decide +kernel
theorem dModel_typeOf_59 : decode bModel_typeOf 59 = .ok (.goto 45, 3) := by decide +kernel
theorem dModel_typeOf_62 : decode bModel_typeOf 62 = .ok (.iload_n 2, 1) := by decide +kernel
theorem dModel_typeOf_63 : decode bModel_typeOf 63 = .ok (.iconst 2, 1) := by decide +kernel
theorem dModel_typeOf_64 : decode bModel_typeOf 64 = .ok (.if_icmp .ne 12, 3) := by decide +kernel
theorem dModel_typeOf_67 : decode bModel_typeOf 67 = .ok (.aload_n 0, 1) := by decide +kernel
theorem dModel_typeOf_68 : decode bModel_typeOf 68 = .ok (.getfield 60, 3) := by decide +kernel
theorem dModel_typeOf_71 : decode bModel_typeOf 71 = .ok (.iload_n 1, 1) := by decide +kernel
theorem dModel_typeOf_72 : decode bModel_typeOf 72 = .ok (.iaload, 1) := by decide +kernel
theorem dModel_typeOf_73 : decode bModel_typeOf 73 = .ok (.goto 31, 3) := by decide +kernel
theorem dModel_typeOf_76 : decode bModel_typeOf 76 = .ok (.iload_n 2, 1) := by decide +kernel
theorem dModel_typeOf_77 : decode bModel_typeOf 77 = .ok (.iconst 3, 1) := by decide +kernel
theorem dModel_typeOf_78 : decode bModel_typeOf 78 = .ok (.if_icmp .ne 12, 3) := by decide +kernel
theorem dModel_typeOf_81 : decode bModel_typeOf 81 = .ok (.aload_n 0, 1) := by decide +kernel
theorem dModel_typeOf_82 : decode bModel_typeOf 82 = .ok (.getfield 63, 3) := by decide +kernel
theorem dModel_typeOf_85 : decode bModel_typeOf 85 = .ok (.iload_n 1, 1) := by decide +kernel
theorem dModel_typeOf_86 : decode bModel_typeOf 86 = .ok (.iaload, 1) := by decide +kernel
theorem dModel_typeOf_87 : decode bModel_typeOf 87 = .ok (.goto 17, 3) := by decide +kernel
theorem dModel_typeOf_90 : decode bModel_typeOf 90 = .ok (.aload_n 0, 1) := by decide +kernel
theorem dModel_typeOf_91 : decode bModel_typeOf 91 = .ok (.getfield 66, 3) := by decide +kernel
theorem dModel_typeOf_94 : decode bModel_typeOf 94 = .ok (.iload_n 1, 1) := by decide +kernel
theorem dModel_typeOf_95 : decode bModel_typeOf 95 = .ok (.baload, 1) := by decide +kernel
theorem dModel_typeOf_96 : decode bModel_typeOf 96 = .ok (.ifCond .eq 7, 3) := by decide +kernel
theorem dModel_typeOf_99 : decode bModel_typeOf 99 = .ok (.iconst 1, 1) := by decide +kernel
theorem dModel_typeOf_100 : decode bModel_typeOf 100 = .ok (.goto 4, 3) := by decide +kernel
theorem dModel_typeOf_103 : decode bModel_typeOf 103 = .ok (.iconst 0, 1) := by decide +kernel
theorem dModel_typeOf_104 : decode bModel_typeOf 104 = .ok (.ireturn, 1) := by decide +kernel
theorem dModel_about_0 : decode bModel_about 0 = .ok (.aload_n 0, 1) := by decide +kernel
theorem dModel_about_1 : decode bModel_about 1 = .ok (.aload_n 0, 1) := by decide +kernel
theorem dModel_about_2 : decode bModel_about 2 = .ok (.iload_n 1, 1) := by decide +kernel
theorem dModel_about_3 : decode bModel_about 3 = .ok (.invokevirtual 266, 3) := by decide +kernel
theorem dModel_about_6 : decode bModel_about 6 = .ok (.ifCond .ne 12, 3) := by decide +kernel
theorem dModel_about_9 : decode bModel_about 9 = .ok (.iload_n 2, 1) := by decide +kernel
theorem dModel_about_10 : decode bModel_about 10 = .ok (.ifCond .lt 8, 3) := by decide +kernel
theorem dModel_about_13 : decode bModel_about 13 = .ok (.iload_n 2, 1) := by decide +kernel
theorem dModel_about_14 : decode bModel_about 14 = .ok (.iconst 3, 1) := by decide +kernel
theorem dModel_about_15 : decode bModel_about 15 = .ok (.if_icmp .le 7, 3) := by decide +kernel
theorem dModel_about_18 : decode bModel_about 18 = .ok (.iconst 1, 1) := by decide +kernel
theorem dModel_about_19 : decode bModel_about 19 = .ok (.goto 4, 3) := by decide +kernel
theorem dModel_about_22 : decode bModel_about 22 = .ok (.iconst 0, 1) := by decide +kernel
theorem dModel_about_23 : decode bModel_about 23 = .ok (.putfield 99, 3) := by decide +kernel
theorem dModel_about_26 : decode bModel_about 26 = .ok (.aload_n 0, 1) := by decide +kernel
theorem dModel_about_27 : decode bModel_about 27 = .ok (.getfield 99, 3) := by decide +kernel
theorem dModel_about_30 : decode bModel_about 30 = .ok (.ifCond .le 5, 3) := by decide +kernel
theorem dModel_about_33 : decode bModel_about 33 = .ok (.iconst 0, 1) := by decide +kernel
theorem dModel_about_34 : decode bModel_about 34 = .ok (.ireturn, 1) := by decide +kernel
theorem dModel_about_35 : decode bModel_about 35 = .ok (.aload_n 0, 1) := by decide +kernel
theorem dModel_about_36 : decode bModel_about 36 = .ok (.getfield 51, 3) := by decide +kernel
theorem dModel_about_39 : decode bModel_about 39 = .ok (.iload_n 1, 1) := by decide +kernel
theorem dModel_about_40 : decode bModel_about 40 = .ok (.baload, 1) := by decide +kernel
theorem dModel_about_41 : decode bModel_about 41 = .ok (.ifCond .ne 5, 3) := by decide +kernel
theorem dModel_about_44 : decode bModel_about 44 = .ok (.iconst (-1), 1) := by decide +kernel
theorem dModel_about_45 : decode bModel_about 45 = .ok (.ireturn, 1) := by decide +kernel
theorem dModel_about_46 : decode bModel_about 46 = .ok (.sipush 4000, 3) := by decide +kernel
theorem dModel_about_49 : decode bModel_about 49 = .ok (.iload_n 1, 1) := by decide +kernel
theorem dModel_about_50 : decode bModel_about 50 = .ok (.iadd, 1) := by decide +kernel
theorem dModel_about_51 : decode bModel_about 51 = .ok (.istore_n 3, 1) := by decide +kernel
theorem dModel_about_52 : decode bModel_about 52 = .ok (.iload_n 2, 1) := by decide +kernel
theorem dModel_about_53 : decode bModel_about 53 = .ok (.ifCond .ne 12, 3) := by decide +kernel
theorem dModel_about_56 : decode bModel_about 56 = .ok (.aload_n 0, 1) := by decide +kernel
theorem dModel_about_57 : decode bModel_about 57 = .ok (.getfield 29, 3) := by decide +kernel
theorem dModel_about_60 : decode bModel_about 60 = .ok (.iload_n 3, 1) := by decide +kernel
theorem dModel_about_61 : decode bModel_about 61 = .ok (.iaload, 1) := by decide +kernel
theorem dModel_about_62 : decode bModel_about 62 = .ok (.goto 45, 3) := by decide +kernel
theorem dModel_about_65 : decode bModel_about 65 = .ok (.iload_n 2, 1) := by decide +kernel
theorem dModel_about_66 : decode bModel_about 66 = .ok (.iconst 1, 1) := by decide +kernel
theorem dModel_about_67 : decode bModel_about 67 = .ok (.if_icmp .ne 12, 3) := by decide +kernel
theorem dModel_about_70 : decode bModel_about 70 = .ok (.aload_n 0, 1) := by decide +kernel
theorem dModel_about_71 : decode bModel_about 71 = .ok (.getfield 32, 3) := by decide +kernel
theorem dModel_about_74 : decode bModel_about 74 = .ok (.iload_n 3, 1) := by decide +kernel
theorem dModel_about_75 : decode bModel_about 75 = .ok (.iaload, 1) := by decide +kernel
theorem dModel_about_76 : decode bModel_about 76 = .ok (.goto 31, 3) := by decide +kernel
theorem dModel_about_79 : decode bModel_about 79 = .ok (.iload_n 2, 1) := by decide +kernel
theorem dModel_about_80 : decode bModel_about 80 = .ok (.iconst 2, 1) := by decide +kernel
theorem dModel_about_81 : decode bModel_about 81 = .ok (.if_icmp .ne 20, 3) := by decide +kernel
theorem dModel_about_84 : decode bModel_about 84 = .ok (.aload_n 0, 1) := by decide +kernel
theorem dModel_about_85 : decode bModel_about 85 = .ok (.getfield 35, 3) := by decide +kernel
theorem dModel_about_88 : decode bModel_about 88 = .ok (.iload_n 3, 1) := by decide +kernel
theorem dModel_about_89 : decode bModel_about 89 = .ok (.baload, 1) := by decide +kernel
theorem dModel_about_90 : decode bModel_about 90 = .ok (.ifCond .eq 7, 3) := by decide +kernel
theorem dModel_about_93 : decode bModel_about 93 = .ok (.iconst 1, 1) := by decide +kernel
theorem dModel_about_94 : decode bModel_about 94 = .ok (.goto 13, 3) := by decide +kernel
theorem dModel_about_97 : decode bModel_about 97 = .ok (.iconst 0, 1) := by decide +kernel
theorem dModel_about_98 : decode bModel_about 98 = .ok (.goto 9, 3) := by decide +kernel
theorem dModel_about_101 : decode bModel_about 101 = .ok (.aload_n 0, 1) := by decide +kernel
theorem dModel_about_102 : decode bModel_about 102 = .ok (.getfield 39, 3) := by decide +kernel
theorem dModel_about_105 : decode bModel_about 105 = .ok (.iload_n 3, 1) := by decide +kernel
theorem dModel_about_106 : decode bModel_about 106 = .ok (.iaload, 1) := by decide +kernel
theorem dModel_about_107 : decode bModel_about 107 = .ok (.ireturn, 1) := by decide +kernel
theorem dModel_value_0 : decode bModel_value 0 = .ok (.aload_n 0, 1) := by decide +kernel
theorem dModel_value_1 : decode bModel_value 1 = .ok (.aload_n 0, 1) := by decide +kernel
theorem dModel_value_2 : decode bModel_value 2 = .ok (.iload_n 1, 1) := by decide +kernel
theorem dModel_value_3 : decode bModel_value 3 = .ok (.invokevirtual 266, 3) := by decide +kernel
theorem dModel_value_6 : decode bModel_value 6 = .ok (.ifCond .eq 7, 3) := by decide +kernel
theorem dModel_value_9 : decode bModel_value 9 = .ok (.iconst 1, 1) := by decide +kernel
theorem dModel_value_10 : decode bModel_value 10 = .ok (.goto 4, 3) := by decide +kernel
theorem dModel_value_13 : decode bModel_value 13 = .ok (.iconst 0, 1) := by decide +kernel
theorem dModel_value_14 : decode bModel_value 14 = .ok (.putfield 99, 3) := by decide +kernel
theorem dModel_value_17 : decode bModel_value 17 = .ok (.aload_n 0, 1) := by decide +kernel
theorem dModel_value_18 : decode bModel_value 18 = .ok (.getfield 99, 3) := by decide +kernel
theorem dModel_value_21 : decode bModel_value 21 = .ok (.ifCond .le 5, 3) := by decide +kernel
theorem dModel_value_24 : decode bModel_value 24 = .ok (.iconst 0, 1) := by decide +kernel
theorem dModel_value_25 : decode bModel_value 25 = .ok (.ireturn, 1) := by decide +kernel
theorem dModel_value_26 : decode bModel_value 26 = .ok (.sipush 4000, 3) := by decide +kernel
theorem dModel_value_29 : decode bModel_value 29 = .ok (.iload_n 1, 1) := by decide +kernel
theorem dModel_value_30 : decode bModel_value 30 = .ok (.iadd, 1) := by decide +kernel
theorem dModel_value_31 : decode bModel_value 31 = .ok (.istore_n 3, 1) := by decide +kernel
theorem dModel_value_32 : decode bModel_value 32 = .ok (.aload_n 0, 1) := by decide +kernel
theorem dModel_value_33 : decode bModel_value 33 = .ok (.getfield 51, 3) := by decide +kernel
theorem dModel_value_36 : decode bModel_value 36 = .ok (.iload_n 1, 1) := by decide +kernel
theorem dModel_value_37 : decode bModel_value 37 = .ok (.baload, 1) := by decide +kernel
theorem dModel_value_38 : decode bModel_value 38 = .ok (.ifCond .eq 17, 3) := by decide +kernel
theorem dModel_value_41 : decode bModel_value 41 = .ok (.aload_n 0, 1) := by decide +kernel
theorem dModel_value_42 : decode bModel_value 42 = .ok (.getfield 29, 3) := by decide +kernel
theorem dModel_value_45 : decode bModel_value 45 = .ok (.iload_n 3, 1) := by decide +kernel
theorem dModel_value_46 : decode bModel_value 46 = .ok (.iaload, 1) := by decide +kernel
theorem dModel_value_47 : decode bModel_value 47 = .ok (.iconst 3, 1) := by decide +kernel
theorem dModel_value_48 : decode bModel_value 48 = .ok (.if_icmp .ne 7, 3) := by decide +kernel
theorem dModel_value_51 : decode bModel_value 51 = .ok (.iconst 1, 1) := by decide +kernel
theorem dModel_value_52 : decode bModel_value 52 = .ok (.goto 4, 3) := by decide +kernel
theorem dModel_value_55 : decode bModel_value 55 = .ok (.iconst 0, 1) := by decide +kernel
theorem dModel_value_56 : decode bModel_value 56 = .ok (.istore 4, 2) := by decide +kernel
theorem dModel_value_58 : decode bModel_value 58 = .ok (.aload_n 0, 1) := by decide +kernel
theorem dModel_value_59 : decode bModel_value 59 = .ok (.iload 4, 2) := by decide +kernel
theorem dModel_value_61 : decode bModel_value 61 = .ok (.ifCond .eq 21, 3) := by decide +kernel
theorem dModel_value_64 : decode bModel_value 64 = .ok (.iload_n 2, 1) := by decide +kernel
theorem dModel_value_65 : decode bModel_value 65 = .ok (.ifCond .lt 13, 3) := by decide +kernel
theorem dModel_value_68 : decode bModel_value 68 = .ok (.iload_n 2, 1) := by decide +kernel
theorem dModel_value_69 : decode bModel_value 69 = .ok (.aload_n 0, 1) := by decide +kernel
theorem dModel_value_70 : decode bModel_value 70 = .ok (.getfield 32, 3) := by decide +kernel
theorem dModel_value_73 : decode bModel_value 73 = .ok (.iload_n 3, 1) := by decide +kernel
theorem dModel_value_74 : decode bModel_value 74 = .ok (.iaload, 1) := by decide +kernel
theorem dModel_value_75 : decode bModel_value 75 = .ok (.if_icmp .lt 7, 3) := by decide +kernel
theorem dModel_value_78 : decode bModel_value 78 = .ok (.iconst 1, 1) := by decide +kernel
theorem dModel_value_79 : decode bModel_value 79 = .ok (.goto 26, 3) := by decide +kernel
theorem dModel_value_82 : decode bModel_value 82 = .ok (.aload_n 0, 1) := by decide +kernel
theorem dModel_value_83 : decode bModel_value 83 = .ok (.getfield 51, 3) := by decide +kernel
theorem dModel_value_86 : decode bModel_value 86 = .ok (.iload_n 1, 1) := by decide +kernel
theorem dModel_value_87 : decode bModel_value 87 = .ok (.baload, 1) := by decide +kernel
theorem dModel_value_88 : decode bModel_value 88 = .ok (.ifCond .eq 12, 3) := by decide +kernel
theorem dModel_value_91 : decode bModel_value 91 = .ok (.aload_n 0, 1) := by decide +kernel
theorem dModel_value_92 : decode bModel_value 92 = .ok (.getfield 35, 3) := by decide +kernel
theorem dModel_value_95 : decode bModel_value 95 = .ok (.iload_n 3, 1) := by decide +kernel
theorem dModel_value_96 : decode bModel_value 96 = .ok (.baload, 1) := by decide +kernel
theorem dModel_value_97 : decode bModel_value 97 = .ok (.ifCond .ne 7, 3) := by decide +kernel
theorem dModel_value_100 : decode bModel_value 100 = .ok (.iconst 2, 1) := by decide +kernel
theorem dModel_value_101 : decode bModel_value 101 = .ok (.goto 4, 3) := by decide +kernel
theorem dModel_value_104 : decode bModel_value 104 = .ok (.iconst 0, 1) := by decide +kernel
theorem dModel_value_105 : decode bModel_value 105 = .ok (.putfield 99, 3) := by decide +kernel
theorem dModel_value_108 : decode bModel_value 108 = .ok (.aload_n 0, 1) := by decide +kernel
theorem dModel_value_109 : decode bModel_value 109 = .ok (.getfield 99, 3) := by decide +kernel
theorem dModel_value_112 : decode bModel_value 112 = .ok (.ifCond .le 5, 3) := by decide +kernel
theorem dModel_value_115 : decode bModel_value 115 = .ok (.iconst 0, 1) := by decide +kernel
theorem dModel_value_116 : decode bModel_value 116 = .ok (.ireturn, 1) := by decide +kernel
theorem dModel_value_117 : decode bModel_value 117 = .ok (.iload 4, 2) := by decide +kernel
theorem dModel_value_119 : decode bModel_value 119 = .ok (.ifCond .eq 12, 3) := by decide +kernel
theorem dModel_value_122 : decode bModel_value 122 = .ok (.aload_n 0, 1) := by decide +kernel
theorem dModel_value_123 : decode bModel_value 123 = .ok (.iload_n 3, 1) := by decide +kernel
theorem dModel_value_124 : decode bModel_value 124 = .ok (.iload_n 2, 1) := by decide +kernel
theorem dModel_value_125 : decode bModel_value 125 = .ok (.invokevirtual 131, 3) := by decide +kernel
theorem dModel_value_128 : decode bModel_value 128 = .ok (.goto 10, 3) := by decide +kernel
theorem dModel_value_131 : decode bModel_value 131 = .ok (.aload_n 0, 1) := by decide +kernel
theorem dModel_value_132 : decode bModel_value 132 = .ok (.getfield 42, 3) := by decide +kernel
theorem dModel_value_135 : decode bModel_value 135 = .ok (.iload_n 3, 1) := by decide +kernel
theorem dModel_value_136 : decode bModel_value 136 = .ok (.laload, 1) := by decide +kernel
theorem dModel_value_137 : decode bModel_value 137 = .ok (.l2i, 1) := by decide +kernel
theorem dModel_value_138 : decode bModel_value 138 = .ok (.ireturn, 1) := by decide +kernel
-- THE REFERENCE's object: its fields by their numbers; V the ints, A the arrays of ints, booleans, bytes, nu the array of longs
def mdS : Nat → Bool
  | 0 => true | 1 => true | 6 => true | 8 => true | 21 => true | 24 => true | 30 => true | 31 => true | 32 => true | 33 => true | 34 => true | _ => false
def mdIx : List Nat := [2, 3, 4, 5, 7, 9, 10, 11, 12, 13, 14, 15, 16, 17, 18, 19, 20, 22, 23, 25, 26, 27, 28, 29]
theorem mdIx_nd : mdIx.Nodup := by decide
def mdN : Nat → Nat
  | 9 => 10000 | 10 => 10000 | 11 => 10000 | 12 => 10000 | 13 => 10000 | 14 => 640000 | 16 => 1000 | 17 => 1000 | 18 => 1000 | 19 => 1000 | 20 => 1000 | 22 => 2000 | 23 => 2000 | 25 => 3000 | 26 => 3000 | 27 => 3000 | 28 => 3000 | 29 => 3000 | _ => 4000
def mdT (γ : gE) : Nat → ClassId
  | 11 => γ.2.2.2 21 | 13 => γ.2.2.1 | 14 => γ.2.2.2 20 | 15 => γ.2.2.2 21 | 20 => γ.2.2.2 21 | _ => γ.2.1
def fsM (V : Nat → Int32) (B : Nat → Nat) : List Value := (List.range 35).map (fun k => if mdS k then .int (V k) else .ref (B k))
def mcell (γ : gE) (B : Nat → Nat) (A : Nat → Nat → Int32) (nu : Nat → Int64) (k : Nat) : Nat × va_E := (B k, .inl (mdT γ k, mdN k, if k = 13 then .inr (.inl nu) else .inl (A k)))
def wsM (γ : gE) (a : Nat) (B : Nat → Nat) (V : Nat → Int32) (A : Nat → Nat → Int32) (nu : Nat → Int64) : va_W := (a, .inr (10, fsM V B)) :: mdIx.map (mcell γ B A nu)
def MDb (γ : gE) (a : Nat) (B : Nat → Nat) (Z : Nat → Prop) (V : Nat → Int32) (A : Nat → Nat → Int32) (nu : Nat → Int64) (H : Heap) : Prop := va_P γ.1 vwCl (wsM γ a B V A nu) H ∧ va_D Z (wsM γ a B V A nu)
theorem fs_get {V : Nat → Int32} {B : Nat → Nat} {k : Nat} (hk : k < 35) : (fsM V B)[k]? = some (if mdS k then .int (V k) else .ref (B k)) := by
  unfold fsM
  rw [List.getElem?_map, List.getElem?_range hk]
  rfl
theorem fs_len {V : Nat → Int32} {B : Nat → Nat} : (fsM V B).length = 35 := by simp [fsM]
theorem fs_set {V : Nat → Int32} {B : Nat → Nat} {k : Nat} {x : Int32} (hk : k < 35) (hs : mdS k = true) : (fsM V B).set k (.int x) = fsM (upd V k x) B := by
  apply List.ext_getElem?
  intro i
  by_cases hi : i < 35
  · rw [fs_get hi, List.getElem?_set]
    by_cases h : k = i
    · subst h
      rw [if_pos rfl, if_pos (by rw [fs_len]; exact hk), hs, pk_us]
      rfl
    · rw [if_neg h, fs_get hi, pk_un (fun e => h e.symm)]
  · rw [List.getElem?_eq_none (by rw [List.length_set, fs_len]; omega), List.getElem?_eq_none (by rw [fs_len]; omega)]
theorem mx_set {β : Type} {l : List Nat} {f f' : Nat → β} {q k : Nat} (hq : l[q]? = some k) (hnd : l.Nodup) (hff : ∀ j, j ≠ k → f' j = f j) : (l.map f).set q (f' k) = l.map f' := by
  apply List.ext_getElem?
  intro i
  rw [List.getElem?_set, List.getElem?_map, List.getElem?_map, List.length_map]
  have hql : q < l.length := (List.getElem?_eq_some_iff.mp hq).1
  by_cases h : q = i
  · subst h
    rw [if_pos rfl, if_pos hql, hq]
    rfl
  · rw [if_neg h]
    cases hi : l[i]? with
    | none => rfl
    | some j =>
      have hne : j ≠ k := by
        intro e
        subst e
        obtain ⟨h1, e1⟩ := List.getElem?_eq_some_iff.mp hq
        obtain ⟨h2, e2⟩ := List.getElem?_eq_some_iff.mp hi
        exact h ((List.getElem_inj hnd).mp (e1.trans e2.symm))
      show some (f j) = some (f' j)
      rw [hff j hne]
def Au (A : Nat → Nat → Int32) (k i : Nat) (x : Int32) : Nat → Nat → Int32 := fun j => if j = k then upd (A k) i x else A j
theorem au_s {A : Nat → Nat → Int32} {k i : Nat} {x : Int32} : Au A k i x k = upd (A k) i x := if_pos rfl
theorem au_n {A : Nat → Nat → Int32} {k i j : Nat} {x : Int32} (h : j ≠ k) : Au A k i x j = A j := if_neg h
theorem ws_put {γ : gE} {a : Nat} {B : Nat → Nat} {V : Nat → Int32} {A : Nat → Nat → Int32} {nu : Nat → Int64} {k : Nat} {x : Int32} (hk : k < 35) (hs : mdS k = true) : (wsM γ a B V A nu).set 0 (a, .inr (10, (fsM V B).set k (.int x))) = wsM γ a B (upd V k x) A nu := by
  rw [fs_set hk hs]
  rfl
theorem ws_get {γ : gE} {a : Nat} {B : Nat → Nat} {V : Nat → Int32} {A : Nat → Nat → Int32} {nu : Nat → Int64} {k q : Nat} (hq : mdIx[q]? = some k) (hk : k ≠ 13) : (wsM γ a B V A nu)[q + 1]? = some (B k, .inl (mdT γ k, mdN k, .inl (A k))) := by
  show (mdIx.map (mcell γ B A nu))[q]? = _
  rw [List.getElem?_map, hq]
  show some (mcell γ B A nu k) = _
  unfold mcell
  rw [if_neg hk]
theorem ws_getL {γ : gE} {a : Nat} {B : Nat → Nat} {V : Nat → Int32} {A : Nat → Nat → Int32} {nu : Nat → Int64} : (wsM γ a B V A nu)[10]? = some (B 13, .inl (γ.2.2.1, 10000, .inr (.inl nu))) := rfl
theorem ws_st {γ : gE} {a : Nat} {B : Nat → Nat} {V : Nat → Int32} {A : Nat → Nat → Int32} {nu : Nat → Int64} {k q i : Nat} {x : Int32} (hq : mdIx[q]? = some k) (hk : k ≠ 13) : (wsM γ a B V A nu).set (q + 1) (B k, .inl (mdT γ k, mdN k, .inl (upd (A k) i x))) = wsM γ a B V (Au A k i x) nu := by
  show _ :: (mdIx.map (mcell γ B A nu)).set q _ = _ :: _
  have h : (B k, Sum.inl (mdT γ k, mdN k, Sum.inl (upd (A k) i x))) = mcell γ B (Au A k i x) nu k := by
    unfold mcell
    rw [if_neg hk, au_s]
  rw [h, mx_set hq mdIx_nd]
  intro j hj
  unfold mcell
  rw [au_n hj]
theorem ws_stL {γ : gE} {a : Nat} {B : Nat → Nat} {V : Nat → Int32} {A : Nat → Nat → Int32} {nu nu' : Nat → Int64} : (wsM γ a B V A nu).set 10 (B 13, .inl (γ.2.2.1, 10000, .inr (.inl nu'))) = wsM γ a B V A nu' := rfl
-- what may change while trees are looked at (σ, F, nu), and what not (ν, τ)
def mdc : Nat → Bool
  | 0 => true | 1 => true | 32 => true | 33 => true | 34 => true | _ => false
def mdq : Nat → Bool
  | 9 => true | 10 => true | 11 => true | 12 => true | 14 => true | 15 => true | _ => false
def mv (ν σ : Nat → Int32) : Nat → Int32 := fun k => if mdc k then σ k else ν k
def ma (τ F : Nat → Nat → Int32) : Nat → Nat → Int32 := fun k => if mdq k then F k else τ k
theorem mv_d {ν σ : Nat → Int32} {k : Nat} {x : Int32} (h : mdc k = true) : upd (mv ν σ) k x = mv ν (upd σ k x) := by
  funext j
  unfold mv upd
  by_cases hj : j = k
  · subst hj
    simp [h]
  · simp [hj]
theorem mv_s {ν σ : Nat → Int32} {k : Nat} {x : Int32} (h : mdc k = false) : upd (mv ν σ) k x = mv (upd ν k x) σ := by
  funext j
  unfold mv upd
  by_cases hj : j = k
  · subst hj
    simp [h]
  · simp [hj]
theorem ma_d {τ F : Nat → Nat → Int32} {k i : Nat} {x : Int32} (h : mdq k = true) : Au (ma τ F) k i x = ma τ (Au F k i x) := by
  funext j
  unfold ma Au
  by_cases hj : j = k
  · subst hj
    simp [h]
  · simp [hj]
theorem ma_s {τ F : Nat → Nat → Int32} {k i : Nat} {x : Int32} (h : mdq k = false) : Au (ma τ F) k i x = ma (Au τ k i x) F := by
  funext j
  unfold ma Au
  by_cases hj : j = k
  · subst hj
    simp [h]
  · simp [hj]
def MD (γ : gE) (a : Nat) (B : Nat → Nat) (Z : Nat → Prop) (ν : Nat → Int32) (τ : Nat → Nat → Int32) (σ : Nat → Int32) (F : Nat → Nat → Int32) (nu : Nat → Int64) (H : Heap) : Prop := MDb γ a B Z (mv ν σ) (ma τ F) nu H
theorem md_rv {s : State} {γ : gE} {a : Nat} {B : Nat → Nat} {Z : Nat → Prop} {ν σ : Nat → Int32} {τ F : Nat → Nat → Int32} {nu : Nat → Int64} {H : Heap} (hC : CX γ s) (hM : MD γ a B Z ν τ σ F nu H) : ∃ cellB : Cell, H[a]? = some cellB ∧ cellB.vm.isStatics = false ∧ s.vm.findClass R_Model = some cellB.cls := va_recv hC.1 hM.1 (ci := 10) (q0 := 0) rfl rfl
section MDR
variable {p : Program} {l : Launch} {e : Env} {R : Room} {s : State} {m : MethodId} {args : Array Value} {below : List Frame} {meth : Method} {c : Code} {H H0 : Heap} {locs : List Loc} {cells slots : Nat} {Q : State → Prop}
variable {cc : ByteArray} {nL index pc a : Nat} {γ : gE} {ls : Array Slot} {rest : List Value} {B : Nat → Nat} {Z : Nat → Prop} {ν σ : Nat → Int32} {τ F : Nat → Nat → Int32} {nu : Nat → Int64}
theorem md_gI (S : bs_F p s m args c cc nL R_Model) (hC : CX γ s) (hM : MD γ a B Z ν τ σ F nu H) (k : Nat) {v : Int32} (hv : mv ν σ k = v) (hk : k < 35) (hs : mdS k = true) (lk : Cond.fieldLink R_Model index (T_Model k).1 (T_Model k).2.1 (T_Model k).2.2.1 ∈ bs_W0) (hdg : decode cc pc = .ok (.getfield index, 3))
    (kk : W p l e R s m args below meth c H locs cells slots Q (F0 m (pc + 3) ls (.int v :: rest))) : W p l e R s m args below meth c H locs cells slots Q (F0 m pc ls (.ref a :: rest)) :=
  va_get (D := γ.1) (ci := 10) (C := R_Model) (T := T_Model) (N := 35) S.1 S.2.1 S.2.2.2.2 in_Model S.2.2.2.1 hC.1 hM.1 0 rfl rfl k hk (S.2.2.2.2 _ lk) (fun _ h => h) (by rw [fs_get hk, hs, hv]; rfl) hdg kk
theorem md_gA (S : bs_F p s m args c cc nL R_Model) (hC : CX γ s) (hM : MD γ a B Z ν τ σ F nu H) (k : Nat) (hk : k < 35) (hs : mdS k = false) (lk : Cond.fieldLink R_Model index (T_Model k).1 (T_Model k).2.1 (T_Model k).2.2.1 ∈ bs_W0) (hdg : decode cc pc = .ok (.getfield index, 3))
    (kk : W p l e R s m args below meth c H locs cells slots Q (F0 m (pc + 3) ls (.ref (B k) :: rest))) : W p l e R s m args below meth c H locs cells slots Q (F0 m pc ls (.ref a :: rest)) :=
  va_get (D := γ.1) (ci := 10) (C := R_Model) (T := T_Model) (N := 35) S.1 S.2.1 S.2.2.2.2 in_Model S.2.2.2.1 hC.1 hM.1 0 rfl rfl k hk (S.2.2.2.2 _ lk) (fun _ h => h) (by rw [fs_get hk, hs]; rfl) hdg kk
theorem mb_pI {V : Nat → Int32} {A : Nat → Nat → Int32} (S : bs_F p s m args c cc nL R_Model) (hC : CX γ s) (hM : MDb γ a B Z V A nu H) (hS : va_S Z H0 H locs) (k : Nat) (hk : k < 35) (hs : mdS k = true) (lk : Cond.fieldLink R_Model index (T_Model k).1 (T_Model k).2.1 (T_Model k).2.2.1 ∈ bs_W0) (hfin : (T_Model k).2.2.2 = false) (hd : parseFieldDescriptor (T_Model k).2.2.1 = some .int) {x : Int32} (hdg : decode cc pc = .ok (.putfield index, 3))
    (kk : ∀ (H : Heap) (locs : List Loc), MDb γ a B Z (upd V k x) A nu H → va_S Z H0 H locs → W p l e R s m args below meth c H locs cells slots Q (F0 m (pc + 3) ls rest)) : W p l e R s m args below meth c H locs cells slots Q (F0 m pc ls (.int x :: .ref a :: rest)) := by
  refine va_put (D := γ.1) (ci := 10) (v := .int x) (ty := .int) (C := R_Model) (T := T_Model) (N := 35) S.1 S.2.1 S.2.2.2.2 in_Model t_Model t_Model_ok n_Model S.2.2.2.1 hC.1 hM.1 hM.2 hS 0 rfl rfl k hk (S.2.2.2.2 _ lk) (fun _ h => h) hfin hd rfl rfl (by rw [fs_len]; exact hk) hdg (fun H1 locs1 hP hD hS1 => ?_)
  rw [ws_put hk hs] at hP hD
  exact kk H1 locs1 ⟨hP, hD⟩ hS1
theorem md_pD (S : bs_F p s m args c cc nL R_Model) (hC : CX γ s) (hM : MD γ a B Z ν τ σ F nu H) (hS : va_S Z H0 H locs) (k : Nat) (hq : mdc k = true) (hk : k < 35) (hs : mdS k = true) (lk : Cond.fieldLink R_Model index (T_Model k).1 (T_Model k).2.1 (T_Model k).2.2.1 ∈ bs_W0) (hfin : (T_Model k).2.2.2 = false) (hd : parseFieldDescriptor (T_Model k).2.2.1 = some .int) {x : Int32} (hdg : decode cc pc = .ok (.putfield index, 3))
    (kk : ∀ (H : Heap) (locs : List Loc), MD γ a B Z ν τ (upd σ k x) F nu H → va_S Z H0 H locs → W p l e R s m args below meth c H locs cells slots Q (F0 m (pc + 3) ls rest)) : W p l e R s m args below meth c H locs cells slots Q (F0 m pc ls (.int x :: .ref a :: rest)) :=
  mb_pI S hC hM hS k hk hs lk hfin hd hdg (fun H1 locs1 hM1 hS1 => kk H1 locs1 (by rw [mv_d hq] at hM1; exact hM1) hS1)
theorem md_pS (S : bs_F p s m args c cc nL R_Model) (hC : CX γ s) (hM : MD γ a B Z ν τ σ F nu H) (hS : va_S Z H0 H locs) (k : Nat) (hq : mdc k = false) (hk : k < 35) (hs : mdS k = true) (lk : Cond.fieldLink R_Model index (T_Model k).1 (T_Model k).2.1 (T_Model k).2.2.1 ∈ bs_W0) (hfin : (T_Model k).2.2.2 = false) (hd : parseFieldDescriptor (T_Model k).2.2.1 = some .int) {x : Int32} (hdg : decode cc pc = .ok (.putfield index, 3))
    (kk : ∀ (H : Heap) (locs : List Loc), MD γ a B Z (upd ν k x) τ σ F nu H → va_S Z H0 H locs → W p l e R s m args below meth c H locs cells slots Q (F0 m (pc + 3) ls rest)) : W p l e R s m args below meth c H locs cells slots Q (F0 m pc ls (.int x :: .ref a :: rest)) :=
  mb_pI S hC hM hS k hk hs lk hfin hd hdg (fun H1 locs1 hM1 hS1 => kk H1 locs1 (by rw [mv_s hq] at hM1; exact hM1) hS1)
theorem md_ild (S : bs_F p s m args c cc nL R_Model) (hC : CX γ s) (hM : MD γ a B Z ν τ σ F nu H) (k q n : Nat) (f : Nat → Int32) (hf : ma τ F k = f) (hq : mdIx[q]? = some k) (hk : k ≠ 13) (ht : mdT γ k = γ.2.1) (hn : mdN k = n) {i : Int32} (hin : vp_in i n) (hdg : decode cc pc = .ok (.iaload, 1))
    (kk : W p l e R s m args below meth c H locs cells slots Q (F0 m (pc + 1) ls (.int (f i.toNatClampNeg) :: rest))) : W p l e R s m args below meth c H locs cells slots Q (F0 m pc ls (.int i :: .ref (B k) :: rest)) := by
  subst hf
  subst hn
  exact va_iald S.1 S.2.1 hC.1 hM.1 (q + 1) 0 (ws_get hq hk) (by rw [ht]; rfl) hin hdg kk
theorem md_zld (S : bs_F p s m args c cc nL R_Model) (hC : CX γ s) (hM : MD γ a B Z ν τ σ F nu H) (k q n : Nat) (f : Nat → Int32) (hf : ma τ F k = f) (hq : mdIx[q]? = some k) (hk : k ≠ 13) (ht : mdT γ k = γ.2.2.2 21) (hn : mdN k = n) {i : Int32} (hin : vp_in i n) (hdg : decode cc pc = .ok (.baload, 1))
    (kk : W p l e R s m args below meth c H locs cells slots Q (F0 m (pc + 1) ls (.int (f i.toNatClampNeg) :: rest))) : W p l e R s m args below meth c H locs cells slots Q (F0 m pc ls (.int i :: .ref (B k) :: rest)) := by
  subst hf
  subst hn
  exact va_zald S.1 S.2.1 hC.1 hM.1 (q + 1) 3 (ws_get hq hk) (by rw [ht]; rfl) hin hdg kk
theorem md_bld (S : bs_F p s m args c cc nL R_Model) (hC : CX γ s) (hM : MD γ a B Z ν τ σ F nu H) (k q n : Nat) (f : Nat → Int32) (hf : ma τ F k = f) (hq : mdIx[q]? = some k) (hk : k ≠ 13) (ht : mdT γ k = γ.2.2.2 20) (hn : mdN k = n) {i : Int32} (hin : vp_in i n) (hdg : decode cc pc = .ok (.baload, 1))
    (kk : W p l e R s m args below meth c H locs cells slots Q (F0 m (pc + 1) ls (.int (f i.toNatClampNeg) :: rest))) : W p l e R s m args below meth c H locs cells slots Q (F0 m pc ls (.int i :: .ref (B k) :: rest)) := by
  subst hf
  subst hn
  exact va_bald S.1 S.2.1 hC.1 hM.1 (q + 1) 2 (ws_get hq hk) (by rw [ht]; rfl) hin hdg kk
theorem md_lld (S : bs_F p s m args c cc nL R_Model) (hC : CX γ s) (hM : MD γ a B Z ν τ σ F nu H) {i : Int32} (hin : vp_in i 10000) (hdg : decode cc pc = .ok (.laload, 1))
    (kk : W p l e R s m args below meth c H locs cells slots Q (F0 m (pc + 1) ls (.long (nu i.toNatClampNeg) :: rest))) : W p l e R s m args below meth c H locs cells slots Q (F0 m pc ls (.int i :: .ref (B 13) :: rest)) :=
  va_lald S.1 S.2.1 hC.1 hM.1 10 1 ws_getL rfl hin hdg kk
theorem mb_ist {V : Nat → Int32} {A : Nat → Nat → Int32} (S : bs_F p s m args c cc nL R_Model) (hC : CX γ s) (hM : MDb γ a B Z V A nu H) (hS : va_S Z H0 H locs) (k q n : Nat) (hq : mdIx[q]? = some k) (hk : k ≠ 13) (ht : mdT γ k = γ.2.1) (hn : mdN k = n) {i x : Int32} (hin : vp_in i n) (hdg : decode cc pc = .ok (.iastore, 1))
    (kk : ∀ (H : Heap) (locs : List Loc), MDb γ a B Z V (Au A k i.toNatClampNeg x) nu H → va_S Z H0 H locs → W p l e R s m args below meth c H locs cells slots Q (F0 m (pc + 1) ls rest)) : W p l e R s m args below meth c H locs cells slots Q (F0 m pc ls (.int x :: .int i :: .ref (B k) :: rest)) := by
  subst hn
  refine va_iast S.1 S.2.1 hC.1 hM.1 hM.2 hS (q + 1) 0 (ws_get hq hk) (by rw [ht]; rfl) hin hdg (fun H1 locs1 hP hD hS1 => ?_)
  rw [ws_st hq hk] at hP hD
  exact kk H1 locs1 ⟨hP, hD⟩ hS1
theorem md_istD (S : bs_F p s m args c cc nL R_Model) (hC : CX γ s) (hM : MD γ a B Z ν τ σ F nu H) (hS : va_S Z H0 H locs) (k q n : Nat) (hd : mdq k = true) (hq : mdIx[q]? = some k) (hk : k ≠ 13) (ht : mdT γ k = γ.2.1) (hn : mdN k = n) {i x : Int32} (hin : vp_in i n) (hdg : decode cc pc = .ok (.iastore, 1))
    (kk : ∀ (H : Heap) (locs : List Loc), MD γ a B Z ν τ σ (Au F k i.toNatClampNeg x) nu H → va_S Z H0 H locs → W p l e R s m args below meth c H locs cells slots Q (F0 m (pc + 1) ls rest)) : W p l e R s m args below meth c H locs cells slots Q (F0 m pc ls (.int x :: .int i :: .ref (B k) :: rest)) :=
  mb_ist S hC hM hS k q n hq hk ht hn hin hdg (fun H1 locs1 hM1 hS1 => kk H1 locs1 (by rw [ma_d hd] at hM1; exact hM1) hS1)
theorem md_istS (S : bs_F p s m args c cc nL R_Model) (hC : CX γ s) (hM : MD γ a B Z ν τ σ F nu H) (hS : va_S Z H0 H locs) (k q n : Nat) (hd : mdq k = false) (hq : mdIx[q]? = some k) (hk : k ≠ 13) (ht : mdT γ k = γ.2.1) (hn : mdN k = n) {i x : Int32} (hin : vp_in i n) (hdg : decode cc pc = .ok (.iastore, 1))
    (kk : ∀ (H : Heap) (locs : List Loc), MD γ a B Z ν (Au τ k i.toNatClampNeg x) σ F nu H → va_S Z H0 H locs → W p l e R s m args below meth c H locs cells slots Q (F0 m (pc + 1) ls rest)) : W p l e R s m args below meth c H locs cells slots Q (F0 m pc ls (.int x :: .int i :: .ref (B k) :: rest)) :=
  mb_ist S hC hM hS k q n hq hk ht hn hin hdg (fun H1 locs1 hM1 hS1 => kk H1 locs1 (by rw [ma_s hd] at hM1; exact hM1) hS1)
theorem mb_zst {V : Nat → Int32} {A : Nat → Nat → Int32} (S : bs_F p s m args c cc nL R_Model) (hC : CX γ s) (hM : MDb γ a B Z V A nu H) (hS : va_S Z H0 H locs) (k q n : Nat) (hq : mdIx[q]? = some k) (hk : k ≠ 13) (ht : mdT γ k = γ.2.2.2 21) (hn : mdN k = n) {i x : Int32} (hin : vp_in i n) (hdg : decode cc pc = .ok (.bastore, 1))
    (kk : ∀ (H : Heap) (locs : List Loc), MDb γ a B Z V (Au A k i.toNatClampNeg (vp_nar .boolean x)) nu H → va_S Z H0 H locs → W p l e R s m args below meth c H locs cells slots Q (F0 m (pc + 1) ls rest)) : W p l e R s m args below meth c H locs cells slots Q (F0 m pc ls (.int x :: .int i :: .ref (B k) :: rest)) := by
  subst hn
  refine va_zast S.1 S.2.1 hC.1 hM.1 hM.2 hS (q + 1) 3 (ws_get hq hk) (by rw [ht]; rfl) hin hdg (fun H1 locs1 hP hD hS1 => ?_)
  rw [ws_st hq hk] at hP hD
  exact kk H1 locs1 ⟨hP, hD⟩ hS1
theorem md_zstD (S : bs_F p s m args c cc nL R_Model) (hC : CX γ s) (hM : MD γ a B Z ν τ σ F nu H) (hS : va_S Z H0 H locs) (k q n : Nat) (hd : mdq k = true) (hq : mdIx[q]? = some k) (hk : k ≠ 13) (ht : mdT γ k = γ.2.2.2 21) (hn : mdN k = n) {i x : Int32} (hin : vp_in i n) (hdg : decode cc pc = .ok (.bastore, 1))
    (kk : ∀ (H : Heap) (locs : List Loc), MD γ a B Z ν τ σ (Au F k i.toNatClampNeg (vp_nar .boolean x)) nu H → va_S Z H0 H locs → W p l e R s m args below meth c H locs cells slots Q (F0 m (pc + 1) ls rest)) : W p l e R s m args below meth c H locs cells slots Q (F0 m pc ls (.int x :: .int i :: .ref (B k) :: rest)) :=
  mb_zst S hC hM hS k q n hq hk ht hn hin hdg (fun H1 locs1 hM1 hS1 => kk H1 locs1 (by rw [ma_d hd] at hM1; exact hM1) hS1)
theorem md_zstS (S : bs_F p s m args c cc nL R_Model) (hC : CX γ s) (hM : MD γ a B Z ν τ σ F nu H) (hS : va_S Z H0 H locs) (k q n : Nat) (hd : mdq k = false) (hq : mdIx[q]? = some k) (hk : k ≠ 13) (ht : mdT γ k = γ.2.2.2 21) (hn : mdN k = n) {i x : Int32} (hin : vp_in i n) (hdg : decode cc pc = .ok (.bastore, 1))
    (kk : ∀ (H : Heap) (locs : List Loc), MD γ a B Z ν (Au τ k i.toNatClampNeg (vp_nar .boolean x)) σ F nu H → va_S Z H0 H locs → W p l e R s m args below meth c H locs cells slots Q (F0 m (pc + 1) ls rest)) : W p l e R s m args below meth c H locs cells slots Q (F0 m pc ls (.int x :: .int i :: .ref (B k) :: rest)) :=
  mb_zst S hC hM hS k q n hq hk ht hn hin hdg (fun H1 locs1 hM1 hS1 => kk H1 locs1 (by rw [ma_s hd] at hM1; exact hM1) hS1)
theorem mb_bst {V : Nat → Int32} {A : Nat → Nat → Int32} (S : bs_F p s m args c cc nL R_Model) (hC : CX γ s) (hM : MDb γ a B Z V A nu H) (hS : va_S Z H0 H locs) (k q n : Nat) (hq : mdIx[q]? = some k) (hk : k ≠ 13) (ht : mdT γ k = γ.2.2.2 20) (hn : mdN k = n) {i x : Int32} (hin : vp_in i n) (hdg : decode cc pc = .ok (.bastore, 1))
    (kk : ∀ (H : Heap) (locs : List Loc), MDb γ a B Z V (Au A k i.toNatClampNeg (vp_nar .byte x)) nu H → va_S Z H0 H locs → W p l e R s m args below meth c H locs cells slots Q (F0 m (pc + 1) ls rest)) : W p l e R s m args below meth c H locs cells slots Q (F0 m pc ls (.int x :: .int i :: .ref (B k) :: rest)) := by
  subst hn
  refine va_bast S.1 S.2.1 hC.1 hM.1 hM.2 hS (q + 1) 2 (ws_get hq hk) (by rw [ht]; rfl) hin hdg (fun H1 locs1 hP hD hS1 => ?_)
  rw [ws_st hq hk] at hP hD
  exact kk H1 locs1 ⟨hP, hD⟩ hS1
theorem md_bstD (S : bs_F p s m args c cc nL R_Model) (hC : CX γ s) (hM : MD γ a B Z ν τ σ F nu H) (hS : va_S Z H0 H locs) (k q n : Nat) (hd : mdq k = true) (hq : mdIx[q]? = some k) (hk : k ≠ 13) (ht : mdT γ k = γ.2.2.2 20) (hn : mdN k = n) {i x : Int32} (hin : vp_in i n) (hdg : decode cc pc = .ok (.bastore, 1))
    (kk : ∀ (H : Heap) (locs : List Loc), MD γ a B Z ν τ σ (Au F k i.toNatClampNeg (vp_nar .byte x)) nu H → va_S Z H0 H locs → W p l e R s m args below meth c H locs cells slots Q (F0 m (pc + 1) ls rest)) : W p l e R s m args below meth c H locs cells slots Q (F0 m pc ls (.int x :: .int i :: .ref (B k) :: rest)) :=
  mb_bst S hC hM hS k q n hq hk ht hn hin hdg (fun H1 locs1 hM1 hS1 => kk H1 locs1 (by rw [ma_d hd] at hM1; exact hM1) hS1)
theorem md_bstS (S : bs_F p s m args c cc nL R_Model) (hC : CX γ s) (hM : MD γ a B Z ν τ σ F nu H) (hS : va_S Z H0 H locs) (k q n : Nat) (hd : mdq k = false) (hq : mdIx[q]? = some k) (hk : k ≠ 13) (ht : mdT γ k = γ.2.2.2 20) (hn : mdN k = n) {i x : Int32} (hin : vp_in i n) (hdg : decode cc pc = .ok (.bastore, 1))
    (kk : ∀ (H : Heap) (locs : List Loc), MD γ a B Z ν (Au τ k i.toNatClampNeg (vp_nar .byte x)) σ F nu H → va_S Z H0 H locs → W p l e R s m args below meth c H locs cells slots Q (F0 m (pc + 1) ls rest)) : W p l e R s m args below meth c H locs cells slots Q (F0 m pc ls (.int x :: .int i :: .ref (B k) :: rest)) :=
  mb_bst S hC hM hS k q n hq hk ht hn hin hdg (fun H1 locs1 hM1 hS1 => kk H1 locs1 (by rw [ma_s hd] at hM1; exact hM1) hS1)
theorem md_lst (S : bs_F p s m args c cc nL R_Model) (hC : CX γ s) (hM : MD γ a B Z ν τ σ F nu H) (hS : va_S Z H0 H locs) {i : Int32} {x : Int64} (hin : vp_in i 10000) (hdg : decode cc pc = .ok (.lastore, 1))
    (kk : ∀ (H : Heap) (locs : List Loc), MD γ a B Z ν τ σ F (vp_updL nu i.toNatClampNeg x) H → va_S Z H0 H locs → W p l e R s m args below meth c H locs cells slots Q (F0 m (pc + 1) ls rest)) : W p l e R s m args below meth c H locs cells slots Q (F0 m pc ls (.long x :: .int i :: .ref (B 13) :: rest)) := by
  refine va_last S.1 S.2.1 hC.1 hM.1 hM.2 hS 10 1 ws_getL rfl hin hdg (fun H1 locs1 hP hD hS1 => ?_)
  rw [ws_stL] at hP hD
  exact kk H1 locs1 ⟨hP, hD⟩ hS1
end MDR
-- TREES of the reference: the places behind a node's children, from the right
def tX (b : Nat → Nat) (k : Nat) : Nat → Nat
  | 0 => k
  | i + 1 => match tX b k i with
    | 0 => 0
    | m + 1 => b m
theorem tX_s {b : Nat → Nat} {k i m : Nat} (h : tX b k i = m + 1) : tX b k (i + 1) = b m := by
  show (match tX b k i with | 0 => 0 | m + 1 => b m) = b m
  rw [h]
theorem tX_z {b : Nat → Nat} {k i : Nat} (h : tX b k i = 0) : tX b k (i + 1) = 0 := by
  show (match tX b k i with | 0 => 0 | m + 1 => b m) = 0
  rw [h]
theorem tX_le {b : Nat → Nat} {N k : Nat} (hb : ∀ c, c < N → b c ≤ c) (hk : k ≤ N) : ∀ i, tX b k i ≤ k
  | 0 => Nat.le_refl _
  | i + 1 => by
    have h := tX_le hb hk i
    cases e : tX b k i with
    | zero => rw [tX_z e]; exact Nat.zero_le _
    | succ m =>
      rw [tX_s e]
      rw [e] at h
      have := hb m (by omega)
      omega
theorem tX_dn {b : Nat → Nat} {N k : Nat} (hb : ∀ c, c < N → b c ≤ c) (hk : k ≤ N) (i : Nat) : tX b k (i + 1) ≤ tX b k i := by
  have h := tX_le hb hk i
  cases e : tX b k i with
  | zero => rw [tX_z e]; exact Nat.le_refl _
  | succ m =>
    rw [tX_s e]
    rw [e] at h
    have := hb m (by omega)
    omega
theorem tX_mono {b : Nat → Nat} {N k : Nat} (hb : ∀ c, c < N → b c ≤ c) (hk : k ≤ N) (i d : Nat) : tX b k (i + d) ≤ tX b k i := by
  induction d with
  | zero => exact Nat.le_refl _
  | succ d ih => exact Nat.le_trans (tX_dn hb hk (i + d)) ih
theorem tX_sub {b : Nat → Nat} {N k : Nat} (hb : ∀ c, c < N → b c ≤ c) (hk : k ≤ N) : ∀ i, (∀ j, j < i → 1 ≤ tX b k j) → tX b k i + i ≤ k
  | 0, _ => Nat.le_refl _
  | i + 1, h => by
    have h1 := tX_sub hb hk i (fun j hj => h j (by omega))
    have h2 := h i (by omega)
    obtain ⟨m, hm⟩ : ∃ m, tX b k i = m + 1 := ⟨tX b k i - 1, by omega⟩
    rw [tX_s hm]
    have := hb m (by omega)
    omega
theorem tX_congr {b b' : Nat → Nat} {N k : Nat} (hb : ∀ c, c < N → b c ≤ c) (he : ∀ c, c < N → b' c = b c) (hk : k ≤ N) : ∀ i, tX b' k i = tX b k i
  | 0 => rfl
  | i + 1 => by
    have h := tX_congr hb he hk i
    have h2 := tX_le hb hk i
    cases e : tX b k i with
    | zero => rw [tX_z e, tX_z (h.trans e)]
    | succ m =>
      rw [tX_s e, tX_s (h.trans e)]
      rw [e] at h2
      exact he m (by omega)
theorem lam {N : Nat} {b mn : Nat → Nat} (hb : ∀ c, c < N → b c ≤ c) (hm : ∀ k, k < N → b k = tX b k (mn k)) : ∀ k, k < N → ∀ a, b k ≤ a → a ≤ k → b k ≤ b a := by
  intro k
  induction k using Nat.strongRecOn with
  | ind k ih =>
    intro hk a h1 h2
    have L : ∀ i a, tX b k i ≤ a → a < k → tX b k i ≤ b a := by
      intro i
      induction i with
      | zero => intro a h1 h2; exact absurd h1 (Nat.not_le.mpr h2)
      | succ i ihi =>
        intro a h1 h2
        have hle := tX_le hb (Nat.le_of_lt hk) i
        cases e : tX b k i with
        | zero => rw [tX_z e]; exact Nat.zero_le _
        | succ m =>
          rw [tX_s e] at h1 ⊢
          rw [e] at hle ihi
          by_cases h3 : a ≤ m
          · exact ih m (by omega) (by omega) a h1 h3
          · have h4 := ihi a (by omega) h2
            have h5 := hb m (by omega)
            omega
    rcases Nat.lt_or_ge a k with h3 | h3
    · have h4 := L (mn k) a (by rw [← hm k hk]; exact h1) h3
      have h5 := hm k hk
      omega
    · have h4 : a = k := by omega
      subst h4
      exact Nat.le_refl _
theorem lamX {N : Nat} {b mn : Nat → Nat} (hb : ∀ c, c < N → b c ≤ c) (hm : ∀ k, k < N → b k = tX b k (mn k)) {k : Nat} (hk : k ≤ N) : ∀ i a, tX b k i ≤ a → a < k → tX b k i ≤ b a := by
  intro i
  induction i with
  | zero => intro a h1 h2; exact absurd h1 (Nat.not_le.mpr h2)
  | succ i ihi =>
    intro a h1 h2
    have hle := tX_le hb hk i
    cases e : tX b k i with
    | zero => rw [tX_z e]; exact Nat.zero_le _
    | succ m =>
      rw [tX_s e] at h1 ⊢
      rw [e] at hle ihi
      by_cases h3 : a ≤ m
      · exact lam hb hm m (by omega) a h1 h3
      · have h4 := ihi a (by omega) h2
        have h5 := hb m (by omega)
        omega
/-- the trees of N nodes, r roots -/
def TR (N r : Nat) (τ : Nat → Nat → Int32) (b mn : Nat → Nat) : Prop :=
  (∀ c, c < N → τ 5 c = nI (b c) ∧ b c ≤ c) ∧ (∀ k, k < N → τ 4 k = nI (mn k) ∧ mn k ≤ 4000 ∧ (∀ i, i < mn k → 1 ≤ tX b k i) ∧ b k = tX b k (mn k)) ∧ ∀ i, i < r → 1 ≤ tX b N i ∧ τ 7 (r - 1 - i) = nI (tX b N i - 1)
/-- a node is below an ATTRIBUTE of those up to 'to' -/
def hid (τ : Nat → Nat → Int32) (b : Nat → Nat) (c to : Nat) : Prop := ∃ a, c < a ∧ a ≤ to ∧ τ 2 a = 25 ∧ b a ≤ c
theorem hid_ch {N r : Nat} {τ : Nat → Nat → Int32} {b mn : Nat → Nat} (hT : TR N r τ b mn) {k i to : Nat} (hk : k < N) (hi : i < mn k) (hn : ¬ hid τ b k to) (h25 : ¬ τ 2 k = 25) : ¬ hid τ b (tX b k i - 1) to := by
  rintro ⟨a, h1, h2, h3, h4⟩
  have hb : ∀ c, c < N → b c ≤ c := fun c hc => (hT.1 c hc).2
  have hX := (hT.2.1 k hk).2.2.1 i hi
  have hle := tX_le hb (Nat.le_of_lt hk) i
  rcases Nat.lt_trichotomy a k with h | h | h
  · have := lamX hb (fun k hk => (hT.2.1 k hk).2.2.2) (Nat.le_of_lt hk) i a (by omega) h
    omega
  · subst h
    exact h25 h3
  · exact hn ⟨a, h, h2, h3, by omega⟩
theorem hid_ty {N r : Nat} {τ : Nat → Nat → Int32} {b mn : Nat → Nat} (hT : TR N r τ b mn) {k i : Nat} (hk : k < N) (hi : i < mn k) : ¬ hid τ b (tX b k i - 1) (k - 1) := by
  rintro ⟨a, h1, h2, h3, h4⟩
  have hb : ∀ c, c < N → b c ≤ c := fun c hc => (hT.1 c hc).2
  have hX := (hT.2.1 k hk).2.2.1 i hi
  have hle := tX_le hb (Nat.le_of_lt hk) i
  have := lamX hb (fun k hk => (hT.2.1 k hk).2.2.2) (Nat.le_of_lt hk) i a (by omega) (by omega)
  omega
/-- a child lies in its parent's range -/
theorem ch_ge {N r : Nat} {τ : Nat → Nat → Int32} {b mn : Nat → Nat} (hT : TR N r τ b mn) {k i : Nat} (hk : k < N) (hi : i < mn k) : b k ≤ tX b k i - 1 ∧ tX b k i - 1 < k := by
  have hb : ∀ c, c < N → b c ≤ c := fun c hc => (hT.1 c hc).2
  have hX := (hT.2.1 k hk).2.2.1 i hi
  have hle := tX_le hb (Nat.le_of_lt hk) i
  obtain ⟨m, hm⟩ : ∃ m, tX b k i = m + 1 := ⟨tX b k i - 1, by omega⟩
  have h1 : tX b k (i + 1) = b m := tX_s hm
  have h2 := hb m (by omega)
  have h3 := tX_mono hb (Nat.le_of_lt hk) (i + 1) (mn k - (i + 1))
  rw [show i + 1 + (mn k - (i + 1)) = mn k by omega] at h3
  have h4 := (hT.2.1 k hk).2.2.2
  omega
theorem rg_ge {N r : Nat} {τ : Nat → Nat → Int32} {b mn : Nat → Nat} (hT : TR N r τ b mn) {n k : Nat} (hn : n < N) (h1 : b n ≤ k) (h2 : k ≤ n) : b n ≤ b k := lam (fun c hc => (hT.1 c hc).2) (fun k hk => (hT.2.1 k hk).2.2.2) n hn k h1 h2
/-- one node more -/
theorem tr_add {N r n : Nat} {τ τ' : Nat → Nat → Int32} {b mn : Nat → Nat} (hT : TR N r τ b mn) (hn : n ≤ r) (hn2 : n ≤ 4000)
    (h5 : ∀ c, c < N → τ' 5 c = τ 5 c) (h4 : ∀ c, c < N → τ' 4 c = τ 4 c) (h7 : ∀ c, c < r - n → τ' 7 c = τ 7 c) (e5 : τ' 5 N = nI (tX b N n)) (e4 : τ' 4 N = nI n) (e7 : τ' 7 (r - n) = nI N) :
    TR (N + 1) (r - n + 1) τ' (fun c => if c = N then tX b N n else b c) (fun c => if c = N then n else mn c) := by
  have hb : ∀ c, c < N → b c ≤ c := fun c hc => (hT.1 c hc).2
  have hc0 : ∀ c, c < N → (fun c => if c = N then tX b N n else b c) c = b c := fun c hc => if_neg (by omega)
  have hX : ∀ k, k ≤ N → ∀ i, tX (fun c => if c = N then tX b N n else b c) k i = tX b k i := fun k hk i => tX_congr hb hc0 hk i
  refine ⟨fun c hc => ?_, fun k hk => ?_, fun i hi => ?_⟩
  · by_cases h : c = N
    · subst h
      simp only [if_true]
      exact ⟨e5, tX_le hb (Nat.le_refl _) n⟩
    · have hc2 : c < N := by omega
      rw [h5 c hc2, hc0 c hc2]
      exact hT.1 c hc2
  · rw [hX k (by omega)]
    by_cases h : k = N
    · subst h
      simp only [if_true]
      refine ⟨e4, hn2, fun i hi => ?_, trivial⟩
      rw [hX k (Nat.le_refl _)]
      exact (hT.2.2 i (by omega)).1
    · have hk2 : k < N := by omega
      simp only [if_neg h]
      rw [h4 k hk2]
      obtain ⟨a1, a2, a3, a4⟩ := hT.2.1 k hk2
      refine ⟨a1, a2, fun i hi => ?_, a4⟩
      rw [hX k (by omega)]
      exact a3 i hi
  · cases i with
    | zero =>
      refine ⟨by show 1 ≤ N + 1; omega, ?_⟩
      rw [show r - n + 1 - 1 - 0 = r - n by omega]
      exact e7
    | succ i =>
      have hs : ∀ i, tX (fun c => if c = N then tX b N n else b c) (N + 1) (i + 1) = tX b N (n + i) := by
        intro i
        induction i with
        | zero =>
          rw [tX_s (m := N) rfl]
          simp
        | succ i ih =>
          cases e : tX b N (n + i) with
          | zero =>
            rw [tX_z (ih.trans e)]
            exact (tX_z e).symm
          | succ m =>
            rw [tX_s (ih.trans e)]
            have h1 := tX_le hb (Nat.le_refl N) (n + i)
            rw [e] at h1
            show (if m = N then tX b N n else b m) = _
            rw [if_neg (by omega)]
            exact (tX_s e).symm
      rw [hs i]
      obtain ⟨a1, a2⟩ := hT.2.2 (n + i) (by omega)
      refine ⟨a1, ?_⟩
      rw [show r - n + 1 - 1 - (i + 1) = r - 1 - (n + i) by omega, h7 _ (by omega)]
      exact a2
-- what holds between calls
def TY (τ : Nat → Nat → Int32) : Prop := ∀ t, t < 1000 → τ 16 t = 3 → ∃ lo hi cn : Nat, τ 17 t = nI lo ∧ τ 18 t = nI hi ∧ τ 19 t = nI cn ∧ lo < 2 ^ 31 ∧ hi < 2 ^ 31 ∧ lo ≤ hi + 63 ∧ hi ≤ lo + 63 ∧ cn ≤ 64 ∧ (τ 20 t = 0 → lo ≤ hi) ∧ (¬ τ 20 t = 0 → hi ≤ lo)
def OB (τ : Nat → Nat → Int32) : Prop := ∀ o, o < 2000 → ∃ t, t < 1000 ∧ τ 23 o = nI t
def NM (τ : Nat → Nat → Int32) : Prop := ∀ k, k < 3000 → (τ 26 k = 1 → ∃ o, o < 2000 ∧ τ 27 k = nI o) ∧ (τ 26 k = 2 → ∃ o, o ≤ 1000 ∧ τ 27 k = nI o) ∧ (τ 26 k = 4 → ¬ 11 < τ 27 k)
/-- κ: 0 nodes, 1 roots, 2 types, 3 objects, 4 names, 5 scopes -/
def ST (κ b mn : Nat → Nat) (ν : Nat → Int32) (τ : Nat → Nat → Int32) : Prop :=
  (κ 0 ≤ 4000 ∧ κ 1 ≤ κ 0 ∧ κ 2 ≤ 1000 ∧ κ 3 ≤ 2000 ∧ κ 4 ≤ 3000 ∧ 1 ≤ κ 5 ∧ κ 5 ≤ 32) ∧ (ν 6 = nI (κ 0) ∧ ν 8 = nI (κ 1) ∧ ν 21 = nI (κ 2) ∧ ν 24 = nI (κ 3) ∧ ν 30 = nI (κ 4) ∧ ν 31 = nI (κ 5)) ∧ TR (κ 0) (κ 1) τ b mn ∧ TY τ ∧ OB τ ∧ NM τ
def SZ (F : Nat → Nat → Int32) : Prop := ∀ f, f < 10000 → ∃ j, j ≤ 1000 ∧ F 10 f = nI j
def FD (σ : Nat → Int32) : Prop := (σ 32 = 1 → ∃ j, j < 2000 ∧ σ 33 = nI j) ∧ (σ 32 = 2 → ∃ j, j ≤ 1000 ∧ σ 33 = nI j) ∧ (σ 32 = 4 → ¬ 11 < σ 33)
def GK (f : Nat) (F : Nat → Nat → Int32) (nu : Nat → Int64) : Prop := F 9 f = 2 → -2147483648 < (nu f).toInt ∧ (nu f).toInt < 2147483648
def GD (F : Nat → Nat → Int32) (nu : Nat → Int64) : Prop := ∀ f, 4000 ≤ f → f < 10000 → GK f F nu
def SL (k : Nat) (F : Nat → Nat → Int32) (nu : Nat → Int64) (F' : Nat → Nat → Int32) (nu' : Nat → Int64) : Prop := ∀ j, j ≠ k → F' 9 j = F 9 j ∧ nu' j = nu j
/-- a slot is set: class, size, number -/
def SLT (k : Nat) (c n : Int32) (v : Int64) (F : Nat → Nat → Int32) (nu : Nat → Int64) (F' : Nat → Nat → Int32) (nu' : Nat → Int64) : Prop := F' 9 = upd (F 9) k c ∧ F' 10 = upd (F 10) k n ∧ nu' = vp_updL nu k v
def EQ14 (F F' : Nat → Nat → Int32) : Prop := ∀ q, q ≠ 14 → F' q = F q
/-- what a look at node k leaves -/
def LKo (γ : gE) (a : Nat) (B : Nat → Nat) (Z : Nat → Prop) (ν : Nat → Int32) (τ : Nat → Nat → Int32) (k : Nat) (F : Nat → Nat → Int32) (nu : Nat → Int64) (r : Int32) (H : Heap) : Prop := ∃ (σ' : Nat → Int32) (F' : Nat → Nat → Int32) (nu' : Nat → Int64), MD γ a B Z ν τ σ' F' nu' H ∧ SZ F' ∧ FD σ' ∧ SL k F nu F' nu' ∧ (¬ 0 < r → GK k F' nu')
/-- the reference between calls: sizes κ, the code cd -/
def MI (γ : gE) (a : Nat) (B : Nat → Nat) (Z : Nat → Prop) (κ : Nat → Nat) (cd : Int32) (H : Heap) : Prop := ∃ (b mn : Nat → Nat) (ν : Nat → Int32) (τ : Nat → Nat → Int32) (σ : Nat → Int32) (F : Nat → Nat → Int32) (nu : Nat → Int64), ST κ b mn ν τ ∧ SZ F ∧ FD σ ∧ GD F nu ∧ σ 0 = cd ∧ MD γ a B Z ν τ σ F nu H
theorem SL.rf {k : Nat} {F : Nat → Nat → Int32} {nu : Nat → Int64} : SL k F nu F nu := fun _ _ => ⟨rfl, rfl⟩
theorem SL.trans {k : Nat} {F F1 F2 : Nat → Nat → Int32} {nu nu1 nu2 : Nat → Int64} (h1 : SL k F nu F1 nu1) (h2 : SL k F1 nu1 F2 nu2) : SL k F nu F2 nu2 := fun j hj => ⟨(h2 j hj).1.trans (h1 j hj).1, (h2 j hj).2.trans (h1 j hj).2⟩
theorem SL.slt {k : Nat} {c n : Int32} {v : Int64} {F F' : Nat → Nat → Int32} {nu nu' : Nat → Int64} (h : SLT k c n v F nu F' nu') : SL k F nu F' nu' := fun j hj => ⟨by rw [h.1, pk_un hj], by rw [h.2.2]; exact if_neg hj⟩
theorem SL.e14 {k : Nat} {F F' : Nat → Nat → Int32} {nu : Nat → Int64} (h : EQ14 F F') : SL k F nu F' nu := fun j _ => ⟨by rw [h 9 (by decide)], rfl⟩
theorem SL.num {k : Nat} {F : Nat → Nat → Int32} {nu : Nat → Int64} {v : Int64} : SL k F nu F (vp_updL nu k v) := fun j hj => ⟨rfl, if_neg hj⟩
theorem SL.gk {k j : Nat} {F F' : Nat → Nat → Int32} {nu nu' : Nat → Int64} (h : SL k F nu F' nu') (hj : j ≠ k) (hg : GK j F nu) : GK j F' nu' := by
  intro h2
  rw [(h j hj).1] at h2
  rw [(h j hj).2]
  exact hg h2
theorem SZ.slt {k : Nat} {c n : Int32} {v : Int64} {F F' : Nat → Nat → Int32} {nu nu' : Nat → Int64} (hz : SZ F) (h : SLT k c n v F nu F' nu') (hn : ∃ j, j ≤ 1000 ∧ n = nI j) : SZ F' := by
  intro f hf
  rw [h.2.1]
  by_cases e : f = k
  · subst e
    rw [pk_us]
    exact hn
  · rw [pk_un e]
    exact hz f hf
theorem SZ.e14 {F F' : Nat → Nat → Int32} (hz : SZ F) (h : EQ14 F F') : SZ F' := by
  intro f hf
  rw [h 10 (by decide)]
  exact hz f hf
theorem GK.zero {k : Nat} {c n : Int32} {F F' : Nat → Nat → Int32} {nu nu' : Nat → Int64} (h : SLT k c n 0 F nu F' nu') : GK k F' nu' := by
  intro _
  rw [h.2.2]
  show -2147483648 < (if k = k then (0 : Int64) else nu k).toInt ∧ (if k = k then (0 : Int64) else nu k).toInt < 2147483648
  rw [if_pos rfl]
  decide
theorem GK.e14 {k : Nat} {F F' : Nat → Nat → Int32} {nu : Nat → Int64} (hg : GK k F nu) (h : EQ14 F F') : GK k F' nu := by
  intro h2
  rw [h 9 (by decide)] at h2
  exact hg h2
theorem GK.num {k : Nat} {F : Nat → Nat → Int32} {nu : Nat → Int64} {v : Int64} (h : F 9 k = 2 → -2147483648 < v.toInt ∧ v.toInt < 2147483648) : GK k F (vp_updL nu k v) := by
  intro h2
  show -2147483648 < (if k = k then v else nu k).toInt ∧ (if k = k then v else nu k).toInt < 2147483648
  rw [if_pos rfl]
  exact h h2
theorem vin {x : Int32} {n m : Nat} (h : vp_in x n) (hm : n ≤ m) : vp_in x m := fun h2 => h (h2.imp_right (fun h3 => Nat.le_trans hm h3))
theorem vix {x : Int32} {n : Nat} (h : vp_in x n) : x.toNatClampNeg < n := Nat.not_le.mp (fun h2 => h (Or.inr h2))
theorem vnI {x : Int32} {n : Nat} (h : vp_in x n) : x = nI x.toNatClampNeg := by
  have h0 : ¬ x < 0 := fun h2 => h (Or.inl h2)
  obtain ⟨j, hj, rfl⟩ := nI_of h0
  rw [nI_clamp hj]
theorem el_in {f k : Int32} {n m : Nat} (hf : vp_in f n) (hk : vp_in k m) (h : 64 * n + m ≤ 640064) : vp_in (64 * f + k) 640000 := by
  have h1 := vix hf
  have h2 := vix hk
  rw [vnI hf, vnI hk]
  have e : (64 : Int32) * nI f.toNatClampNeg = nI (64 * f.toNatClampNeg) := pk_mul 64 _
  rw [e, nI_add]
  exact vp_in_nI (by omega) (by omega)
-- what stays over a store
theorem FD.up {σ σ' : Nat → Int32} {k : Nat} {x : Int32} (hF : FD σ) (e : σ' = upd σ k x) (h1 : 32 ≠ k) (h2 : 33 ≠ k) : FD σ' := by
  subst e
  unfold FD
  rw [pk_un h1, pk_un h2]
  exact hF
theorem SZ.au {F F' : Nat → Nat → Int32} {k i : Nat} {x : Int32} (hz : SZ F) (e : F' = Au F k i x) (h : 10 ≠ k) : SZ F' := by
  subst e
  intro f hf
  rw [au_n h]
  exact hz f hf
theorem SL.au {K : Nat} {F0 F F' : Nat → Nat → Int32} {nu0 nu : Nat → Int64} {k i : Nat} {x : Int32} (hl : SL K F0 nu0 F nu) (e : F' = Au F k i x) (h : 9 ≠ k) : SL K F0 nu0 F' nu := by
  subst e
  intro j hj
  rw [au_n h]
  exact hl j hj
theorem GK.au {K : Nat} {F F' : Nat → Nat → Int32} {nu : Nat → Int64} {k i : Nat} {x : Int32} (hg : GK K F nu) (e : F' = Au F k i x) (h : 9 ≠ k) : GK K F' nu := by
  subst e
  unfold GK
  rw [au_n h]
  exact hg
theorem GD.au {F F' : Nat → Nat → Int32} {nu : Nat → Int64} {k i : Nat} {x : Int32} (hg : GD F nu) (e : F' = Au F k i x) (h : 9 ≠ k) : GD F' nu := fun f h1 h2 => (hg f h1 h2).au e h
theorem GD.e14 {F F' : Nat → Nat → Int32} {nu : Nat → Int64} (hg : GD F nu) (h : EQ14 F F') : GD F' nu := fun f h1 h2 => (hg f h1 h2).e14 h
theorem GD.sl {k : Nat} {F F' : Nat → Nat → Int32} {nu nu' : Nat → Int64} (hg : GD F nu) (hk : k < 4000) (h : SL k F nu F' nu') : GD F' nu' := fun f h1 h2 => h.gk (by omega) (hg f h1 h2)
theorem EQ14.rf {F : Nat → Nat → Int32} : EQ14 F F := fun _ _ => rfl
theorem EQ14.trans {F F1 F2 : Nat → Nat → Int32} (h1 : EQ14 F F1) (h2 : EQ14 F1 F2) : EQ14 F F2 := fun q hq => (h2 q hq).trans (h1 q hq)
theorem EQ14.au {F F' : Nat → Nat → Int32} {i : Nat} {x : Int32} (e : F' = Au F 14 i x) : EQ14 F F' := by
  subst e
  intro q hq
  exact au_n hq
-- numbers
theorem cmp_ge {x y : Int64} {v : Int32} (e : v = lg_cmp x y) (h : ¬ v < 0) : y.toInt ≤ x.toInt := by
  subst e
  unfold lg_cmp at h
  by_cases h1 : x > y
  · have := Int64.lt_iff_toInt_lt.mp h1
    omega
  · rw [if_neg h1] at h
    by_cases h2 : x = y
    · rw [h2]; exact Int.le_refl _
    · rw [if_neg h2] at h
      exact absurd (by decide) h
theorem cmp_le {x y : Int64} {v : Int32} (e : v = lg_cmp x y) (h : ¬ 0 < v) : x.toInt ≤ y.toInt := by
  subst e
  unfold lg_cmp at h
  by_cases h1 : x > y
  · rw [if_pos h1] at h
    exact absurd (by decide) h
  · exact Int.not_lt.mp (fun h2 => h1 (Int64.lt_iff_toInt_lt.mpr h2))
theorem cmp_lt {x y : Int64} {v : Int32} (e : v = lg_cmp x y) (h : v < 0) : x.toInt < y.toInt := by
  by_cases h1 : x.toInt < y.toInt
  · exact h1
  · exfalso
    subst e
    unfold lg_cmp at h
    by_cases h2 : x > y
    · rw [if_pos h2] at h
      exact absurd h (by decide)
    · rw [if_neg h2] at h
      have h3 : x = y := by
        apply Int64.toInt_inj.mp
        have : ¬ y.toInt < x.toInt := fun h4 => h2 (Int64.lt_iff_toInt_lt.mpr h4)
        omega
      rw [if_pos h3] at h
      exact absurd h (by decide)
theorem cmp_gt {x y : Int64} {v : Int32} (e : v = lg_cmp x y) (h : 0 < v) : y.toInt < x.toInt := by
  by_cases h1 : y.toInt < x.toInt
  · exact h1
  · exfalso
    subst e
    unfold lg_cmp at h
    by_cases h2 : x > y
    · have := Int64.lt_iff_toInt_lt.mp h2
      omega
    · rw [if_neg h2] at h
      by_cases h3 : x = y
      · rw [if_pos h3] at h
        exact absurd h (by decide)
      · rw [if_neg h3] at h
        exact absurd h (by decide)
theorem nn_inc {i j r : Int32} (e : j = i + 1) (h : ¬ i < 0) (hr : ¬ r ≤ i) : ¬ j < 0 := by
  obtain ⟨h1, h2⟩ := mu_up hr
  subst e
  rw [Int32.lt_iff_toInt_lt] at h ⊢
  rw [h1]
  have h3 : (0 : Int32).toInt = 0 := by decide
  omega
theorem vcmp {x v : Int32} {n : Nat} (h0 : ¬ x < 0) (ev : v = nI n) (h1 : ¬ v ≤ x) (hn : n < 2 ^ 31) : vp_in x n := by
  subst ev
  exact in_cmp h0 h1 hn
theorem vin_le {x : Int32} {n : Nat} (h0 : ¬ x < 0) (h1 : x.toInt < (n : Int)) : vp_in x n := by
  rw [Int32.lt_iff_toInt_lt] at h0
  have h3 : (0 : Int32).toInt = 0 := by decide
  exact vp_in_iff.mpr ⟨by omega, h1⟩
theorem vin_of {x : Int32} {j n : Nat} (e : x = nI j) (h : j < n) (hn : n < 2 ^ 31) : vp_in x n := by
  subst e
  exact vp_in_nI h hn
theorem vin_int {x : Int32} {n : Nat} (h : vp_in x n) : x.toInt = (x.toNatClampNeg : Int) := by
  have h0 : ¬ x < 0 := fun h2 => h (Or.inl h2)
  obtain ⟨j, hj, rfl⟩ := nI_of h0
  rw [nI_clamp hj, nI_toInt hj]
/-- a child's place -/
theorem ch_in {N r : Nat} {τ : Nat → Nat → Int32} {b mn : Nat → Nat} (hT : TR N r τ b mn) (hN : N ≤ 4000) {x y v : Int32} (hk : vp_in x N) (hj : vp_in y (mn x.toNatClampNeg)) (e : v = nI (tX b x.toNatClampNeg y.toNatClampNeg - 1)) : vp_in v N ∧ v.toNatClampNeg < x.toNatClampNeg ∧ v.toNatClampNeg = tX b x.toNatClampNeg y.toNatClampNeg - 1 := by
  have h1 := ch_ge hT (vix hk) (vix hj)
  have h2 := vix hk
  subst e
  refine ⟨vp_in_nI (by omega) (by omega), ?_, ?_⟩
  · rw [nI_clamp (by omega)]; exact h1.2
  · rw [nI_clamp (by omega)]
theorem ch_step {N r : Nat} {τ : Nat → Nat → Int32} {b mn : Nat → Nat} (hT : TR N r τ b mn) (hN : N ≤ 4000) {k i : Nat} {c : Int32} (hk : k < N) (hi : i < mn k) (e : c = nI (tX b k i - 1)) : vp_in c N ∧ τ 5 c.toNatClampNeg = nI (tX b k (i + 1)) := by
  have h1 := ch_ge hT hk hi
  have h2 := (hT.2.1 k hk).2.2.1 i hi
  subst e
  refine ⟨vp_in_nI (by omega) (by omega), ?_⟩
  rw [nI_clamp (by omega), (hT.1 _ (by omega)).1]
  obtain ⟨m, hm⟩ : ∃ m, tX b k i = m + 1 := ⟨tX b k i - 1, by omega⟩
  rw [tX_s hm, hm]
  rfl
theorem nI_sub1 {n : Nat} (h : 1 ≤ n) : nI n - 1 = nI (n - 1) := by
  obtain ⟨m, rfl⟩ : ∃ m, n = m + 1 := ⟨n - 1, by omega⟩
  rw [nI_pred]
  rfl
theorem mn_of {N r : Nat} {τ : Nat → Nat → Int32} {b mn : Nat → Nat} (hT : TR N r τ b mn) {x v : Int32} (hk : vp_in x N) (ev : v = τ 4 x.toNatClampNeg) : v = nI (mn x.toNatClampNeg) ∧ mn x.toNatClampNeg ≤ 4000 := ⟨ev.trans (hT.2.1 _ (vix hk)).1, (hT.2.1 _ (vix hk)).2.1⟩
theorem mn_eq {N r : Nat} {τ : Nat → Nat → Int32} {b mn : Nat → Nat} (hT : TR N r τ b mn) {x v : Int32} {n : Nat} (hk : vp_in x N) (ev : v = τ 4 x.toNatClampNeg) (hv : v = nI n) (hn : n < 2 ^ 31) : mn x.toNatClampNeg = n := by
  obtain ⟨h1, h2⟩ := mn_of hT hk ev
  exact (nI_eq (by omega) hn).mp (h1.symm.trans hv)
theorem fd_3 {σ σ1 σ2 σ3 : Nat → Int32} {x y z n : Int32} (e1 : σ1 = upd σ 32 x) (e2 : σ2 = upd σ1 33 y) (e3 : σ3 = upd σ2 34 z) (h : ¬ x = 1 ∧ ¬ x = 2 ∧ (x = 4 → ¬ 12 ≤ n)) (hy : y = n ∨ ¬ 11 < y) : FD σ3 := by
  subst e1 e2 e3
  unfold FD
  rw [pk_un (j := 32) (by decide), pk_un (j := 32) (by decide), pk_us, pk_un (j := 33) (by decide), pk_us]
  refine ⟨fun h2 => absurd h2 h.1, fun h2 => absurd h2 h.2.1, fun h2 => ?_⟩
  rcases hy with h3 | h3
  · subst h3
    intro h4
    have h5 := h.2.2 h2
    rw [Int32.le_iff_toInt_le] at h5
    rw [Int32.lt_iff_toInt_lt] at h4
    have e1 : (12 : Int32).toInt = 12 := by decide
    have e2 : (11 : Int32).toInt = 11 := by decide
    omega
  · exact h3
theorem fd_nm {τ : Nat → Nat → Int32} {σ σ1 σ2 σ3 : Nat → Int32} {x y z : Int32} {k : Nat} (hN : NM τ) (hk : k < 3000) (ex : x = τ 26 k) (ey : y = τ 27 k) (e1 : σ1 = upd σ 32 x) (e2 : σ2 = upd σ1 33 y) (e3 : σ3 = upd σ2 34 z) : FD σ3 := by
  subst e1 e2 e3 ex ey
  unfold FD
  rw [pk_un (j := 32) (by decide), pk_un (j := 32) (by decide), pk_us, pk_un (j := 33) (by decide), pk_us]
  exact hN k hk
theorem slt_fact {F F1 F2 F3 F4 F5 : Nat → Nat → Int32} {nu nu5 : Nat → Int64} {k : Nat} {c n z w : Int32} {v : Int64} (e1 : F1 = Au F 9 k c) (e2 : F2 = Au F1 10 k n) (e3 : F3 = Au F2 11 k z) (e4 : F4 = Au F3 12 k w) (hE : EQ14 F4 F5) (en : nu5 = vp_updL nu k v) : SLT k c n v F nu F5 nu5 ∧ F5 11 = upd (F 11) k z := by
  subst e1 e2 e3 e4 en
  refine ⟨⟨?_, ?_, rfl⟩, ?_⟩
  · rw [hE 9 (by decide), au_n (by decide), au_n (by decide), au_n (by decide), au_s]
  · rw [hE 10 (by decide), au_n (by decide), au_n (by decide), au_s, au_n (by decide)]
  · rw [hE 11 (by decide), au_n (by decide), au_s, au_n (by decide), au_n (by decide)]
theorem au_10 {F F1 : Nat → Nat → Int32} {k i : Nat} {c : Int32} (e1 : F1 = Au F 9 k c) : F1 10 i = F 10 i := by
  rw [e1, au_n (by decide)]
theorem vsz {F : Nat → Nat → Int32} {f : Nat} {i v : Int32} (hZ : SZ F) (hf : f < 10000) (ev : v = F 10 f) (h0 : ¬ i < 0) (h1 : ¬ v ≤ i) : vp_in i 1000 := by
  obtain ⟨j, hj, e⟩ := hZ f hf
  exact vin (vcmp h0 (ev.trans e) h1 (by omega)) hj
theorem ft_row {τ : Nat → Nat → Int32} (hTY : TY τ) {t w v : Int32} (ht : vp_in t 1000) (e1 : w = τ 16 t.toNatClampNeg) (h : w = 3) (e2 : v = τ 19 t.toNatClampNeg) : ∃ j, j ≤ 1000 ∧ v = nI j := by
  obtain ⟨_, _, cn, _, _, h3, _, _, _, _, h8, _⟩ := hTY _ (vix ht) (e1.symm.trans h)
  exact ⟨cn, by omega, e2.trans h3⟩
theorem ob_in {τ : Nat → Nat → Int32} (hOB : OB τ) {v w : Int32} (hv : vp_in v 2000) (ew : w = τ 23 v.toNatClampNeg) : vp_in w 1000 := by
  obtain ⟨t, h1, h2⟩ := hOB _ (vix hv)
  exact vin_of (ew.trans h2) h1 (by omega)
theorem ro_ok {τ : Nat → Nat → Int32} {σ : Nat → Int32} (hOB : OB τ) {o : Nat} {v w z : Int32} (ho : o < 2000) (hoe : σ 33 = nI o) (ev : v = σ 33) (ew : w = τ 23 v.toNatClampNeg) (ez : z = τ 16 w.toNatClampNeg) (hz : z = 3) : ∃ o t, o < 2000 ∧ t < 1000 ∧ σ 33 = nI o ∧ τ 23 o = nI t ∧ τ 16 t = 3 := by
  have h1 : v.toNatClampNeg = o := by rw [ev, hoe, nI_clamp (by omega)]
  obtain ⟨t, h2, h3⟩ := hOB o ho
  have h4 : w.toNatClampNeg = t := by rw [ew, h1, h3, nI_clamp (by omega)]
  exact ⟨o, t, ho, h2, hoe, h3, by rw [← h4, ← ez]; exact hz⟩
theorem slt9 {k : Nat} {c n : Int32} {v : Int64} {F F' : Nat → Nat → Int32} {nu nu' : Nat → Int64} (h : SLT k c n v F nu F' nu') : F' 9 k = c := by rw [h.1, pk_us]
theorem slt9n {k j : Nat} {c n : Int32} {v : Int64} {F F' : Nat → Nat → Int32} {nu nu' : Nat → Int64} (h : SLT k c n v F nu F' nu') (hj : j ≠ k) : F' 9 j = F 9 j := by rw [h.1, pk_un hj]
theorem sltnn {k j : Nat} {c n : Int32} {v : Int64} {F F' : Nat → Nat → Int32} {nu nu' : Nat → Int64} (h : SLT k c n v F nu F' nu') (hj : j ≠ k) : nu' j = nu j := by rw [h.2.2]; exact if_neg hj
theorem GK.copy {k f : Nat} {n : Int32} {F F' : Nat → Nat → Int32} {nu nu' : Nat → Int64} (h : SLT k (F 9 f) n (nu f) F nu F' nu') (hg : GK f F nu) : GK k F' nu' := by
  intro h2
  rw [slt9 h] at h2
  rw [h.2.2]
  show -2147483648 < (if k = k then nu f else nu k).toInt ∧ (if k = k then nu f else nu k).toInt < 2147483648
  rw [if_pos rfl]
  exact hg h2
theorem vin8 {v w : Int32} (hv : vp_in v 2000) (e : w = 8000 + v) : vp_in w 10000 ∧ w.toNatClampNeg = 8000 + v.toNatClampNeg := by
  have h1 := vix hv
  rw [vnI hv] at e
  have e2 : w = nI (8000 + v.toNatClampNeg) := e.trans (nI_add 8000 _)
  exact ⟨vin_of e2 (by omega) (by omega), by rw [e2, nI_clamp (by omega)]⟩
theorem SL.kn {k : Nat} {F F' : Nat → Nat → Int32} {nu nu' : Nat → Int64} (h : EQ14 F F') (hn : nu' = nu ∨ nu' = vp_updL nu k 0) : SL k F nu F' nu' := by
  rcases hn with h1 | h1
  · subst h1; exact SL.e14 h
  · subst h1; exact (SL.e14 h).trans SL.num
theorem GK.kn {k : Nat} {F F' : Nat → Nat → Int32} {nu nu' : Nat → Int64} (hg : GK k F nu) (h : EQ14 F F') (hn : nu' = nu ∨ nu' = vp_updL nu k 0) : GK k F' nu' := by
  rcases hn with h1 | h1
  · subst h1; exact hg.e14 h
  · subst h1; exact GK.num (fun _ => by decide)
theorem ib_ok {x : Int64} {v w : Int32} (e1 : v = lg_cmp x 2147483647) (h1 : ¬ 0 < v) (e2 : w = lg_cmp x (-2147483647)) (h2 : 0 ≤ w) : -2147483648 < x.toInt ∧ x.toInt < 2147483648 := by
  have h3 := cmp_le e1 h1
  have h4 := cmp_ge e2 (Int32.not_lt.mpr h2)
  have h5 : (2147483647 : Int64).toInt = 2147483647 := by decide
  have h6 : (-2147483647 : Int64).toInt = -2147483647 := by decide
  omega
theorem vp0 {n : Nat} (h : 0 < n) (h2 : n < 2 ^ 31) : vp_in 0 n := vp_in_nI (n := 0) h h2
theorem vp1 {n : Nat} (h : 1 < n) (h2 : n < 2 ^ 31) : vp_in 1 n := vp_in_nI (n := 1) h h2
theorem wi_ok {τ : Nat → Nat → Int32} {x : Int64} {t : Nat} {v w y z : Int32} {y2 z2 : Int64} {a1 a2 b1 b2 : Int32} (ea1 : a1 = τ 17 t) (ea2 : a2 = τ 18 t) (eb1 : b1 = τ 17 t) (eb2 : b2 = τ 18 t) (ey : y = if a2 < a1 then a2 else a1) (ez : z = if b1 < b2 then b2 else b1) (ey2 : y2 = y.toInt64) (ez2 : z2 = z.toInt64) (ev : v = lg_cmp x y2) (hv : ¬ v < 0) (ew : w = lg_cmp x z2) (hw : ¬ 0 < w) : ∀ lo hi : Nat, τ 17 t = nI lo → τ 18 t = nI hi → lo < 2 ^ 31 → hi < 2 ^ 31 → (lo : Int) ≤ x.toInt ∧ x.toInt ≤ (hi : Int) ∨ (hi : Int) ≤ x.toInt ∧ x.toInt ≤ (lo : Int) := by
  intro lo hi h1 h2 h3 h4
  have h5 := cmp_ge ev hv
  have h6 := cmp_le ew hw
  subst ea1 ea2 eb1 eb2
  rw [ey2, Int32.toInt_toInt64] at h5
  rw [ez2, Int32.toInt_toInt64] at h6
  rw [h1, h2] at ey ez
  by_cases h7 : hi < lo
  · rw [if_pos (nI_lt h7 h3)] at ey
    rw [if_neg (nI_nlt (Nat.le_of_lt h7) h3)] at ez
    rw [ey, nI_toInt h4] at h5
    rw [ez, nI_toInt h3] at h6
    exact Or.inr ⟨h5, h6⟩
  · rw [if_neg (nI_nlt (Nat.not_lt.mp h7) h4)] at ey
    rw [ey, nI_toInt h3] at h5
    refine Or.inl ⟨h5, ?_⟩
    by_cases h8 : lo < hi
    · rw [if_pos (nI_lt h8 h4)] at ez
      rw [ez, nI_toInt h4] at h6
      exact h6
    · rw [if_neg (nI_nlt (Nat.not_lt.mp h8) h3)] at ez
      rw [ez, nI_toInt h3] at h6
      omega
theorem sz_pred {F : Nat → Nat → Int32} {f : Nat} {v : Int32} (hZ : SZ F) (hf : f < 10000) (ev : v = F 10 f) : (v - 1).toInt < 1000 := by
  obtain ⟨j, hj, e⟩ := hZ f hf
  rw [ev, e]
  have := pr_lt (N := j) (by omega)
  omega
theorem i0_int {x : Int32} (h : ¬ x < 0) : 0 ≤ x.toInt := by
  rw [Int32.lt_iff_toInt_lt] at h
  have h3 : (0 : Int32).toInt = 0 := by decide
  omega
theorem mn_eq1 {N r : Nat} {τ : Nat → Nat → Int32} {b mn : Nat → Nat} (hT : TR N r τ b mn) {x v : Int32} (hk : vp_in x N) (ev : v = τ 4 x.toNatClampNeg) (hv : v = 1) : mn x.toNatClampNeg = 1 := mn_eq hT hk ev (n := 1) hv (by omega)
theorem mn_eq2 {N r : Nat} {τ : Nat → Nat → Int32} {b mn : Nat → Nat} (hT : TR N r τ b mn) {x v : Int32} (hk : vp_in x N) (ev : v = τ 4 x.toNatClampNeg) (hv : v = 2) : mn x.toNatClampNeg = 2 := mn_eq hT hk ev (n := 2) hv (by omega)
theorem gk_eq {F F1 : Nat → Nat → Int32} {nu nu1 : Nat → Int64} {k a : Nat} {c n w d : Int32} {v : Int64} (hq : SLT k c n v F nu F1 nu1) (ec : c = F 9 a) (ha : a < k) (ew : w = F1 9 a) (hw : w = d) (hd : ¬ d = 2) : ¬ F1 9 k = 2 := by
  rw [slt9 hq, ec, ← slt9n hq (Nat.ne_of_lt ha), ← ew, hw]
  exact hd
theorem gk_ne {F F1 : Nat → Nat → Int32} {nu nu1 : Nat → Int64} {k a : Nat} {c n w : Int32} {v : Int64} (hq : SLT k c n v F nu F1 nu1) (ec : c = F 9 a) (ha : a < k) (ew : w = F1 9 a) (hw : ¬ w = 2) : ¬ F1 9 k = 2 := by
  rw [slt9 hq, ec, ← slt9n hq (Nat.ne_of_lt ha), ← ew]
  exact hw
theorem gk_neg {F F1 : Nat → Nat → Int32} {nu nu1 : Nat → Int64} {k a : Nat} {c n : Int32} {v w x : Int64} (hq : SLT k c n v F nu F1 nu1) (ec : c = F 9 a) (ha : a < k) (hg : GK a F nu) (ew : w = nu1 a) (hx : x = w ∨ x = -w) : F1 9 k = 2 → -2147483648 < x.toInt ∧ x.toInt < 2147483648 := by
  intro h
  rw [slt9 hq, ec] at h
  have h1 := hg h
  rw [sltnn hq (Nat.ne_of_lt ha)] at ew
  rcases hx with h2 | h2
  · rw [h2, ew]; exact h1
  · rw [h2, ew, Int64.toInt_neg]
    have h3 : (-(nu a).toInt).bmod (2 ^ 64) = -(nu a).toInt := Int.bmod_eq_of_le (by omega) (by omega)
    rw [h3]
    omega
theorem jn_ok {p q v1 v2 : Int32} (hp : ∃ j, j ≤ 1000 ∧ p = nI j) (hq : ∃ j, j ≤ 1000 ∧ q = nI j) (e1 : v1 = p + q) (h : v1 ≤ 64) (e2 : v2 = p + q) : ∃ j, j ≤ 1000 ∧ v2 = nI j := by
  obtain ⟨j1, h1, rfl⟩ := hp
  obtain ⟨j2, h2, rfl⟩ := hq
  rw [nI_add] at e1 e2
  subst e1
  have h3 : j1 + j2 ≤ 64 := (nI_leI (by omega) (by omega)).mp h
  exact ⟨j1 + j2, by omega, e2⟩
theorem vle {i q : Int32} (hq : ∃ j, j ≤ 1000 ∧ q = nI j) (h0 : ¬ i < 0) (h1 : ¬ q ≤ i) : vp_in i 1000 := by
  obtain ⟨j, h2, e⟩ := hq
  exact vin (vcmp h0 e h1 (by omega)) h2
theorem vadd {i q v : Int32} (hq : ∃ j, j ≤ 1000 ∧ q = nI j) (hi : vp_in i 1000) (e : v = q + i) : vp_in v 2000 := by
  obtain ⟨j, h2, rfl⟩ := hq
  have h1 := vix hi
  rw [vnI hi, nI_add] at e
  exact vin_of e (by omega) (by omega)
theorem l2i_in {w : Int64} {v : Int32} {n : Nat} (ev : v = w.toInt32) (h0 : 0 ≤ w.toInt) (h1 : w.toInt < (n : Int)) (hn : n < 2 ^ 31) : vp_in v n := by
  have h2 : v.toInt = w.toInt := by
    rw [ev, Int64.toInt_toInt32]
    exact Int.bmod_eq_of_le (by omega) (by omega)
  exact vp_in_iff.mpr ⟨by omega, by omega⟩
theorem sh_in {w s64 : Int64} {c1 c2 s v : Int32} (e1 : c1 = lg_cmp w 0) (h1 : ¬ c1 < 0) (es : s64 = s.toInt64) (hs : ∃ j, j ≤ 1000 ∧ s = nI j) (e2 : c2 = lg_cmp w s64) (h2 : ¬ 0 ≤ c2) (ev : v = w.toInt32) : vp_in v 1000 := by
  have h3 := cmp_ge e1 h1
  have h4 := cmp_lt e2 (Int32.not_le.mp h2)
  obtain ⟨j, h5, rfl⟩ := hs
  rw [es, Int32.toInt_toInt64, nI_toInt (by omega)] at h4
  have h6 : (0 : Int64).toInt = 0 := by decide
  exact l2i_in ev (by omega) (by omega) (by omega)
theorem ap_ok {F F1 : Nat → Nat → Int32} {k : Nat} {t v : Int32} {P : Prop} (ev : v = F1 11 k) (hc : F1 11 = upd (F 11) k (vp_nar .boolean t)) (hv : ¬ v = 0) (ht : t = 0 ∨ P) : P := by
  rcases ht with h | h
  · exfalso
    apply hv
    rw [ev, hc, pk_us, h]
    rfl
  · exact h
theorem lsub_int {x y d : Int64} (e : d = x - y) (h1 : -4294967296 ≤ x.toInt) (h2 : x.toInt ≤ 4294967296) (h3 : -4294967296 ≤ y.toInt) (h4 : y.toInt ≤ 4294967296) : d.toInt = x.toInt - y.toInt := by
  rw [e, Int64.toInt_sub]
  exact Int.bmod_eq_of_le (by omega) (by omega)
theorem ladd_int {x y d : Int64} (e : d = x + y) (h1 : -8589934592 ≤ x.toInt) (h2 : x.toInt ≤ 8589934592) (h3 : -8589934592 ≤ y.toInt) (h4 : y.toInt ≤ 8589934592) : d.toInt = x.toInt + y.toInt := by
  rw [e, Int64.toInt_add]
  exact Int.bmod_eq_of_le (by omega) (by omega)
theorem hi_int {h : Int32} {w : Int64} {z : Int32} {hi : Nat} (eh : h = z) (ez : z = nI hi) (ew : w = h.toInt64) (hh : hi < 2 ^ 31) : w.toInt = (hi : Int) := by
  rw [ew, Int32.toInt_toInt64, eh, ez, nI_toInt hh]
theorem f11 {x : Int32} (h1 : 10 ≤ x) (h2 : ¬ x = 10) (h3 : ¬ 11 < x) : x = 11 := by
  apply Int32.toInt_inj.mp
  have h4 : x.toInt ≠ 10 := fun h => h2 (Int32.toInt_inj.mp h)
  rw [Int32.le_iff_toInt_le] at h1
  rw [Int32.lt_iff_toInt_lt] at h3
  have e1 : (10 : Int32).toInt = 10 := by decide
  have e2 : (11 : Int32).toInt = 11 := by decide
  omega
theorem nb_ok {x : Int64} {v w : Int32} (e1 : v = lg_cmp x 0) (h1 : ¬ v < 0) (e2 : w = lg_cmp x 2147483647) (h2 : w ≤ 0) : -2147483648 < x.toInt ∧ x.toInt < 2147483648 := by
  have h3 := cmp_ge e1 h1
  have h4 := cmp_le e2 (Int32.not_lt.mpr h2)
  have h5 : (2147483647 : Int64).toInt = 2147483647 := by decide
  have h6 : (0 : Int64).toInt = 0 := by decide
  omega
theorem fb_ok {F : Nat → Nat → Int32} {nu : Nat → Int64} {b : Nat} {v i : Int32} {n : Int64} (h : F 11 b = 0 ∨ (1 ≤ (nu b).toInt ∧ (nu b).toInt ≤ 64)) (ev : v = F 11 b) (hv : ¬ v = 0) (en : n = nu b) (ei : i = n.toInt32) : ∃ j, j ≤ 1000 ∧ i = nI j := by
  have h1 := h.resolve_left (fun h2 => hv (ev.trans h2))
  rw [← en] at h1
  have h2 := l2i_in (n := 65) ei (by omega) (by omega) (by omega)
  have h3 := vix h2
  exact ⟨_, by omega, vnI h2⟩
theorem c_ge1 {x : Int64} {v : Int32} (e : v = lg_cmp x 1) (h : ¬ v < 0) : 1 ≤ x.toInt := by
  have h1 := cmp_ge e h
  have h2 : (1 : Int64).toInt = 1 := by decide
  omega
theorem c_le64 {x : Int64} {v : Int32} (e : v = lg_cmp x 64) (h : v ≤ 0) : x.toInt ≤ 64 := by
  have h1 := cmp_le e (Int32.not_lt.mpr h)
  have h2 : (64 : Int64).toInt = 64 := by decide
  omega
theorem vb_ok {v v2 z : Int32} {w : Int64} (ew : w = v.toInt64) (ev : v = z) (ev2 : v2 = z) (h : 0 ≤ v2) : -2147483648 < w.toInt ∧ w.toInt < 2147483648 := by
  rw [ew, Int32.toInt_toInt64, ev, ← ev2]
  rw [Int32.le_iff_toInt_le] at h
  have h1 : v2.toInt ≤ 2147483647 := by have h9 := Int32.toInt_le v2; rw [show Int32.maxValue.toInt = 2147483647 by decide] at h9; exact h9
  have e1 : (0 : Int32).toInt = 0 := by decide
  omega
theorem at_b {v : Int32} {w : Int64} (ew : w = v.toInt64) (hv : ∃ j, j < 2 ^ 31 ∧ v = nI j) : -2147483648 < w.toInt ∧ w.toInt < 2147483648 := by
  obtain ⟨j, h1, rfl⟩ := hv
  rw [ew, Int32.toInt_toInt64, nI_toInt h1]
  omega
theorem at_if {a b v : Int32} {P : Prop} {_ : Decidable P} (e : v = if P then a else b) (ha : ∃ j, j < 2 ^ 31 ∧ a = nI j) (hb : ∃ j, j < 2 ^ 31 ∧ b = nI j) : ∃ j, j < 2 ^ 31 ∧ v = nI j := by
  by_cases h : P
  · rw [if_pos h] at e; rw [e]; exact ha
  · rw [if_neg h] at e; rw [e]; exact hb
theorem pr_in {N r : Nat} {τ : Nat → Nat → Int32} {b mn : Nat → Nat} (hT : TR N r τ b mn) (hN : N ≤ 4000) {x v : Int32} (hk : vp_in x N) (hm : 0 < mn x.toNatClampNeg) (e : v = x - 1) : vp_in v N := by
  have h1 := (hT.2.1 _ (vix hk)).2.2.1 0 hm
  have h3 := vix hk
  have h2 : v = nI (x.toNatClampNeg - 1) := by
    rw [e]
    have h9 := nI_sub1 (n := x.toNatClampNeg) h1
    rw [← vnI hk] at h9
    exact h9
  exact vin_of h2 (by omega) (by omega)
theorem bl_b {τ : Nat → Nat → Int32} {N r : Nat} {b mn : Nat → Nat} (hT : TR N r τ b mn) (hN : N ≤ 4000) {x i v : Int32} (hx : vp_in x N) (hi : vp_in i N) (ev : v = τ 5 i.toNatClampNeg) : v = nI (b i.toNatClampNeg) ∧ (x < v ↔ x.toNatClampNeg < b i.toNatClampNeg) := by
  obtain ⟨h1, h2⟩ := hT.1 _ (vix hi)
  have h3 := vix hx
  have h4 := vix hi
  have e := ev.trans h1
  refine ⟨e, ?_⟩
  have h5 : x < v ↔ nI x.toNatClampNeg < nI (b i.toNatClampNeg) := by rw [← vnI hx, ← e]
  exact h5.trans (nI_ltI (by omega) (by omega))
/-- both ends of a slice -/
theorem sl_ok {lo hi : Nat} {x y n : Int64} {g dn : Int32} (hlo : lo < 2 ^ 31) (hhi : hi < 2 ^ 31) (h1 : lo ≤ hi + 63) (h2 : hi ≤ lo + 63) (hu : dn = 0 → lo ≤ hi) (hd : ¬ dn = 0 → hi ≤ lo) (hg : g = dn)
    (hx : (lo : Int) ≤ x.toInt ∧ x.toInt ≤ (hi : Int) ∨ (hi : Int) ≤ x.toInt ∧ x.toInt ≤ (lo : Int)) (hy : (lo : Int) ≤ y.toInt ∧ y.toInt ≤ (hi : Int) ∨ (hi : Int) ≤ y.toInt ∧ y.toInt ≤ (lo : Int))
    (hn : (¬ g = 0 ∧ n = x - y + 1) ∨ (g = 0 ∧ n = y - x + 1)) (hp : 1 ≤ n.toInt) : n.toInt ≤ 64 ∧ ((¬ g = 0 ∧ (hi : Int) ≤ y.toInt ∧ y.toInt - hi + n.toInt ≤ 64) ∨ (g = 0 ∧ y.toInt ≤ (hi : Int) ∧ (hi : Int) - y.toInt + n.toInt ≤ 64)) := by
  have e1 : (1 : Int64).toInt = 1 := by decide
  rcases hn with ⟨h3, h4⟩ | ⟨h3, h4⟩
  · have h5 := lsub_int (x := x) (y := y) rfl (by omega) (by omega) (by omega) (by omega)
    have h6 := ladd_int (x := x - y) (y := 1) h4 (by omega) (by omega) (by omega) (by omega)
    have h7 := hd (by rw [← hg]; exact h3)
    refine ⟨by omega, Or.inl ⟨h3, by omega, by omega⟩⟩
  · have h5 := lsub_int (x := y) (y := x) rfl (by omega) (by omega) (by omega) (by omega)
    have h6 := ladd_int (x := y - x) (y := 1) h4 (by omega) (by omega) (by omega) (by omega)
    have h7 := hu (by rw [← hg]; exact h3)
    refine ⟨by omega, Or.inr ⟨h3, by omega, by omega⟩⟩
theorem sz_of {n : Int64} {v : Int32} (h1 : 1 ≤ n.toInt) (h2 : n.toInt ≤ 64) (e : v = n.toInt32) : ∃ j, j ≤ 1000 ∧ v = nI j := by
  have h3 := l2i_in (n := 65) e (by omega) (by omega) (by omega)
  have h4 := vix h3
  exact ⟨_, by omega, vnI h3⟩
theorem sl_j {j w : Int32} {j64 n : Int64} (h0 : ¬ j < 0) (ej : j64 = j.toInt64) (e : w = lg_cmp j64 n) (h : ¬ 0 ≤ w) (hn : n.toInt ≤ 64) : vp_in j 64 ∧ j.toInt < 2147483647 ∧ j.toInt < n.toInt := by
  have h1 := cmp_lt e (Int32.not_le.mp h)
  rw [ej, Int32.toInt_toInt64] at h1
  have h2 := i0_int h0
  exact ⟨vin_le h0 (by omega), by omega, h1⟩
theorem sl_e {l j v : Int32} {d n : Int64} (el : l = d.toInt32) (hd : 0 ≤ d.toInt) (hs : d.toInt + n.toInt ≤ 64) (hj : vp_in j 64) (hjn : j.toInt < n.toInt) (ev : v = l + j) : vp_in v 64 := by
  have h1 := vin_int hj
  have h0 := l2i_in (n := 64) el hd (by omega) (by omega)
  have h2 := vix h0
  have h3 := vin_int h0
  have h5 : l.toInt = d.toInt := by
    rw [el, Int64.toInt_toInt32]
    exact Int.bmod_eq_of_le (by omega) (by omega)
  rw [vnI h0, vnI hj, nI_add] at ev
  exact vin_of ev (by omega) (by omega)
theorem bl_e {A A2 : Nat} {i x : Int32} (hA0 : 0 < A) (e : i = nI A) (hA : A ≤ 4000) (h : x < i) (h2 : A2 ≤ x.toNatClampNeg) : A2 < A := by
  rw [Int32.lt_iff_toInt_lt, e, nI_toInt (by omega)] at h
  by_cases h0 : x < 0
  · have h1 : x.toNatClampNeg = 0 := by
      rw [Int32.lt_iff_toInt_lt] at h0
      have e0 : (0 : Int32).toInt = 0 := by decide
      rw [← Int32.toNat_toInt]
      omega
    omega
  · obtain ⟨j, hj, rfl⟩ := nI_of h0
    rw [nI_clamp hj] at h2
    rw [nI_toInt hj] at h
    omega
theorem lr_64 {v : Int32} {n : Nat} (e : v = nI n) (hn : n < 2 ^ 31) (h : ¬ 64 < v) : n ≤ 64 := by
  subst e
  exact Nat.not_lt.mp (fun h9 => h ((nI_ltI (a := 64) (b := n) (by omega) hn).mpr h9))
theorem bl_0 {τ : Nat → Nat → Int32} {b : Nat → Nat} {k to A : Nat} {i : Int32} (h : (i = 0 ∧ ∀ q, k < q → q < A → ¬ (τ 2 q = 25 ∧ b q ≤ k)) ∨ (i = 1 ∧ hid τ b k to)) (h0 : i = 0) : ∀ q, k < q → q < A → ¬ (τ 2 q = 25 ∧ b q ≤ k) := by
  rcases h with ⟨_, h1⟩ | ⟨h1, _⟩
  · exact h1
  · exact absurd (h0.symm.trans h1) (by decide)
theorem bl_1 {τ : Nat → Nat → Int32} {b : Nat → Nat} {k to A : Nat} {i : Int32} (h : (i = 0 ∧ ∀ q, k < q → q < A → ¬ (τ 2 q = 25 ∧ b q ≤ k)) ∨ (i = 1 ∧ hid τ b k to)) (h0 : ¬ i = 0) : hid τ b k to := by
  rcases h with ⟨h1, _⟩ | ⟨_, h1⟩
  · exact absurd h1 h0
  · exact h1
theorem bl_z {P Q : Prop} {i : Int32} (h : (i = 0 ∧ P) ∨ (i = 1 ∧ Q)) : narrow .boolean (.int i) = .int i := by
  rcases h with ⟨h1, _⟩ | ⟨h1, _⟩ <;> rw [h1] <;> rfl
theorem bl_end {τ : Nat → Nat → Int32} {b : Nat → Nat} {k A : Nat} {i x i4 : Int32} (h : (i = 0 ∧ ∀ q, k < q → q < A → ¬ (τ 2 q = 25 ∧ b q ≤ k)) ∨ (i = 1 ∧ hid τ b k x.toNatClampNeg)) (hk : k < A) (e : i4 = nI A) (hA : A ≤ 4000) (hx : x < i4) : (i = 0 ∧ ¬ hid τ b k x.toNatClampNeg) ∨ (i = 1 ∧ hid τ b k x.toNatClampNeg) := by
  rcases h with ⟨h1, h2⟩ | h1
  · refine Or.inl ⟨h1, ?_⟩
    rintro ⟨a, w1, w2, w3, w4⟩
    exact h2 a w1 (bl_e (by omega) e hA hx w2) ⟨w3, w4⟩
  · exact Or.inr h1
theorem bl_bk {τ : Nat → Nat → Int32} {b : Nat → Nat} {k to A : Nat} {i t i4 : Int32} (h45 : (t = 0 ∧ i = 0 ∧ ¬ (τ 2 i4.toNatClampNeg = 25 ∧ b i4.toNatClampNeg ≤ k)) ∨ (t = 1 ∧ hid τ b k to)) (h : (i = 0 ∧ ∀ q, k < q → q < A → ¬ (τ 2 q = 25 ∧ b q ≤ k)) ∨ (i = 1 ∧ hid τ b k to)) (e : i4.toNatClampNeg = A) : (t = 0 ∧ ∀ q, k < q → q < A + 1 → ¬ (τ 2 q = 25 ∧ b q ≤ k)) ∨ (t = 1 ∧ hid τ b k to) := by
  rcases h45 with ⟨q1, q2, q3⟩ | h1
  · refine Or.inl ⟨q1, fun q h8 h9 => ?_⟩
    rcases Nat.lt_or_ge q A with h7 | h7
    · exact bl_0 h q2 q h8 h7
    · have h6 : q = A := by omega
      rw [e] at q3
      rw [h6]
      exact q3
  · exact Or.inr h1
theorem bl_8 {N : Nat} {i x : Int32} (hi : vp_in i N) (h : i.toInt ≤ x.toInt) (hx : x.toInt < (N : Int)) : i.toNatClampNeg ≤ x.toNatClampNeg := by
  have h1 := vin_int hi
  have h2 : vp_in x N := vp_in_iff.mpr ⟨by omega, hx⟩
  have h3 := vin_int h2
  omega
theorem i_le {x y : Int32} (h : ¬ y < x) : x.toInt ≤ y.toInt := by
  have h9 := Int32.not_lt.mp h
  rw [Int32.le_iff_toInt_le] at h9
  exact h9
theorem lf_mn {N r : Nat} {τ : Nat → Nat → Int32} {b mn : Nat → Nat} (hT : TR N r τ b mn) {x v t f : Int32} (hk : vp_in x N) (ev : v = τ 4 x.toNatClampNeg) (hv : v = t) {P : Prop} (ht : (t = 2 ∧ f = 11 ∧ P) ∨ (t = 1 ∧ ¬ f = 11)) : (0 < mn x.toNatClampNeg ∧ mn x.toNatClampNeg ≤ 4000) ∧ (f = 11 → mn x.toNatClampNeg = 2) := by
  have h0 := (mn_of hT hk ev).2
  rcases ht with ⟨h1, h2, _⟩ | ⟨h1, h2⟩
  · have h3 := mn_eq2 hT hk ev (hv.trans h1)
    exact ⟨by omega, fun _ => h3⟩
  · have h3 := mn_eq1 hT hk ev (hv.trans h1)
    exact ⟨by omega, fun h => absurd h h2⟩
theorem ap_d1 {lo hi : Nat} {a h64 m h642 m2 d : Int64} {q : Int32} (hlo : lo < 2 ^ 31) (hhi : hi < 2 ^ 31) (hd1 : lo ≤ hi + 63) (hd2 : hi ≤ lo + 63) (hw : (lo : Int) ≤ a.toInt ∧ a.toInt ≤ (hi : Int) ∨ (hi : Int) ≤ a.toInt ∧ a.toInt ≤ (lo : Int)) (eh : h64.toInt = (hi : Int)) (em : m = a) (eq : q = lg_cmp h64 m) (hq : ¬ q ≤ 0) (eh2 : h642.toInt = (hi : Int)) (em2 : m2 = a) (ed : d = h642 - m2) : 0 ≤ d.toInt ∧ d.toInt ≤ 63 := by
  subst em em2
  have h1 := cmp_gt eq (Int32.not_le.mp hq)
  have h2 := lsub_int ed (by omega) (by omega) (by omega) (by omega)
  omega
theorem ap_d2 {lo hi : Nat} {a h64 m h642 m2 d : Int64} {q : Int32} (hlo : lo < 2 ^ 31) (hhi : hi < 2 ^ 31) (hd1 : lo ≤ hi + 63) (hd2 : hi ≤ lo + 63) (hw : (lo : Int) ≤ a.toInt ∧ a.toInt ≤ (hi : Int) ∨ (hi : Int) ≤ a.toInt ∧ a.toInt ≤ (lo : Int)) (eh : h64.toInt = (hi : Int)) (em : m = a) (eq : q = lg_cmp h64 m) (hq : q ≤ 0) (eh2 : h642.toInt = (hi : Int)) (em2 : m2 = a) (ed : d = m2 - h642) : 0 ≤ d.toInt ∧ d.toInt ≤ 63 := by
  subst em em2
  have h1 := cmp_le eq (Int32.not_lt.mpr hq)
  have h2 := lsub_int ed (by omega) (by omega) (by omega) (by omega)
  omega
theorem sl_d1 {hi : Nat} {y n y1 h d : Int64} {g : Int32} (hhi : hi < 2 ^ 31) (hs : (¬ g = 0 ∧ (hi : Int) ≤ y.toInt ∧ y.toInt - hi + n.toInt ≤ 64) ∨ (g = 0 ∧ y.toInt ≤ (hi : Int) ∧ (hi : Int) - y.toInt + n.toInt ≤ 64)) (hg : ¬ g = 0) (ey : y1 = y) (eh : h.toInt = (hi : Int)) (ed : d = y1 - h) (hn : 1 ≤ n.toInt) : 0 ≤ d.toInt ∧ d.toInt + n.toInt ≤ 64 := by
  subst ey
  rcases hs with ⟨_, h1, h2⟩ | ⟨h1, _⟩
  · have h3 := lsub_int ed (by omega) (by omega) (by omega) (by omega)
    omega
  · exact absurd h1 hg
theorem sl_d2 {hi : Nat} {y n y1 h d : Int64} {g : Int32} (hhi : hi < 2 ^ 31) (hs : (¬ g = 0 ∧ (hi : Int) ≤ y.toInt ∧ y.toInt - hi + n.toInt ≤ 64) ∨ (g = 0 ∧ y.toInt ≤ (hi : Int) ∧ (hi : Int) - y.toInt + n.toInt ≤ 64)) (hg : g = 0) (ey : y1 = y) (eh : h.toInt = (hi : Int)) (ed : d = h - y1) (hn : 1 ≤ n.toInt) : 0 ≤ d.toInt ∧ d.toInt + n.toInt ≤ 64 := by
  subst ey
  rcases hs with ⟨h1, _⟩ | ⟨_, h1, h2⟩
  · exact absurd hg h1
  · have h3 := lsub_int ed (by omega) (by omega) (by omega) (by omega)
    omega
theorem nn_inc2 {i j : Int32} (e : j = i + 1) (h : ¬ i < 0) (hr : i.toInt < 2147483647) : ¬ j < 0 := by
  have h1 := mu_lt hr
  subst e
  rw [Int32.lt_iff_toInt_lt] at h ⊢
  rw [h1]
  have h3 : (0 : Int32).toInt = 0 := by decide
  omega
-- passes over trees
theorem gt_a {τ : Nat → Nat → Int32} {b : Nat → Nat} {f k to : Nat} {F : Nat → Nat → Int32} {nu : Nat → Int64} (h : ∀ j, f ≤ j → j < k → ¬ hid τ b j to → GK j F nu) (hh : hid τ b k to) : ∀ j, f ≤ j → j < k + 1 → ¬ hid τ b j to → GK j F nu := by
  intro j h1 h2 h3
  rcases Nat.lt_or_ge j k with h4 | h4
  · exact h j h1 h4 h3
  · have h5 : j = k := by omega
    rw [h5] at h3
    exact absurd hh h3
theorem gt_b {τ : Nat → Nat → Int32} {b : Nat → Nat} {f k to : Nat} {F F' : Nat → Nat → Int32} {nu nu' : Nat → Int64} (h : ∀ j, f ≤ j → j < k → ¬ hid τ b j to → GK j F nu) (hL : SL k F nu F' nu') (hK : GK k F' nu') : ∀ j, f ≤ j → j < k + 1 → ¬ hid τ b j to → GK j F' nu' := by
  intro j h1 h2 h3
  by_cases h5 : j = k
  · rw [h5]; exact hK
  · exact hL.gk h5 (h j h1 (by omega) h3)
theorem ix_inc {i j : Int32} {N : Nat} (hi : vp_in i N) (hN : N ≤ 4000) (e : j = i + 1) : j.toNatClampNeg = i.toNatClampNeg + 1 ∧ ¬ j < 0 := by
  have h1 := vix hi
  rw [vnI hi] at e
  have e2 : j = nI (i.toNatClampNeg + 1) := e.trans (nI_succ _).symm
  exact ⟨by rw [e2, nI_clamp (by omega)], by rw [e2]; exact nI_pos (by omega)⟩
theorem in_le {i x : Int32} {N : Nat} (h0 : ¬ i < 0) (h1 : ¬ x < i) (h2 : x.toInt < (N : Int)) : vp_in i N ∧ i.toInt ≤ x.toInt := by
  have h3 := i_le h1
  exact ⟨vin_le h0 (by omega), h3⟩
theorem bl_n {P : Prop} {v : Int32} (h : (v = 0 ∧ ¬ P) ∨ (v = 1 ∧ P)) (hv : v = 0) : ¬ P := by
  rcases h with ⟨_, h1⟩ | ⟨h1, _⟩
  · exact h1
  · exact absurd (hv.symm.trans h1) (by decide)
theorem bl_y {P : Prop} {v : Int32} (h : (v = 0 ∧ ¬ P) ∨ (v = 1 ∧ P)) (hv : ¬ v = 0) : P := by
  rcases h with ⟨h1, _⟩ | ⟨_, h1⟩
  · exact absurd h1 hv
  · exact h1
theorem gt_end {τ : Nat → Nat → Int32} {b : Nat → Nat} {f to : Nat} {i x : Int32} {F : Nat → Nat → Int32} {nu : Nat → Int64} (h : ∀ j, f ≤ j → j < i.toNatClampNeg → ¬ hid τ b j to → GK j F nu) (h0 : ¬ i < 0) (hx : x < i) : ∀ j : Nat, f ≤ j → (j : Int) ≤ x.toInt → ¬ hid τ b j to → GK j F nu := by
  intro j h1 h2 h3
  obtain ⟨q, hq, rfl⟩ := nI_of h0
  rw [Int32.lt_iff_toInt_lt, nI_toInt hq] at hx
  exact h j h1 (by rw [nI_clamp hq]; omega) h3
theorem vin4 {v w : Int32} (hv : vp_in v 4000) (e : w = 4000 + v) : vp_in w 8000 ∧ w.toNatClampNeg = 4000 + v.toNatClampNeg := by
  have h1 := vix hv
  rw [vnI hv] at e
  have e2 : w = nI (4000 + v.toNatClampNeg) := e.trans (nI_add 4000 _)
  exact ⟨vin_of e2 (by omega) (by omega), by rw [e2, nI_clamp (by omega)]⟩
theorem GD.cp {w k : Nat} {n : Int32} {F F' : Nat → Nat → Int32} {nu nu' : Nat → Int64} (hG : GD F nu) (hq : SLT w (F 9 k) n (nu k) F nu F' nu') (hk : GK k F nu) : GD F' nu' := by
  intro f h1 h2
  by_cases h : f = w
  · rw [h]; exact GK.copy hq hk
  · exact (SL.slt hq).gk h (hG f h1 h2)
theorem low_cp {w : Nat} {c n : Int32} {v : Int64} {F0 F F' : Nat → Nat → Int32} {nu0 nu nu' : Nat → Int64} (h : ∀ j, j < 4000 → F 9 j = F0 9 j ∧ nu j = nu0 j) (hq : SLT w c n v F nu F' nu') (hw : 4000 ≤ w) : ∀ j, j < 4000 → F' 9 j = F0 9 j ∧ nu' j = nu0 j := fun j hj => ⟨(slt9n hq (by omega)).trans (h j hj).1, (sltnn hq (by omega)).trans (h j hj).2⟩
theorem low_au {F0 F F' : Nat → Nat → Int32} {nu0 nu : Nat → Int64} {k i : Nat} {x : Int32} (h : ∀ j, j < 4000 → F 9 j = F0 9 j ∧ nu j = nu0 j) (e : F' = Au F k i x) (hk : 9 ≠ k) : ∀ j, j < 4000 → F' 9 j = F0 9 j ∧ nu j = nu0 j := fun j hj => by
  rw [e, au_n hk]
  exact h j hj
theorem low_gk {F0 F : Nat → Nat → Int32} {nu0 nu : Nat → Int64} {j : Nat} (h : ∀ j, j < 4000 → F 9 j = F0 9 j ∧ nu j = nu0 j) (hj : j < 4000) (hg : GK j F0 nu0) : GK j F nu := by
  intro h2
  rw [(h j hj).1] at h2
  rw [(h j hj).2]
  exact hg h2
-- the static part after a change
theorem ixn {v : Int32} {n : Nat} (e : v = nI n) (h : n < 2 ^ 31) : v.toNatClampNeg = n := by rw [e, nI_clamp h]
theorem TR.congr {N r : Nat} {τ τ' : Nat → Nat → Int32} {b mn : Nat → Nat} (h : TR N r τ b mn) (h5 : τ' 5 = τ 5) (h4 : τ' 4 = τ 4) (h7 : τ' 7 = τ 7) : TR N r τ' b mn := by
  unfold TR at *
  rw [h5, h4, h7]
  exact h
abbrev ROWP (c x y n z : Int32) : Prop := c = 3 → ∃ lo hi cn : Nat, x = nI lo ∧ y = nI hi ∧ n = nI cn ∧ lo < 2 ^ 31 ∧ hi < 2 ^ 31 ∧ lo ≤ hi + 63 ∧ hi ≤ lo + 63 ∧ cn ≤ 64 ∧ (z = 0 → lo ≤ hi) ∧ (¬ z = 0 → hi ≤ lo)
theorem nt_st {κ b mn : Nat → Nat} {ν ν1 : Nat → Int32} {τ τ1 τ2 τ3 τ4 τ5 : Nat → Nat → Int32} {j1 j2 j3 j4 j5 : Nat} {c x y n z w : Int32} (hT : ST κ b mn ν τ) (hN : κ 2 < 1000) (e1 : τ1 = Au τ 16 j1 c) (e2 : τ2 = Au τ1 17 j2 x) (e3 : τ3 = Au τ2 18 j3 y) (e4 : τ4 = Au τ3 19 j4 n) (e5 : τ5 = Au τ4 20 j5 z) (q1 : j1 = κ 2) (q2 : j2 = κ 2) (q3 : j3 = κ 2) (q4 : j4 = κ 2) (q5 : j5 = κ 2) (eν : ν1 = upd ν 21 w) (ew : w = nI (κ 2 + 1)) (hrow : ROWP c x y n z) : ST (ku κ 2 (κ 2 + 1)) b mn ν1 τ5 := by
  obtain ⟨⟨a0, a1, a2, a3, a4, a5, a6⟩, ⟨v6, v8, v21, v24, v30, v31⟩, hTR, hTY, hOB, hNM⟩ := hT
  subst e1 e2 e3 e4 e5 q1 eν ew
  subst q2 q3 q4 q5
  refine ⟨⟨a0, a1, hN, a3, a4, a5, a6⟩, ⟨v6, v8, rfl, v24, v30, v31⟩, hTR.congr rfl rfl rfl, ?_, hOB, hNM⟩
  intro t ht h3
  have h3 : upd (τ 16) (κ 2) c t = 3 := h3
  show ∃ lo hi cn : Nat, upd (τ 17) (κ 2) x t = nI lo ∧ upd (τ 18) (κ 2) y t = nI hi ∧ upd (τ 19) (κ 2) n t = nI cn ∧ lo < 2 ^ 31 ∧ hi < 2 ^ 31 ∧ lo ≤ hi + 63 ∧ hi ≤ lo + 63 ∧ cn ≤ 64 ∧ (upd (τ 20) (κ 2) z t = 0 → lo ≤ hi) ∧ (¬ upd (τ 20) (κ 2) z t = 0 → hi ≤ lo)
  by_cases h : t = κ 2
  · subst h
    rw [pk_us] at h3
    rw [pk_us, pk_us, pk_us, pk_us]
    exact hrow h3
  · rw [pk_un h] at h3
    rw [pk_un h, pk_un h, pk_un h, pk_un h]
    exact hTY t ht h3
theorem nm_st {κ b mn : Nat → Nat} {ν ν1 : Nat → Int32} {τ τ1 τ2 τ3 τ4 τ5 : Nat → Nat → Int32} {j1 j2 j3 j4 j5 : Nat} {c x y n z w : Int32} (hT : ST κ b mn ν τ) (hN : κ 4 < 3000) (e1 : τ1 = Au τ 25 j1 c) (e2 : τ2 = Au τ1 26 j2 x) (e3 : τ3 = Au τ2 27 j3 y) (e4 : τ4 = Au τ3 28 j4 n) (e5 : τ5 = Au τ4 29 j5 z) (q2 : j2 = κ 4) (q3 : j3 = κ 4) (eν : ν1 = upd ν 30 w) (ew : w = nI (κ 4 + 1)) (hm : (x = 1 → ∃ o, o < 2000 ∧ y = nI o) ∧ (x = 2 → ∃ o, o ≤ 1000 ∧ y = nI o) ∧ (x = 4 → ¬ 11 < y)) : ST (ku κ 4 (κ 4 + 1)) b mn ν1 τ5 := by
  obtain ⟨⟨a0, a1, a2, a3, a4, a5, a6⟩, ⟨v6, v8, v21, v24, v30, v31⟩, hTR, hTY, hOB, hNM⟩ := hT
  subst e1 e2 e3 e4 e5 q2 eν ew
  subst q3
  refine ⟨⟨a0, a1, a2, a3, hN, a5, a6⟩, ⟨v6, v8, v21, v24, rfl, v31⟩, hTR.congr rfl rfl rfl, hTY, hOB, ?_⟩
  intro k hk
  show (upd (τ 26) (κ 4) x k = 1 → ∃ o, o < 2000 ∧ upd (τ 27) (κ 4) y k = nI o) ∧ (upd (τ 26) (κ 4) x k = 2 → ∃ o, o ≤ 1000 ∧ upd (τ 27) (κ 4) y k = nI o) ∧ (upd (τ 26) (κ 4) x k = 4 → ¬ 11 < upd (τ 27) (κ 4) y k)
  by_cases h : k = κ 4
  · subst h
    rw [pk_us, pk_us]
    exact hm
  · rw [pk_un h, pk_un h]
    exact hNM k hk
theorem ob_st {κ b mn : Nat → Nat} {ν : Nat → Int32} {τ τ1 τ2 : Nat → Nat → Int32} {j1 j2 : Nat} {x y : Int32} (hT : ST κ b mn ν τ) (e1 : τ1 = Au τ 22 j1 x) (e2 : τ2 = Au τ1 23 j2 y) (hy : vp_in y 1000) : ST κ b mn ν τ2 := by
  obtain ⟨ha, hv, hTR, hTY, hOB, hNM⟩ := hT
  subst e1 e2
  refine ⟨ha, hv, hTR.congr rfl rfl rfl, hTY, ?_, hNM⟩
  intro o ho
  show ∃ t, t < 1000 ∧ upd (τ 23) j2 y o = nI t
  by_cases h : o = j2
  · subst h
    rw [pk_us]
    exact ⟨_, vix hy, vnI hy⟩
  · rw [pk_un h]
    exact hOB o ho
theorem st_3 {κ b mn : Nat → Nat} {ν ν1 : Nat → Int32} {τ : Nat → Nat → Int32} {w : Int32} {n : Nat} (hT : ST κ b mn ν τ) (hn : n ≤ 2000) (eν : ν1 = upd ν 24 w) (ew : w = nI n) : ST (ku κ 3 n) b mn ν1 τ := by
  obtain ⟨⟨a0, a1, a2, a3, a4, a5, a6⟩, ⟨v6, v8, v21, v24, v30, v31⟩, h⟩ := hT
  subst eν ew
  exact ⟨⟨a0, a1, a2, hn, a4, a5, a6⟩, ⟨v6, v8, v21, rfl, v30, v31⟩, h⟩
theorem st_4 {κ b mn : Nat → Nat} {ν ν1 : Nat → Int32} {τ : Nat → Nat → Int32} {w : Int32} {n : Nat} (hT : ST κ b mn ν τ) (hn : n ≤ 3000) (eν : ν1 = upd ν 30 w) (ew : w = nI n) : ST (ku κ 4 n) b mn ν1 τ := by
  obtain ⟨⟨a0, a1, a2, a3, a4, a5, a6⟩, ⟨v6, v8, v21, v24, v30, v31⟩, h⟩ := hT
  subst eν ew
  exact ⟨⟨a0, a1, a2, a3, hn, a5, a6⟩, ⟨v6, v8, v21, v24, rfl, v31⟩, h⟩
theorem st_5 {κ b mn : Nat → Nat} {ν ν1 : Nat → Int32} {τ : Nat → Nat → Int32} {w : Int32} {n : Nat} (hT : ST κ b mn ν τ) (h1 : 1 ≤ n) (hn : n ≤ 32) (eν : ν1 = upd ν 31 w) (ew : w = nI n) : ST (ku κ 5 n) b mn ν1 τ := by
  obtain ⟨⟨a0, a1, a2, a3, a4, a5, a6⟩, ⟨v6, v8, v21, v24, v30, v31⟩, h⟩ := hT
  subst eν ew
  exact ⟨⟨a0, a1, a2, a3, a4, h1, hn⟩, ⟨v6, v8, v21, v24, v30, rfl⟩, h⟩
theorem st_cl {κ b mn : Nat → Nat} {ν ν1 ν2 : Nat → Int32} {τ : Nat → Nat → Int32} (hT : ST κ b mn ν τ) (e1 : ν1 = upd ν 6 0) (e2 : ν2 = upd ν1 8 0) : ST (ku (ku κ 0 0) 1 0) b mn ν2 τ := by
  obtain ⟨⟨a0, a1, a2, a3, a4, a5, a6⟩, ⟨v6, v8, v21, v24, v30, v31⟩, hTR, h⟩ := hT
  subst e1 e2
  exact ⟨⟨Nat.zero_le _, Nat.zero_le _, a2, a3, a4, a5, a6⟩, ⟨rfl, rfl, v21, v24, v30, v31⟩, ⟨fun c hc => absurd hc (Nat.not_lt_zero _), fun c hc => absurd hc (Nat.not_lt_zero _), fun c hc => absurd hc (Nat.not_lt_zero _)⟩, h⟩
theorem cd_0 {σ σ1 : Nat → Int32} {t v : Int32} {P : Prop} (e : σ1 = upd σ 0 t) (ev : v = σ1 0) (hv : v ≤ 0) (h : 0 < t ∨ (t = 0 ∧ P)) : P := by
  have h1 : v = t := by rw [ev, e, pk_us]
  rcases h with h2 | h2
  · rw [h1] at hv
    exact absurd h2 (Int32.not_lt.mpr hv)
  · exact h2.2
theorem inc_n {v w : Int32} {n : Nat} (ev : v = nI n) (ew : w = v + 1) : w = nI (n + 1) := by rw [ew, ev, nI_succ]
theorem ad_st {κ b mn : Nat → Nat} {ν ν1 ν2 ν3 : Nat → Int32} {τ τ1 τ2 τ3 τ4 τ5 : Nat → Nat → Int32} {j1 j2 j3 j4 j5 n : Nat} {k v x bg y w1 w2 w3 : Int32} (hT : ST κ b mn ν τ) (hN : κ 0 < 4000) (ex : x = nI n) (hn : n ≤ κ 1)
    (e1 : τ1 = Au τ 2 j1 k) (e2 : τ2 = Au τ1 3 j2 v) (e3 : τ3 = Au τ2 4 j3 x) (e4 : τ4 = Au τ3 5 j4 bg) (e5 : τ5 = Au τ4 7 j5 y) (q3 : j3 = κ 0) (q4 : j4 = κ 0) (q5 : j5 = κ 1 - n) (hbg : bg = nI (tX b (κ 0) n)) (hy : y = nI (κ 0))
    (f1 : ν1 = upd ν 8 w1) (f2 : ν2 = upd ν1 8 w2) (f3 : ν3 = upd ν2 6 w3) (g2 : w2 = nI (κ 1 - n + 1)) (g3 : w3 = nI (κ 0 + 1)) :
    ST (ku (ku κ 0 (κ 0 + 1)) 1 (κ 1 - n + 1)) (fun c => if c = κ 0 then tX b (κ 0) n else b c) (fun c => if c = κ 0 then n else mn c) ν3 τ5 := by
  obtain ⟨⟨a0, a1, a2, a3, a4, a5, a6⟩, ⟨v6, v8, v21, v24, v30, v31⟩, hTR, hTY, hOB, hNM⟩ := hT
  subst e1 e2 e3 e4 e5 f1 f2 f3 g2 g3
  subst q3 q4 q5
  refine ⟨⟨hN, (by show κ 1 - n + 1 ≤ κ 0 + 1; omega), a2, a3, a4, a5, a6⟩, ⟨rfl, rfl, v21, v24, v30, v31⟩, ?_, hTY, hOB, hNM⟩
  refine tr_add hTR hn (by omega) (fun c hc => ?_) (fun c hc => ?_) (fun c hc => ?_) ?_ ?_ ?_
  · show upd (τ 5) (κ 0) bg c = τ 5 c
    exact pk_un (by omega)
  · show upd (τ 4) (κ 0) x c = τ 4 c
    exact pk_un (by omega)
  · show upd (τ 7) (κ 1 - n) y c = τ 7 c
    exact pk_un (by omega)
  · show upd (τ 5) (κ 0) bg (κ 0) = _
    rw [pk_us]; exact hbg
  · show upd (τ 4) (κ 0) x (κ 0) = _
    rw [pk_us]; exact ex
  · show upd (τ 7) (κ 1 - n) y (κ 1 - n) = _
    rw [pk_us]; exact hy
theorem bg_ok {N r : Nat} {τ : Nat → Nat → Int32} {b mn : Nat → Nat} (hT : TR N r τ b mn) (hN : N ≤ 4000) {x v : Int32} (hx : vp_in x N) (ev : v = τ 5 x.toNatClampNeg) : ¬ v < 0 ∧ v.toNatClampNeg = b x.toNatClampNeg := by
  have h1 := vix hx
  obtain ⟨h2, h3⟩ := hT.1 _ h1
  have e := ev.trans h2
  exact ⟨by rw [e]; exact nI_pos (by omega), ixn e (by omega)⟩
theorem pm_int {N : Nat} {x w : Int32} (hx : vp_in x N) (hN : N ≤ 4000) (e : w = x - 1) : w.toInt = (x.toNatClampNeg : Int) - 1 := by
  have h1 := vix hx
  rw [vnI hx] at e
  cases h : x.toNatClampNeg with
  | zero => rw [e, h]; decide
  | succ m =>
    rw [h] at e h1
    rw [nI_pred] at e
    rw [e, nI_toInt (by omega)]
    omega
theorem x_int {N : Nat} {x : Int32} (hx : vp_in x N) : x.toInt < (N : Int) := by
  rw [vin_int hx]
  have := vix hx
  omega
theorem ty_gk {N r : Nat} {τ : Nat → Nat → Int32} {b mn : Nat → Nat} {F : Nat → Nat → Int32} {nu : Nat → Int64} {x y a v w : Int32} (hT : TR N r τ b mn) (hN : N ≤ 4000) (hx : vp_in x N) (hv : v.toNatClampNeg = b x.toNatClampNeg) (hw : w.toInt = (x.toNatClampNeg : Int) - 1) (hg : ∀ j : Nat, v.toNatClampNeg ≤ j → (j : Int) ≤ w.toInt → ¬ hid τ b j w.toNatClampNeg → GK j F nu) (hj : vp_in y (mn x.toNatClampNeg)) (ha : a.toNatClampNeg = tX b x.toNatClampNeg y.toNatClampNeg - 1) : GK a.toNatClampNeg F nu := by
  obtain ⟨h1, h2⟩ := ch_ge hT (vix hx) (vix hj)
  have h3 := hid_ty hT (vix hx) (vix hj)
  have h6 := vix hx
  have h4 : w.toNatClampNeg = x.toNatClampNeg - 1 := by
    have h5 := vin_int (vp_in_iff.mpr (show 0 ≤ w.toInt ∧ w.toInt < ((4000 : Nat) : Int) by omega))
    omega
  rw [ha]
  exact hg _ (by rw [hv]; exact h1) (by omega) (by rw [h4]; exact h3)
theorem c_ge0 {x : Int64} {v : Int32} (e : v = lg_cmp x 0) (h : ¬ v < 0) : 0 ≤ x.toInt := by
  have h1 := cmp_ge e h
  have h2 : (0 : Int64).toInt = 0 := by decide
  omega
theorem ne_lt {v c : Int32} {n m : Nat} (ev : v = nI n) (h : ¬ v = c) (ec : c = nI m) (hn : n ≤ m) : n < m := by
  rcases Nat.lt_or_ge n m with h1 | h1
  · exact h1
  · exfalso
    apply h
    rw [ev, ec, show n = m by omega]
theorem ty_row {c x y n d k : Int32} {l r m : Int64} (hc : (c = 2 ∧ k = 11) ∨ (c = 3 ∧ ¬ k = 11)) (hd : (d = 1 ∧ k = 13) ∨ (d = 0 ∧ ¬ k = 13)) (hk : k = 11 ∨ k = 12 ∨ k = 13) (hm : (k = 12 ∧ m = r - l + 1) ∨ (k = 13 ∧ m = l - r + 1) ∨ (¬ k = 12 ∧ ¬ k = 13)) (h64 : m.toInt ≤ 64) (h4 : k ≤ 11 ∨ (1 ≤ m.toInt ∧ 0 ≤ l.toInt ∧ 0 ≤ r.toInt)) (hl : -2147483648 < l.toInt ∧ l.toInt < 2147483648) (hr : -2147483648 < r.toInt ∧ r.toInt < 2147483648) (ex : x = l.toInt32) (ey : y = r.toInt32) (en : n = m.toInt32) : ROWP c x y n (vp_nar .boolean d) := by
  intro h3
  have hk2 : ¬ k = 11 := by
    rcases hc with ⟨h, _⟩ | ⟨_, h⟩
    · exact absurd (h.symm.trans h3) (by decide)
    · exact h
  have e1 : (1 : Int64).toInt = 1 := by decide
  rcases hk with h | h | h
  · exact absurd h hk2
  · have h5 : 1 ≤ m.toInt ∧ 0 ≤ l.toInt ∧ 0 ≤ r.toInt := by
      rcases h4 with h6 | h6
      · rw [h] at h6; exact absurd h6 (by decide)
      · exact h6
    have h6 : m = r - l + 1 := by
      rcases hm with ⟨_, h7⟩ | ⟨h7, _⟩ | ⟨h7, _⟩
      · exact h7
      · rw [h] at h7; exact absurd h7 (by decide)
      · exact absurd h h7
    have h7 := lsub_int (x := r) (y := l) rfl (by omega) (by omega) (by omega) (by omega)
    have h8 := ladd_int (x := r - l) (y := 1) h6 (by omega) (by omega) (by omega) (by omega)
    have h9 : d = 0 := by
      rcases hd with ⟨_, h10⟩ | ⟨h10, _⟩
      · rw [h] at h10; exact absurd h10 (by decide)
      · exact h10
    subst h9
    have ix : x = nI l.toInt.toNat := by
      apply Int32.toInt_inj.mp
      rw [ex, Int64.toInt_toInt32, nI_toInt (by omega)]
      rw [Int.bmod_eq_of_le (by omega) (by omega)]
      omega
    have iy : y = nI r.toInt.toNat := by
      apply Int32.toInt_inj.mp
      rw [ey, Int64.toInt_toInt32, nI_toInt (by omega)]
      rw [Int.bmod_eq_of_le (by omega) (by omega)]
      omega
    have inn : n = nI m.toInt.toNat := by
      apply Int32.toInt_inj.mp
      rw [en, Int64.toInt_toInt32, nI_toInt (by omega)]
      rw [Int.bmod_eq_of_le (by omega) (by omega)]
      omega
    exact ⟨_, _, _, ix, iy, inn, by omega, by omega, by omega, by omega, by omega, fun _ => by omega, fun h10 => absurd rfl h10⟩
  · have h5 : 1 ≤ m.toInt ∧ 0 ≤ l.toInt ∧ 0 ≤ r.toInt := by
      rcases h4 with h6 | h6
      · rw [h] at h6; exact absurd h6 (by decide)
      · exact h6
    have h6 : m = l - r + 1 := by
      rcases hm with ⟨h7, _⟩ | ⟨_, h7⟩ | ⟨_, h7⟩
      · rw [h] at h7; exact absurd h7 (by decide)
      · exact h7
      · exact absurd h h7
    have h7 := lsub_int (x := l) (y := r) rfl (by omega) (by omega) (by omega) (by omega)
    have h8 := ladd_int (x := l - r) (y := 1) h6 (by omega) (by omega) (by omega) (by omega)
    have h9 : d = 1 := by
      rcases hd with ⟨h10, _⟩ | ⟨_, h10⟩
      · exact h10
      · exact absurd h h10
    subst h9
    have ix : x = nI l.toInt.toNat := by
      apply Int32.toInt_inj.mp
      rw [ex, Int64.toInt_toInt32, nI_toInt (by omega)]
      rw [Int.bmod_eq_of_le (by omega) (by omega)]
      omega
    have iy : y = nI r.toInt.toNat := by
      apply Int32.toInt_inj.mp
      rw [ey, Int64.toInt_toInt32, nI_toInt (by omega)]
      rw [Int.bmod_eq_of_le (by omega) (by omega)]
      omega
    have inn : n = nI m.toInt.toNat := by
      apply Int32.toInt_inj.mp
      rw [en, Int64.toInt_toInt32, nI_toInt (by omega)]
      rw [Int.bmod_eq_of_le (by omega) (by omega)]
      omega
    exact ⟨_, _, _, ix, iy, inn, by omega, by omega, by omega, by omega, by omega, fun h10 => absurd h10 (by decide), fun _ => by omega⟩
theorem hid_self {τ : Nat → Nat → Int32} {b : Nat → Nat} {k : Nat} : ¬ hid τ b k k := by
  rintro ⟨a, h1, h2, _⟩
  omega
theorem hid_cg {τ τ' : Nat → Nat → Int32} {b : Nat → Nat} {k to : Nat} (h : τ' 2 = τ 2) (hh : hid τ b k to) : hid τ' b k to := by
  obtain ⟨a, h1, h2, h3, h4⟩ := hh
  exact ⟨a, h1, h2, by rw [h]; exact h3, h4⟩
theorem sub_nn {N r : Nat} {τ : Nat → Nat → Int32} {b mn : Nat → Nat} (hT : TR N r τ b mn) (hN : N ≤ 4000) {x n v : Int32} (hx : vp_in x N) (hn : n = nI (mn x.toNatClampNeg)) (e : v = x - n) : ¬ v < 0 ∧ v = nI (x.toNatClampNeg - mn x.toNatClampNeg) ∧ mn x.toNatClampNeg ≤ x.toNatClampNeg := by
  have h1 := vix hx
  have h2 := tX_sub (fun c hc => (hT.1 c hc).2) (Nat.le_of_lt h1) (mn x.toNatClampNeg) (hT.2.1 _ h1).2.2.1
  have e2 : v = nI (x.toNatClampNeg - mn x.toNatClampNeg) := by
    rw [e, hn]
    have h3 := pk_sub (a := x.toNatClampNeg) (b := mn x.toNatClampNeg) (by omega)
    rw [← vnI hx] at h3
    exact h3
  exact ⟨by rw [e2]; exact nI_pos (by omega), e2, by omega⟩
theorem en_le {c n a w : Int32} {C N : Nat} (ec : c = nI C) (en : n = nI N) (ea : a = c + n) (ew : w = a + 1) (h : w ≤ 3000) (hC : C ≤ 4000) (hN : N ≤ 4000) : C + N + 1 ≤ 3000 := by
  rw [ec, en, nI_add] at ea
  have e2 : w = nI (C + N + 1) := inc_n ea ew
  rw [e2] at h
  exact (nI_leI (a := C + N + 1) (b := 3000) (by omega) (by omega)).mp h
theorem en_ix {N r : Nat} {τ : Nat → Nat → Int32} {b mn : Nat → Nat} (hT : TR N r τ b mn) (hN : N ≤ 4000) {x n v i w : Int32} (hx : vp_in x N) (hn : n = nI (mn x.toNatClampNeg)) (e : v = x - n) (hi : vp_in i (mn x.toNatClampNeg)) (ew : w = v + i) : vp_in w 4000 := by
  obtain ⟨_, h2, h3⟩ := sub_nn hT hN hx hn e
  have h1 := vix hx
  have h4 := vix hi
  rw [h2, vnI hi, nI_add] at ew
  exact vin_of ew (by omega) (by omega)
theorem le_n {x : Int32} {N : Nat} (h0 : ¬ x < 0) (h1 : ¬ nI N < x) (hN : N ≤ 4000) : ∃ n, n ≤ N ∧ x = nI n := by
  obtain ⟨j, hj, rfl⟩ := nI_of h0
  exact ⟨j, Nat.not_lt.mp (fun h9 => h1 ((nI_ltI (by omega) hj).mpr h9)), rfl⟩
theorem ad_ix {v x w : Int32} {N n : Nat} (ev : v = nI N) (ex : x = nI n) (hn : n ≤ N) (ew : w = v - x) : w = nI (N - n) := by
  rw [ew, ev, ex]
  exact pk_sub hn
theorem ad_rt {N r n : Nat} {τ τ' : Nat → Nat → Int32} {b mn : Nat → Nat} {v u : Int32} (hT : TR N r τ b mn) (hN : N ≤ 4000) (hr : r ≤ N) (hn : n ≤ r) (h0 : 1 ≤ n) (h7 : τ' 7 = τ 7) (hv : v = nI (r - n)) (eu : u = τ' 7 v.toNatClampNeg) : u = nI (tX b N (n - 1) - 1) ∧ tX b N (n - 1) - 1 < N ∧ 1 ≤ tX b N (n - 1) := by
  obtain ⟨h1, h2⟩ := hT.2.2 (n - 1) (by omega)
  have h3 := tX_le (fun c hc => (hT.1 c hc).2) (Nat.le_refl N) (n - 1)
  refine ⟨?_, by omega, h1⟩
  rw [eu, h7, ixn hv (by omega), ← h2]
  congr 1
  omega
theorem ad_b1 {N r n : Nat} {τ τ' : Nat → Nat → Int32} {b mn : Nat → Nat} {u g : Int32} (hT : TR N r τ b mn) (hN : N ≤ 4000) (h0 : 1 ≤ n) (h5 : τ' 5 = τ 5) (hu : u = nI (tX b N (n - 1) - 1) ∧ tX b N (n - 1) - 1 < N ∧ 1 ≤ tX b N (n - 1)) (eg : g = τ' 5 u.toNatClampNeg) : g = nI (tX b N n) := by
  obtain ⟨h1, h2, h3⟩ := hu
  rw [eg, h5, ixn h1 (by omega), (hT.1 _ h2).1]
  obtain ⟨m, hm⟩ : ∃ m, tX b N (n - 1) = m + 1 := ⟨tX b N (n - 1) - 1, by omega⟩
  have h4 : tX b N n = b m := by
    have h5 := tX_s hm
    rw [show n - 1 + 1 = n by omega] at h5
    exact h5
  rw [h4, hm]
  rfl
theorem ad_b0 {N n : Nat} {b : Nat → Nat} {x g : Int32} (eg : g = nI N) (ex : x = nI n) (h0 : x = 0) (hn : n ≤ 4000) : g = nI (tX b N n) := by
  have h1 : n = 0 := (nI_eq (by omega) (by omega)).mp (ex.symm.trans h0)
  subst h1
  exact eg
theorem n_one {x : Int32} {n : Nat} (ex : x = nI n) (h : ¬ x = 0) : 1 ≤ n := by
  rcases Nat.eq_zero_or_pos n with h1 | h1
  · subst h1
    exact absurd ex h
  · exact h1
theorem n_one2 {x : Int32} {n : Nat} (ex : x = nI n) (h : ¬ x ≤ 0) : 1 ≤ n := by
  rcases Nat.eq_zero_or_pos n with h1 | h1
  · subst h1
    exact absurd (by rw [ex]; decide) h
  · exact h1
theorem eq_n {v c : Int32} {n m : Nat} (ev : v = nI n) (h : v = c) (ec : c = nI m) (hn : n < 2 ^ 31) (hm : m < 2 ^ 31) : n = m := (nI_eq hn hm).mp (ev.symm.trans (h.trans ec))
theorem lv_cd {σ σ1 : Nat → Int32} {t v : Int32} {P Q : Prop} (h : (t = 1 ∧ P) ∨ (t = 0 ∧ Q)) (es : σ1 = upd σ 0 t) (ev : v = σ1 0) : (v ≤ 0 → σ1 0 = 0 ∧ Q) ∧ (¬ v ≤ 0 → σ1 0 = 1 ∧ P) ∧ (¬ v = 0 → σ1 0 = 1 ∧ P) ∧ (v = 0 → σ1 0 = 0 ∧ Q) := by
  have h1 : σ1 0 = t := by rw [es, pk_us]
  rw [h1] at ev ⊢
  subst ev
  rcases h with ⟨h2, h3⟩ | ⟨h2, h3⟩
  · rw [h2]
    exact ⟨fun h => absurd h (by decide), fun _ => ⟨rfl, h3⟩, fun _ => ⟨rfl, h3⟩, fun h => absurd h (by decide)⟩
  · rw [h2]
    exact ⟨fun _ => ⟨rfl, h3⟩, fun h => absurd (by decide) h, fun h => absurd rfl h, fun _ => ⟨rfl, h3⟩⟩
theorem dec_n {v w : Int32} {n : Nat} (ev : v = nI n) (ew : w = v - 1) (h : 1 ≤ n) : w = nI (n - 1) := by rw [ew, ev]; exact nI_sub1 h
theorem gt1 {v : Int32} {n : Nat} (ev : v = nI n) (h : ¬ v = 1) (hn : 1 ≤ n) : 1 < n := by
  rcases Nat.lt_or_ge 1 n with h1 | h1
  · exact h1
  · exfalso
    apply h
    rw [ev, show n = 1 by omega]
    rfl
theorem ad_cv {t : Int32} {P Q R : Prop} (h : (t = 1 ∧ P) ∨ (t = 2 ∧ Q) ∨ (t = 0 ∧ R)) : 0 < t ∨ (t = 0 ∧ R) := by
  rcases h with h | h | h
  · exact Or.inl (by rw [h.1]; decide)
  · exact Or.inl (by rw [h.1]; decide)
  · exact Or.inr h
theorem ad_cf {σ σ' : Nat → Int32} {t v : Int32} {P Q R : Prop} (e : σ' = upd σ 0 t) (ev : v = σ' 0) (hv : ¬ v ≤ 0) (h : (t = 1 ∧ P) ∨ (t = 2 ∧ Q) ∨ (t = 0 ∧ R)) : (σ' 0 = 1 ∧ P) ∨ (σ' 0 = 2 ∧ Q) := by
  have e1 : σ' 0 = t := by rw [e, pk_us]
  rw [e1]
  rcases h with h | h | h
  · exact Or.inl h
  · exact Or.inr h
  · exact absurd (by rw [ev, e1, h.1]; decide) hv
theorem ad_c0 {σ σ' : Nat → Int32} {t v : Int32} {R : Prop} (e : σ' = upd σ 0 t) (ev : v = σ' 0) (hv : v ≤ 0) (h : 0 < t ∨ (t = 0 ∧ R)) : σ' 0 = 0 := by
  have e1 : σ' 0 = t := by rw [e, pk_us]
  rcases h with h | h
  · rw [ev, e1] at hv
    exact absurd h (Int32.not_lt.mpr hv)
  · rw [e1, h.1]
set_option maxHeartbeats 4000000 in
set_option maxRecDepth 100000 in
theorem m_goodName (l : Launch) (γ : gE) (P : Heap → Prop) (x0 : Int32) : PU l yModel_goodName bModel_goodName 1 (some .boolean) 0 0 [.int x0] γ P (vp_Si (fun v : Int32 => (v = 1 ∧ GNm x0) ∨ (v = 0 ∧ ¬ GNm x0))) := by
  refine pu_openZ (by decide) (Nat.le_of_ble_eq_true rfl) ?_
  intro p e s m args below meth c ls Q S hC hM hE hl
  obtain ⟨hx, hb, hml, hown, hW⟩ := id S
  have hl : lv_has ls 1 [(0, .int x0)] := hl
  refine lv_iload_n hx hb dModel_goodName_0 rfl (lv_at hl 0 rfl) ?_
  refine lv_if_lt (tgt := 15) hx hb dModel_goodName_1 (by decide) (fun c1 => ?_) (fun c1 => ?_)
  · refine lv_iconst (v := 0) hx hb dModel_goodName_15 (by decide) ?_
    exact hE _ _ _ rfl (by first | exact Or.inl ⟨rfl, gm_t (by assumption) (by assumption)⟩ | exact Or.inr ⟨rfl, fun h9 => h9.1 (by assumption)⟩ | exact Or.inr ⟨rfl, gm_2 (by assumption)⟩) dModel_goodName_16
  · refine lv_iload_n hx hb dModel_goodName_4 rfl (lv_at hl 0 rfl) ?_
    refine lv_sipush (v := 10000) hx hb dModel_goodName_5 (by decide) ?_
    refine lv_icmp_ge (tgt := 15) hx hb dModel_goodName_8 (by decide) (fun c2 => ?_) (fun c2 => ?_)
    · refine lv_iconst (v := 0) hx hb dModel_goodName_15 (by decide) ?_
      exact hE _ _ _ rfl (by first | exact Or.inl ⟨rfl, gm_t (by assumption) (by assumption)⟩ | exact Or.inr ⟨rfl, fun h9 => h9.1 (by assumption)⟩ | exact Or.inr ⟨rfl, gm_2 (by assumption)⟩) dModel_goodName_16
    · refine lv_iconst (v := 1) hx hb dModel_goodName_11 (by decide) ?_
      refine lv_goto (tgt := 16) hx hb dModel_goodName_12 (by decide) ?_
      exact hE _ _ _ rfl (by first | exact Or.inl ⟨rfl, gm_t (by assumption) (by assumption)⟩ | exact Or.inr ⟨rfl, fun h9 => h9.1 (by assumption)⟩ | exact Or.inr ⟨rfl, gm_2 (by assumption)⟩) dModel_goodName_16
set_option maxHeartbeats 4000000 in
set_option maxRecDepth 100000 in
theorem m_isLow (l : Launch) (γ : gE) (P : Heap → Prop) (x0 : Int32) : PU l yModel_isLow bModel_isLow 1 (some .boolean) 0 0 [.int x0] γ P (vp_Si (fun v : Int32 => True)) := by
  refine pu_openZ (by decide) (Nat.le_of_ble_eq_true rfl) ?_
  intro p e s m args below meth c ls Q S hC hM hE hl
  obtain ⟨hx, hb, hml, hown, hW⟩ := id S
  have hl : lv_has ls 1 [(0, .int x0)] := hl
  refine lv_iload_n hx hb dModel_isLow_0 rfl (lv_at hl 0 rfl) ?_
  refine lv_iconst (v := 2) hx hb dModel_isLow_1 (by decide) ?_
  have J11 : ∀ (ls : Array Slot), lv_has ls 1 [(0, .int x0)] → W p l e (bs_rm 0 0 0 0) s m args below meth c s.heap [] 0 0 Q (F0 m 11 ls []) := by
    intro ls hl
    refine lv_iconst (v := 1) hx hb dModel_isLow_11 (by decide) ?_
    refine lv_goto (tgt := 16) hx hb dModel_isLow_12 (by decide) ?_
    exact hE _ _ _ rfl trivial dModel_isLow_16
  refine lv_icmp_eq (tgt := 11) hx hb dModel_isLow_2 (by decide) (fun c3 => ?_) (fun c3 => ?_)
  · exact J11 ls  (lv_sub hl [0] rfl)
  · refine lv_iload_n hx hb dModel_isLow_5 rfl (lv_at hl 0 rfl) ?_
    refine lv_bipush (v := 6) hx hb dModel_isLow_6 (by decide) ?_
    refine lv_icmp_ne (tgt := 15) hx hb dModel_isLow_8 (by decide) (fun c4 => ?_) (fun c4 => ?_)
    · refine lv_iconst (v := 0) hx hb dModel_isLow_15 (by decide) ?_
      exact hE _ _ _ rfl trivial dModel_isLow_16
    · exact J11 ls  (lv_sub hl [0] rfl)
set_option maxHeartbeats 4000000 in
set_option maxRecDepth 100000 in
theorem m_isHigh (l : Launch) (γ : gE) (P : Heap → Prop) (x0 : Int32) : PU l yModel_isHigh bModel_isHigh 1 (some .boolean) 0 0 [.int x0] γ P (vp_Si (fun v : Int32 => True)) := by
  refine pu_openZ (by decide) (Nat.le_of_ble_eq_true rfl) ?_
  intro p e s m args below meth c ls Q S hC hM hE hl
  obtain ⟨hx, hb, hml, hown, hW⟩ := id S
  have hl : lv_has ls 1 [(0, .int x0)] := hl
  refine lv_iload_n hx hb dModel_isHigh_0 rfl (lv_at hl 0 rfl) ?_
  refine lv_iconst (v := 3) hx hb dModel_isHigh_1 (by decide) ?_
  have J11 : ∀ (ls : Array Slot), lv_has ls 1 [(0, .int x0)] → W p l e (bs_rm 0 0 0 0) s m args below meth c s.heap [] 0 0 Q (F0 m 11 ls []) := by
    intro ls hl
    refine lv_iconst (v := 1) hx hb dModel_isHigh_11 (by decide) ?_
    refine lv_goto (tgt := 16) hx hb dModel_isHigh_12 (by decide) ?_
    exact hE _ _ _ rfl trivial dModel_isHigh_16
  refine lv_icmp_eq (tgt := 11) hx hb dModel_isHigh_2 (by decide) (fun c3 => ?_) (fun c3 => ?_)
  · exact J11 ls  (lv_sub hl [0] rfl)
  · refine lv_iload_n hx hb dModel_isHigh_5 rfl (lv_at hl 0 rfl) ?_
    refine lv_bipush (v := 7) hx hb dModel_isHigh_6 (by decide) ?_
    refine lv_icmp_ne (tgt := 15) hx hb dModel_isHigh_8 (by decide) (fun c4 => ?_) (fun c4 => ?_)
    · refine lv_iconst (v := 0) hx hb dModel_isHigh_15 (by decide) ?_
      exact hE _ _ _ rfl trivial dModel_isHigh_16
    · exact J11 ls  (lv_sub hl [0] rfl)
theorem qw_50d7321591 : (Cond.methodLink R_Model 135 yModel_isLow) ∈ bs_W0 := bs_in (in_tables_1_6 (List.mem_of_getElem? (i := 110) rfl)) rfl
theorem qw_7b38890176 : (Cond.methodLink R_Model 138 yModel_isHigh) ∈ bs_W0 := bs_in (in_tables_1_6 (List.mem_of_getElem? (i := 113) rfl)) rfl
set_option maxHeartbeats 4000000 in
set_option maxRecDepth 100000 in
theorem m_not (l : Launch) (γ : gE) (P : Heap → Prop) (x0 : Int32) : PU l yModel_not bModel_not 1 (some .int) 1 20 [.int x0] γ P (vp_Si (fun v : Int32 => True)) := by
  refine pu_openI (by decide) (Nat.le_of_ble_eq_true rfl) ?_
  intro p e s m args below meth c ls Q S hC hM hE hl
  obtain ⟨hx, hb, hml, hown, hW⟩ := id S
  have hl : lv_has ls 1 [(0, .int x0)] := hl
  refine lv_iload_n hx hb dModel_not_0 rfl (lv_at hl 0 rfl) ?_
  refine lv_if_ne (tgt := 8) hx hb dModel_not_1 (by decide) (fun c1 => ?_) (fun c1 => ?_)
  · refine lv_iload_n hx hb dModel_not_8 rfl (lv_at hl 0 rfl) ?_
    refine pu_Si (rest := []) S hC (m_isLow l γ _ x0) meModel_isLow qw_50d7321591 ⟨Nat.le_of_ble_eq_true rfl, Nat.le_of_ble_eq_true rfl⟩ hM rfl hl.1 rfl (Nat.le_of_ble_eq_true rfl) dModel_not_9 ⟨Nat.zero_le _, Nat.zero_le _⟩ (fun r2 hr2 => ?_)
    refine lv_if_eq (tgt := 19) hx hb dModel_not_12 (by decide) (fun c3 => ?_) (fun c3 => ?_)
    · refine lv_iload_n hx hb dModel_not_19 rfl (lv_at hl 0 rfl) ?_
      refine pu_Si (rest := []) S hC (m_isHigh l γ _ x0) meModel_isHigh qw_7b38890176 ⟨Nat.le_of_ble_eq_true rfl, Nat.le_of_ble_eq_true rfl⟩ hM rfl hl.1 rfl (Nat.le_of_ble_eq_true rfl) dModel_not_20 ⟨Nat.zero_le _, Nat.zero_le _⟩ (fun r4 hr4 => ?_)
      refine lv_if_eq (tgt := 30) hx hb dModel_not_23 (by decide) (fun c5 => ?_) (fun c5 => ?_)
      · refine lv_iconst (v := 1) hx hb dModel_not_30 (by decide) ?_
        exact hE _ _ _ trivial dModel_not_31
      · refine lv_iconst (v := 2) hx hb dModel_not_26 (by decide) ?_
        refine lv_goto (tgt := 31) hx hb dModel_not_27 (by decide) ?_
        exact hE _ _ _ trivial dModel_not_31
    · refine lv_iconst (v := 3) hx hb dModel_not_15 (by decide) ?_
      refine lv_goto (tgt := 31) hx hb dModel_not_16 (by decide) ?_
      exact hE _ _ _ trivial dModel_not_31
  · refine lv_iconst (v := 0) hx hb dModel_not_4 (by decide) ?_
    refine lv_goto (tgt := 31) hx hb dModel_not_5 (by decide) ?_
    exact hE _ _ _ trivial dModel_not_31
set_option maxHeartbeats 4000000 in
set_option maxRecDepth 100000 in
theorem m_join (l : Launch) (γ : gE) (P : Heap → Prop) (x0 : Int32) (x1 : Int32) (x2 : Int32) : PU l yModel_join bModel_join 4 (some .int) 1 20 [.int x0, .int x1, .int x2] γ P (vp_Si (fun v : Int32 => True)) := by
  refine pu_openI (by decide) (Nat.le_of_ble_eq_true rfl) ?_
  intro p e s m args below meth c ls Q S hC hM hE hl
  obtain ⟨hx, hb, hml, hown, hW⟩ := id S
  have hl : lv_has ls 4 [(0, .int x0), (1, .int x1), (2, .int x2)] := hl
  refine lv_iload_n hx hb dModel_join_0 rfl (lv_at hl 0 rfl) ?_
  refine lv_if_ne (tgt := 54) hx hb dModel_join_1 (by decide) (fun c1 => ?_) (fun c1 => ?_)
  · refine lv_iload_n hx hb dModel_join_54 rfl (lv_at hl 0 rfl) ?_
    refine lv_iconst (v := 1) hx hb dModel_join_55 (by decide) ?_
    refine lv_icmp_ne (tgt := 109) hx hb dModel_join_56 (by decide) (fun c2 => ?_) (fun c2 => ?_)
    · refine lv_iload_n hx hb dModel_join_109 rfl (lv_at hl 1 rfl) ?_
      refine lv_if_eq (tgt := 117) hx hb dModel_join_110 (by decide) (fun c3 => ?_) (fun c3 => ?_)
      · refine lv_iconst (v := 0) hx hb dModel_join_117 (by decide) ?_
        exact hE _ _ _ trivial dModel_join_118
      · refine lv_iload_n hx hb dModel_join_113 rfl (lv_at hl 2 rfl) ?_
        refine lv_if_ne (tgt := 119) hx hb dModel_join_114 (by decide) (fun c4 => ?_) (fun c4 => ?_)
        · refine lv_iload_n hx hb dModel_join_119 rfl (lv_at hl 1 rfl) ?_
          refine pu_Si (rest := []) S hC (m_isLow l γ _ x1) meModel_isLow qw_50d7321591 ⟨Nat.le_of_ble_eq_true rfl, Nat.le_of_ble_eq_true rfl⟩ hM rfl hl.1 rfl (Nat.le_of_ble_eq_true rfl) dModel_join_120 ⟨Nat.zero_le _, Nat.zero_le _⟩ (fun r5 hr5 => ?_)
          have J152 : ∀ (ls : Array Slot) (t0_152 : Int32), lv_has ls 4 [(0, .int x0), (1, .int x1), (2, .int x2)] → W p l e (bs_rm 1 0 0 20) s m args below meth c s.heap [] 0 0 Q (F0 m 152 ls [.int t0_152]) := by
            intro ls t0_152 hl
            refine lv_istore_n (lv' := [(3, .int t0_152), (0, .int x0), (1, .int x1), (2, .int x2)]) hx hb dModel_join_152 rfl hl (by decide) rfl (fun ls hl => ?_)
            refine lv_iload_n hx hb dModel_join_153 rfl (lv_at hl 0 rfl) ?_
            refine lv_if_ne (tgt := 161) hx hb dModel_join_154 (by decide) (fun c17 => ?_) (fun c17 => ?_)
            · refine lv_iload_n hx hb dModel_join_161 rfl (lv_at hl 2 rfl) ?_
              refine pu_Si (rest := []) S hC (m_isHigh l γ _ x1) meModel_isHigh qw_7b38890176 ⟨Nat.le_of_ble_eq_true rfl, Nat.le_of_ble_eq_true rfl⟩ hM rfl hl.1 rfl (Nat.le_of_ble_eq_true rfl) dModel_join_162 ⟨Nat.zero_le _, Nat.zero_le _⟩ (fun r18 hr18 => ?_)
              refine lv_iload_n hx hb dModel_join_165 rfl (lv_at hl 3 rfl) ?_
              refine pu_Si (rest := [.int r18]) S hC (m_isHigh l γ _ x2) meModel_isHigh qw_7b38890176 ⟨Nat.le_of_ble_eq_true rfl, Nat.le_of_ble_eq_true rfl⟩ hM rfl hl.1 rfl (Nat.le_of_ble_eq_true rfl) dModel_join_166 ⟨Nat.zero_le _, Nat.zero_le _⟩ (fun r19 hr19 => ?_)
              refine lv_icmp_ne (tgt := 176) hx hb dModel_join_169 (by decide) (fun c20 => ?_) (fun c20 => ?_)
              · refine lv_iconst (v := 3) hx hb dModel_join_176 (by decide) ?_
                exact hE _ _ _ trivial dModel_join_177
              · refine lv_iconst (v := 2) hx hb dModel_join_172 (by decide) ?_
                refine lv_goto (tgt := 177) hx hb dModel_join_173 (by decide) ?_
                exact hE _ _ _ trivial dModel_join_177
            · refine lv_iconst (v := 1) hx hb dModel_join_157 (by decide) ?_
              refine lv_goto (tgt := 177) hx hb dModel_join_158 (by decide) ?_
              exact hE _ _ _ trivial dModel_join_177
          have J151 : ∀ (ls : Array Slot), lv_has ls 4 [(0, .int x0), (1, .int x1), (2, .int x2)] → W p l e (bs_rm 1 0 0 20) s m args below meth c s.heap [] 0 0 Q (F0 m 151 ls []) := by
            intro ls hl
            refine lv_iconst (v := 0) hx hb dModel_join_151 (by decide) ?_
            exact J152 ls 0 (lv_sub hl [0, 1, 2] rfl)
          have J133 : ∀ (ls : Array Slot), lv_has ls 4 [(0, .int x0), (1, .int x1), (2, .int x2)] → W p l e (bs_rm 1 0 0 20) s m args below meth c s.heap [] 0 0 Q (F0 m 133 ls []) := by
            intro ls hl
            refine lv_iload_n hx hb dModel_join_133 rfl (lv_at hl 2 rfl) ?_
            refine pu_Si (rest := []) S hC (m_isLow l γ _ x2) meModel_isLow qw_50d7321591 ⟨Nat.le_of_ble_eq_true rfl, Nat.le_of_ble_eq_true rfl⟩ hM rfl hl.1 rfl (Nat.le_of_ble_eq_true rfl) dModel_join_134 ⟨Nat.zero_le _, Nat.zero_le _⟩ (fun r21 hr21 => ?_)
            have J147 : ∀ (ls : Array Slot), lv_has ls 4 [(0, .int x0), (1, .int x1), (2, .int x2)] → W p l e (bs_rm 1 0 0 20) s m args below meth c s.heap [] 0 0 Q (F0 m 147 ls []) := by
              intro ls hl
              refine lv_iconst (v := 1) hx hb dModel_join_147 (by decide) ?_
              refine lv_goto (tgt := 152) hx hb dModel_join_148 (by decide) ?_
              exact J152 ls 1 (lv_sub hl [0, 1, 2] rfl)
            refine lv_if_ne (tgt := 147) hx hb dModel_join_137 (by decide) (fun c25 => ?_) (fun c25 => ?_)
            · exact J147 ls  (lv_sub hl [0, 1, 2] rfl)
            · refine lv_iload_n hx hb dModel_join_140 rfl (lv_at hl 2 rfl) ?_
              refine pu_Si (rest := []) S hC (m_isHigh l γ _ x2) meModel_isHigh qw_7b38890176 ⟨Nat.le_of_ble_eq_true rfl, Nat.le_of_ble_eq_true rfl⟩ hM rfl hl.1 rfl (Nat.le_of_ble_eq_true rfl) dModel_join_141 ⟨Nat.zero_le _, Nat.zero_le _⟩ (fun r26 hr26 => ?_)
              refine lv_if_eq (tgt := 151) hx hb dModel_join_144 (by decide) (fun c27 => ?_) (fun c27 => ?_)
              · exact J151 ls  (lv_sub hl [0, 1, 2] rfl)
              · exact J147 ls  (lv_sub hl [0, 1, 2] rfl)
          refine lv_if_ne (tgt := 133) hx hb dModel_join_123 (by decide) (fun c28 => ?_) (fun c28 => ?_)
          · exact J133 ls  (lv_sub hl [0, 1, 2] rfl)
          · refine lv_iload_n hx hb dModel_join_126 rfl (lv_at hl 1 rfl) ?_
            refine pu_Si (rest := []) S hC (m_isHigh l γ _ x1) meModel_isHigh qw_7b38890176 ⟨Nat.le_of_ble_eq_true rfl, Nat.le_of_ble_eq_true rfl⟩ hM rfl hl.1 rfl (Nat.le_of_ble_eq_true rfl) dModel_join_127 ⟨Nat.zero_le _, Nat.zero_le _⟩ (fun r29 hr29 => ?_)
            refine lv_if_eq (tgt := 151) hx hb dModel_join_130 (by decide) (fun c30 => ?_) (fun c30 => ?_)
            · exact J151 ls  (lv_sub hl [0, 1, 2] rfl)
            · exact J133 ls  (lv_sub hl [0, 1, 2] rfl)
        · refine lv_iconst (v := 0) hx hb dModel_join_117 (by decide) ?_
          exact hE _ _ _ trivial dModel_join_118
    · refine lv_iload_n hx hb dModel_join_59 rfl (lv_at hl 1 rfl) ?_
      refine pu_Si (rest := []) S hC (m_isHigh l γ _ x1) meModel_isHigh qw_7b38890176 ⟨Nat.le_of_ble_eq_true rfl, Nat.le_of_ble_eq_true rfl⟩ hM rfl hl.1 rfl (Nat.le_of_ble_eq_true rfl) dModel_join_60 ⟨Nat.zero_le _, Nat.zero_le _⟩ (fun r31 hr31 => ?_)
      have J73 : ∀ (ls : Array Slot), lv_has ls 4 [(0, .int x0), (1, .int x1), (2, .int x2)] → W p l e (bs_rm 1 0 0 20) s m args below meth c s.heap [] 0 0 Q (F0 m 73 ls []) := by
        intro ls hl
        refine lv_iconst (v := 3) hx hb dModel_join_73 (by decide) ?_
        refine lv_goto (tgt := 108) hx hb dModel_join_74 (by decide) ?_
        exact hE _ _ _ trivial dModel_join_108
      refine lv_if_ne (tgt := 73) hx hb dModel_join_63 (by decide) (fun c41 => ?_) (fun c41 => ?_)
      · exact J73 ls  (lv_sub hl [0, 1, 2] rfl)
      · refine lv_iload_n hx hb dModel_join_66 rfl (lv_at hl 2 rfl) ?_
        refine pu_Si (rest := []) S hC (m_isHigh l γ _ x2) meModel_isHigh qw_7b38890176 ⟨Nat.le_of_ble_eq_true rfl, Nat.le_of_ble_eq_true rfl⟩ hM rfl hl.1 rfl (Nat.le_of_ble_eq_true rfl) dModel_join_67 ⟨Nat.zero_le _, Nat.zero_le _⟩ (fun r42 hr42 => ?_)
        refine lv_if_eq (tgt := 77) hx hb dModel_join_70 (by decide) (fun c43 => ?_) (fun c43 => ?_)
        · refine lv_iload_n hx hb dModel_join_77 rfl (lv_at hl 1 rfl) ?_
          have J85 : ∀ (ls : Array Slot), lv_has ls 4 [(0, .int x0), (1, .int x1), (2, .int x2)] → W p l e (bs_rm 1 0 0 20) s m args below meth c s.heap [] 0 0 Q (F0 m 85 ls []) := by
            intro ls hl
            refine lv_iconst (v := 0) hx hb dModel_join_85 (by decide) ?_
            refine lv_goto (tgt := 108) hx hb dModel_join_86 (by decide) ?_
            exact hE _ _ _ trivial dModel_join_108
          refine lv_if_eq (tgt := 85) hx hb dModel_join_78 (by decide) (fun c50 => ?_) (fun c50 => ?_)
          · exact J85 ls  (lv_sub hl [0, 1, 2] rfl)
          · refine lv_iload_n hx hb dModel_join_81 rfl (lv_at hl 2 rfl) ?_
            refine lv_if_ne (tgt := 89) hx hb dModel_join_82 (by decide) (fun c51 => ?_) (fun c51 => ?_)
            · refine lv_iload_n hx hb dModel_join_89 rfl (lv_at hl 1 rfl) ?_
              refine pu_Si (rest := []) S hC (m_isLow l γ _ x1) meModel_isLow qw_50d7321591 ⟨Nat.le_of_ble_eq_true rfl, Nat.le_of_ble_eq_true rfl⟩ hM rfl hl.1 rfl (Nat.le_of_ble_eq_true rfl) dModel_join_90 ⟨Nat.zero_le _, Nat.zero_le _⟩ (fun r52 hr52 => ?_)
              refine lv_if_eq (tgt := 107) hx hb dModel_join_93 (by decide) (fun c53 => ?_) (fun c53 => ?_)
              · refine lv_iconst (v := 1) hx hb dModel_join_107 (by decide) ?_
                exact hE _ _ _ trivial dModel_join_108
              · refine lv_iload_n hx hb dModel_join_96 rfl (lv_at hl 2 rfl) ?_
                refine pu_Si (rest := []) S hC (m_isLow l γ _ x2) meModel_isLow qw_50d7321591 ⟨Nat.le_of_ble_eq_true rfl, Nat.le_of_ble_eq_true rfl⟩ hM rfl hl.1 rfl (Nat.le_of_ble_eq_true rfl) dModel_join_97 ⟨Nat.zero_le _, Nat.zero_le _⟩ (fun r54 hr54 => ?_)
                refine lv_if_eq (tgt := 107) hx hb dModel_join_100 (by decide) (fun c55 => ?_) (fun c55 => ?_)
                · refine lv_iconst (v := 1) hx hb dModel_join_107 (by decide) ?_
                  exact hE _ _ _ trivial dModel_join_108
                · refine lv_iconst (v := 2) hx hb dModel_join_103 (by decide) ?_
                  refine lv_goto (tgt := 108) hx hb dModel_join_104 (by decide) ?_
                  exact hE _ _ _ trivial dModel_join_108
            · exact J85 ls  (lv_sub hl [0, 1, 2] rfl)
        · exact J73 ls  (lv_sub hl [0, 1, 2] rfl)
  · refine lv_iload_n hx hb dModel_join_4 rfl (lv_at hl 1 rfl) ?_
    refine pu_Si (rest := []) S hC (m_isLow l γ _ x1) meModel_isLow qw_50d7321591 ⟨Nat.le_of_ble_eq_true rfl, Nat.le_of_ble_eq_true rfl⟩ hM rfl hl.1 rfl (Nat.le_of_ble_eq_true rfl) dModel_join_5 ⟨Nat.zero_le _, Nat.zero_le _⟩ (fun r56 hr56 => ?_)
    have J18 : ∀ (ls : Array Slot), lv_has ls 4 [(0, .int x0), (1, .int x1), (2, .int x2)] → W p l e (bs_rm 1 0 0 20) s m args below meth c s.heap [] 0 0 Q (F0 m 18 ls []) := by
      intro ls hl
      refine lv_iconst (v := 2) hx hb dModel_join_18 (by decide) ?_
      refine lv_goto (tgt := 53) hx hb dModel_join_19 (by decide) ?_
      exact hE _ _ _ trivial dModel_join_53
    refine lv_if_ne (tgt := 18) hx hb dModel_join_8 (by decide) (fun c66 => ?_) (fun c66 => ?_)
    · exact J18 ls  (lv_sub hl [0, 1, 2] rfl)
    · refine lv_iload_n hx hb dModel_join_11 rfl (lv_at hl 2 rfl) ?_
      refine pu_Si (rest := []) S hC (m_isLow l γ _ x2) meModel_isLow qw_50d7321591 ⟨Nat.le_of_ble_eq_true rfl, Nat.le_of_ble_eq_true rfl⟩ hM rfl hl.1 rfl (Nat.le_of_ble_eq_true rfl) dModel_join_12 ⟨Nat.zero_le _, Nat.zero_le _⟩ (fun r67 hr67 => ?_)
      refine lv_if_eq (tgt := 22) hx hb dModel_join_15 (by decide) (fun c68 => ?_) (fun c68 => ?_)
      · refine lv_iload_n hx hb dModel_join_22 rfl (lv_at hl 1 rfl) ?_
        have J30 : ∀ (ls : Array Slot), lv_has ls 4 [(0, .int x0), (1, .int x1), (2, .int x2)] → W p l e (bs_rm 1 0 0 20) s m args below meth c s.heap [] 0 0 Q (F0 m 30 ls []) := by
          intro ls hl
          refine lv_iconst (v := 0) hx hb dModel_join_30 (by decide) ?_
          refine lv_goto (tgt := 53) hx hb dModel_join_31 (by decide) ?_
          exact hE _ _ _ trivial dModel_join_53
        refine lv_if_eq (tgt := 30) hx hb dModel_join_23 (by decide) (fun c75 => ?_) (fun c75 => ?_)
        · exact J30 ls  (lv_sub hl [0, 1, 2] rfl)
        · refine lv_iload_n hx hb dModel_join_26 rfl (lv_at hl 2 rfl) ?_
          refine lv_if_ne (tgt := 34) hx hb dModel_join_27 (by decide) (fun c76 => ?_) (fun c76 => ?_)
          · refine lv_iload_n hx hb dModel_join_34 rfl (lv_at hl 1 rfl) ?_
            refine pu_Si (rest := []) S hC (m_isHigh l γ _ x1) meModel_isHigh qw_7b38890176 ⟨Nat.le_of_ble_eq_true rfl, Nat.le_of_ble_eq_true rfl⟩ hM rfl hl.1 rfl (Nat.le_of_ble_eq_true rfl) dModel_join_35 ⟨Nat.zero_le _, Nat.zero_le _⟩ (fun r77 hr77 => ?_)
            refine lv_if_eq (tgt := 52) hx hb dModel_join_38 (by decide) (fun c78 => ?_) (fun c78 => ?_)
            · refine lv_iconst (v := 1) hx hb dModel_join_52 (by decide) ?_
              exact hE _ _ _ trivial dModel_join_53
            · refine lv_iload_n hx hb dModel_join_41 rfl (lv_at hl 2 rfl) ?_
              refine pu_Si (rest := []) S hC (m_isHigh l γ _ x2) meModel_isHigh qw_7b38890176 ⟨Nat.le_of_ble_eq_true rfl, Nat.le_of_ble_eq_true rfl⟩ hM rfl hl.1 rfl (Nat.le_of_ble_eq_true rfl) dModel_join_42 ⟨Nat.zero_le _, Nat.zero_le _⟩ (fun r79 hr79 => ?_)
              refine lv_if_eq (tgt := 52) hx hb dModel_join_45 (by decide) (fun c80 => ?_) (fun c80 => ?_)
              · refine lv_iconst (v := 1) hx hb dModel_join_52 (by decide) ?_
                exact hE _ _ _ trivial dModel_join_53
              · refine lv_iconst (v := 3) hx hb dModel_join_48 (by decide) ?_
                refine lv_goto (tgt := 53) hx hb dModel_join_49 (by decide) ?_
                exact hE _ _ _ trivial dModel_join_53
          · exact J30 ls  (lv_sub hl [0, 1, 2] rfl)
      · exact J18 ls  (lv_sub hl [0, 1, 2] rfl)
theorem qw_c5109eb5e5 : (Cond.methodLink R_Model 184 yModel_join) ∈ bs_W0 := bs_in (in_tables_1_6 (List.mem_of_getElem? (i := 130) rfl)) rfl
theorem qw_ecedfa5d8c : (Cond.methodLink R_Model 187 yModel_not) ∈ bs_W0 := bs_in (in_tables_1_6 (List.mem_of_getElem? (i := 107) rfl)) rfl
set_option maxHeartbeats 4000000 in
set_option maxRecDepth 100000 in
theorem m_logic (l : Launch) (γ : gE) (P : Heap → Prop) (x0 : Int32) (x1 : Int32) (x2 : Int32) : PU l yModel_logic bModel_logic 4 (some .int) 2 43 [.int x0, .int x1, .int x2] γ P (vp_Si (fun v : Int32 => True)) := by
  refine pu_openI (by decide) (Nat.le_of_ble_eq_true rfl) ?_
  intro p e s m args below meth c ls Q S hC hM hE hl
  obtain ⟨hx, hb, hml, hown, hW⟩ := id S
  have hl : lv_has ls 4 [(0, .int x0), (1, .int x1), (2, .int x2)] := hl
  refine lv_iload_n hx hb dModel_logic_0 rfl (lv_at hl 0 rfl) ?_
  refine lv_iconst (v := 2) hx hb dModel_logic_1 (by decide) ?_
  have J28 : ∀ (ls : Array Slot) (t0_28 : Int32), lv_has ls 4 [(0, .int x0), (1, .int x1), (2, .int x2)] → W p l e (bs_rm 2 0 0 43) s m args below meth c s.heap [] 0 0 Q (F0 m 28 ls [.int t0_28]) := by
    intro ls t0_28 hl
    refine lv_iload_n hx hb dModel_logic_28 rfl (lv_at hl 1 rfl) ?_
    refine lv_iload_n hx hb dModel_logic_29 rfl (lv_at hl 2 rfl) ?_
    refine pu_Si (rest := []) S hC (m_join l γ _ t0_28 x1 x2) meModel_join qw_c5109eb5e5 ⟨Nat.le_of_ble_eq_true rfl, Nat.le_of_ble_eq_true rfl⟩ hM rfl hl.1 rfl (Nat.le_of_ble_eq_true rfl) dModel_logic_30 ⟨Nat.zero_le _, Nat.zero_le _⟩ (fun r9 hr9 => ?_)
    refine lv_istore_n (lv' := [(3, .int r9), (0, .int x0), (1, .int x1), (2, .int x2)]) hx hb dModel_logic_33 rfl hl (by decide) rfl (fun ls hl => ?_)
    refine lv_iload_n hx hb dModel_logic_34 rfl (lv_at hl 1 rfl) ?_
    refine lv_iconst (v := 2) hx hb dModel_logic_35 (by decide) ?_
    have J49 : ∀ (ls : Array Slot), lv_has ls 4 [(0, .int x0), (1, .int x1), (2, .int x2), (3, .int r9)] → W p l e (bs_rm 2 0 0 43) s m args below meth c s.heap [] 0 0 Q (F0 m 49 ls []) := by
      intro ls hl
      refine lv_iload_n hx hb dModel_logic_49 rfl (lv_at hl 3 rfl) ?_
      refine pu_Si (rest := []) S hC (m_not l γ _ r9) meModel_not qw_ecedfa5d8c ⟨Nat.le_of_ble_eq_true rfl, Nat.le_of_ble_eq_true rfl⟩ hM rfl hl.1 rfl (Nat.le_of_ble_eq_true rfl) dModel_logic_50 ⟨Nat.zero_le _, Nat.zero_le _⟩ (fun r14 hr14 => ?_)
      refine lv_goto (tgt := 57) hx hb dModel_logic_53 (by decide) ?_
      exact hE _ _ _ trivial dModel_logic_57
    refine lv_icmp_eq (tgt := 49) hx hb dModel_logic_36 (by decide) (fun c15 => ?_) (fun c15 => ?_)
    · exact J49 ls  (lv_sub hl [1, 2, 3, 0] rfl)
    · refine lv_iload_n hx hb dModel_logic_39 rfl (lv_at hl 1 rfl) ?_
      refine lv_iconst (v := 3) hx hb dModel_logic_40 (by decide) ?_
      refine lv_icmp_eq (tgt := 49) hx hb dModel_logic_41 (by decide) (fun c16 => ?_) (fun c16 => ?_)
      · exact J49 ls  (lv_sub hl [1, 2, 3, 0] rfl)
      · refine lv_iload_n hx hb dModel_logic_44 rfl (lv_at hl 1 rfl) ?_
        refine lv_iconst (v := 5) hx hb dModel_logic_45 (by decide) ?_
        refine lv_icmp_ne (tgt := 56) hx hb dModel_logic_46 (by decide) (fun c17 => ?_) (fun c17 => ?_)
        · refine lv_iload_n hx hb dModel_logic_56 rfl (lv_at hl 0 rfl) ?_
          exact hE _ _ _ trivial dModel_logic_57
        · exact J49 ls  (lv_sub hl [1, 2, 3, 0] rfl)
  refine lv_icmp_ne (tgt := 9) hx hb dModel_logic_2 (by decide) (fun c18 => ?_) (fun c18 => ?_)
  · refine lv_iload_n hx hb dModel_logic_9 rfl (lv_at hl 0 rfl) ?_
    refine lv_iconst (v := 3) hx hb dModel_logic_10 (by decide) ?_
    refine lv_icmp_ne (tgt := 18) hx hb dModel_logic_11 (by decide) (fun c19 => ?_) (fun c19 => ?_)
    · refine lv_iload_n hx hb dModel_logic_18 rfl (lv_at hl 0 rfl) ?_
      refine lv_iconst (v := 5) hx hb dModel_logic_19 (by decide) ?_
      refine lv_icmp_ne (tgt := 27) hx hb dModel_logic_20 (by decide) (fun c20 => ?_) (fun c20 => ?_)
      · refine lv_iload_n hx hb dModel_logic_27 rfl (lv_at hl 0 rfl) ?_
        exact J28 ls x0 (lv_sub hl [0, 1, 2] rfl)
      · refine lv_iconst (v := 4) hx hb dModel_logic_23 (by decide) ?_
        refine lv_goto (tgt := 28) hx hb dModel_logic_24 (by decide) ?_
        exact J28 ls 4 (lv_sub hl [0, 1, 2] rfl)
    · refine lv_iconst (v := 1) hx hb dModel_logic_14 (by decide) ?_
      refine lv_goto (tgt := 28) hx hb dModel_logic_15 (by decide) ?_
      exact J28 ls 1 (lv_sub hl [0, 1, 2] rfl)
  · refine lv_iconst (v := 0) hx hb dModel_logic_5 (by decide) ?_
    refine lv_goto (tgt := 28) hx hb dModel_logic_6 (by decide) ?_
    exact J28 ls 0 (lv_sub hl [0, 1, 2] rfl)
