theorem dModel_subtype_0 : decode bModel_subtype 0 = .ok (.aload_n 0, 1) := by decide +kernel
theorem dModel_subtype_1 : decode bModel_subtype 1 = .ok (.aload_n 0, 1) := by decide +kernel
theorem dModel_subtype_2 : decode bModel_subtype 2 = .ok (.iload_n 2, 1) := by decide +kernel
theorem dModel_subtype_3 : decode bModel_subtype 3 = .ok (.invokevirtual 288, 3) := by decide +kernel
theorem dModel_subtype_6 : decode bModel_subtype 6 = .ok (.ifCond .eq 7, 3) := by decide +kernel
theorem dModel_subtype_9 : decode bModel_subtype 9 = .ok (.iconst 1, 1) := by decide +kernel
theorem dModel_subtype_10 : decode bModel_subtype 10 = .ok (.goto 15, 3) := by decide +kernel
theorem dModel_subtype_13 : decode bModel_subtype 13 = .ok (.iload_n 1, 1) := by decide +kernel
theorem dModel_subtype_14 : decode bModel_subtype 14 = .ok (.invokestatic 111, 3) := by decide +kernel
theorem dModel_subtype_17 : decode bModel_subtype 17 = .ok (.ifCond .ne 7, 3) := by decide +kernel
theorem dModel_subtype_20 : decode bModel_subtype 20 = .ok (.iconst 2, 1) := by decide +kernel
theorem dModel_subtype_21 : decode bModel_subtype 21 = .ok (.goto 4, 3) := by decide +kernel
theorem dModel_subtype_24 : decode bModel_subtype 24 = .ok (.iconst 0, 1) := by decide +kernel
theorem dModel_subtype_25 : decode bModel_subtype 25 = .ok (.putfield 99, 3) := by decide +kernel
theorem dModel_subtype_28 : decode bModel_subtype 28 = .ok (.aload_n 0, 1) := by decide +kernel
theorem dModel_subtype_29 : decode bModel_subtype 29 = .ok (.getfield 99, 3) := by decide +kernel
theorem dModel_subtype_32 : decode bModel_subtype 32 = .ok (.ifCond .le 5, 3) := by decide +kernel
theorem dModel_subtype_35 : decode bModel_subtype 35 = .ok (.iconst 0, 1) := by decide +kernel
theorem dModel_subtype_36 : decode bModel_subtype 36 = .ok (.ireturn, 1) := by decide +kernel
theorem dModel_subtype_37 : decode bModel_subtype 37 = .ok (.aload_n 0, 1) := by decide +kernel
theorem dModel_subtype_38 : decode bModel_subtype 38 = .ok (.iload_n 1, 1) := by decide +kernel
theorem dModel_subtype_39 : decode bModel_subtype 39 = .ok (.invokevirtual 281, 3) := by decide +kernel
theorem dModel_subtype_42 : decode bModel_subtype 42 = .ok (.ifCond .eq 11, 3) := by decide +kernel
theorem dModel_subtype_45 : decode bModel_subtype 45 = .ok (.aload_n 0, 1) := by decide +kernel
theorem dModel_subtype_46 : decode bModel_subtype 46 = .ok (.iconst (-1), 1) := by decide +kernel
theorem dModel_subtype_47 : decode bModel_subtype 47 = .ok (.bipush 7, 2) := by decide +kernel
theorem dModel_subtype_49 : decode bModel_subtype 49 = .ok (.invokevirtual 272, 3) := by decide +kernel
theorem dModel_subtype_52 : decode bModel_subtype 52 = .ok (.ireturn, 1) := by decide +kernel
theorem dModel_subtype_53 : decode bModel_subtype 53 = .ok (.aload_n 0, 1) := by decide +kernel
theorem dModel_subtype_54 : decode bModel_subtype 54 = .ok (.aload_n 0, 1) := by decide +kernel
theorem dModel_subtype_55 : decode bModel_subtype 55 = .ok (.getfield 115, 3) := by decide +kernel
theorem dModel_subtype_58 : decode bModel_subtype 58 = .ok (.sipush 3000, 3) := by decide +kernel
theorem dModel_subtype_61 : decode bModel_subtype 61 = .ok (.if_icmp .ne 7, 3) := by decide +kernel
theorem dModel_subtype_64 : decode bModel_subtype 64 = .ok (.iconst 3, 1) := by decide +kernel
theorem dModel_subtype_65 : decode bModel_subtype 65 = .ok (.goto 4, 3) := by decide +kernel
theorem dModel_subtype_68 : decode bModel_subtype 68 = .ok (.iconst 0, 1) := by decide +kernel
theorem dModel_subtype_69 : decode bModel_subtype 69 = .ok (.putfield 99, 3) := by decide +kernel
theorem dModel_subtype_72 : decode bModel_subtype 72 = .ok (.aload_n 0, 1) := by decide +kernel
theorem dModel_subtype_73 : decode bModel_subtype 73 = .ok (.getfield 99, 3) := by decide +kernel
theorem dModel_subtype_76 : decode bModel_subtype 76 = .ok (.ifCond .le 5, 3) := by decide +kernel
theorem dModel_subtype_79 : decode bModel_subtype 79 = .ok (.iconst 0, 1) := by decide +kernel
theorem dModel_subtype_80 : decode bModel_subtype 80 = .ok (.ireturn, 1) := by decide +kernel
theorem dModel_subtype_81 : decode bModel_subtype 81 = .ok (.aload_n 0, 1) := by decide +kernel
theorem dModel_subtype_82 : decode bModel_subtype 82 = .ok (.iconst (-1), 1) := by decide +kernel
theorem dModel_subtype_83 : decode bModel_subtype 83 = .ok (.putfield 9, 3) := by decide +kernel
theorem dModel_subtype_86 : decode bModel_subtype 86 = .ok (.aload_n 0, 1) := by decide +kernel
theorem dModel_subtype_87 : decode bModel_subtype 87 = .ok (.iload_n 1, 1) := by decide +kernel
theorem dModel_subtype_88 : decode bModel_subtype 88 = .ok (.iconst 0, 1) := by decide +kernel
theorem dModel_subtype_89 : decode bModel_subtype 89 = .ok (.iload_n 2, 1) := by decide +kernel
theorem dModel_subtype_90 : decode bModel_subtype 90 = .ok (.iconst 0, 1) := by decide +kernel
theorem dModel_subtype_91 : decode bModel_subtype 91 = .ok (.invokevirtual 284, 3) := by decide +kernel
theorem dModel_subtype_94 : decode bModel_subtype 94 = .ok (.iconst 0, 1) := by decide +kernel
theorem dModel_subtype_95 : decode bModel_subtype 95 = .ok (.ireturn, 1) := by decide +kernel
theorem dModel_fits_0 : decode bModel_fits 0 = .ok (.aload_n 0, 1) := by decide +kernel
theorem dModel_fits_1 : decode bModel_fits 1 = .ok (.getfield 29, 3) := by decide +kernel
theorem dModel_fits_4 : decode bModel_fits 4 = .ok (.iload_n 1, 1) := by decide +kernel
theorem dModel_fits_5 : decode bModel_fits 5 = .ok (.iaload, 1) := by decide +kernel
theorem dModel_fits_6 : decode bModel_fits 6 = .ok (.aload_n 0, 1) := by decide +kernel
theorem dModel_fits_7 : decode bModel_fits 7 = .ok (.getfield 54, 3) := by decide +kernel
theorem dModel_fits_10 : decode bModel_fits 10 = .ok (.iload_n 2, 1) := by decide +kernel
theorem dModel_fits_11 : decode bModel_fits 11 = .ok (.iaload, 1) := by decide +kernel
theorem dModel_fits_12 : decode bModel_fits 12 = .ok (.if_icmp .ne 23, 3) := by decide +kernel
theorem dModel_fits_15 : decode bModel_fits 15 = .ok (.aload_n 0, 1) := by decide +kernel
theorem dModel_fits_16 : decode bModel_fits 16 = .ok (.getfield 29, 3) := by decide +kernel
theorem dModel_fits_19 : decode bModel_fits 19 = .ok (.iload_n 1, 1) := by decide +kernel
theorem dModel_fits_20 : decode bModel_fits 20 = .ok (.iaload, 1) := by decide +kernel
theorem dModel_fits_21 : decode bModel_fits 21 = .ok (.iconst 4, 1) := by decide +kernel
theorem dModel_fits_22 : decode bModel_fits 22 = .ok (.if_icmp .ne 15, 3) := by decide +kernel
theorem dModel_fits_25 : decode bModel_fits 25 = .ok (.aload_n 0, 1) := by decide +kernel
theorem dModel_fits_26 : decode bModel_fits 26 = .ok (.getfield 32, 3) := by decide +kernel
theorem dModel_fits_29 : decode bModel_fits 29 = .ok (.iload_n 1, 1) := by decide +kernel
theorem dModel_fits_30 : decode bModel_fits 30 = .ok (.iaload, 1) := by decide +kernel
theorem dModel_fits_31 : decode bModel_fits 31 = .ok (.iload_n 2, 1) := by decide +kernel
theorem dModel_fits_32 : decode bModel_fits 32 = .ok (.if_icmp .eq 5, 3) := by decide +kernel
theorem dModel_fits_35 : decode bModel_fits 35 = .ok (.iconst 3, 1) := by decide +kernel
theorem dModel_fits_36 : decode bModel_fits 36 = .ok (.ireturn, 1) := by decide +kernel
theorem dModel_fits_37 : decode bModel_fits 37 = .ok (.aload_n 0, 1) := by decide +kernel
theorem dModel_fits_38 : decode bModel_fits 38 = .ok (.getfield 29, 3) := by decide +kernel
theorem dModel_fits_41 : decode bModel_fits 41 = .ok (.iload_n 1, 1) := by decide +kernel
theorem dModel_fits_42 : decode bModel_fits 42 = .ok (.iaload, 1) := by decide +kernel
theorem dModel_fits_43 : decode bModel_fits 43 = .ok (.iconst 3, 1) := by decide +kernel
theorem dModel_fits_44 : decode bModel_fits 44 = .ok (.if_icmp .ne 20, 3) := by decide +kernel
theorem dModel_fits_47 : decode bModel_fits 47 = .ok (.aload_n 0, 1) := by decide +kernel
theorem dModel_fits_48 : decode bModel_fits 48 = .ok (.getfield 32, 3) := by decide +kernel
theorem dModel_fits_51 : decode bModel_fits 51 = .ok (.iload_n 1, 1) := by decide +kernel
theorem dModel_fits_52 : decode bModel_fits 52 = .ok (.iaload, 1) := by decide +kernel
theorem dModel_fits_53 : decode bModel_fits 53 = .ok (.aload_n 0, 1) := by decide +kernel
theorem dModel_fits_54 : decode bModel_fits 54 = .ok (.getfield 63, 3) := by decide +kernel
theorem dModel_fits_57 : decode bModel_fits 57 = .ok (.iload_n 2, 1) := by decide +kernel
theorem dModel_fits_58 : decode bModel_fits 58 = .ok (.iaload, 1) := by decide +kernel
theorem dModel_fits_59 : decode bModel_fits 59 = .ok (.if_icmp .eq 5, 3) := by decide +kernel
theorem dModel_fits_62 : decode bModel_fits 62 = .ok (.iconst 4, 1) := by decide +kernel
theorem dModel_fits_63 : decode bModel_fits 63 = .ok (.ireturn, 1) := by decide +kernel
theorem dModel_fits_64 : decode bModel_fits 64 = .ok (.aload_n 0, 1) := by decide +kernel
theorem dModel_fits_65 : decode bModel_fits 65 = .ok (.getfield 29, 3) := by decide +kernel
theorem dModel_fits_68 : decode bModel_fits 68 = .ok (.iload_n 1, 1) := by decide +kernel
theorem dModel_fits_69 : decode bModel_fits 69 = .ok (.iaload, 1) := by decide +kernel
theorem dModel_fits_70 : decode bModel_fits 70 = .ok (.iconst 2, 1) := by decide +kernel
theorem dModel_fits_71 : decode bModel_fits 71 = .ok (.if_icmp .ne 51, 3) := by decide +kernel
theorem dModel_fits_74 : decode bModel_fits 74 = .ok (.aload_n 0, 1) := by decide +kernel
theorem dModel_fits_75 : decode bModel_fits 75 = .ok (.getfield 35, 3) := by decide +kernel
theorem dModel_fits_78 : decode bModel_fits 78 = .ok (.iload_n 1, 1) := by decide +kernel
theorem dModel_fits_79 : decode bModel_fits 79 = .ok (.baload, 1) := by decide +kernel
theorem dModel_fits_80 : decode bModel_fits 80 = .ok (.ifCond .eq 42, 3) := by decide +kernel
theorem dModel_fits_83 : decode bModel_fits 83 = .ok (.aload_n 0, 1) := by decide +kernel
theorem dModel_fits_84 : decode bModel_fits 84 = .ok (.getfield 42, 3) := by decide +kernel
theorem dModel_fits_87 : decode bModel_fits 87 = .ok (.iload_n 1, 1) := by decide +kernel
theorem dModel_fits_88 : decode bModel_fits 88 = .ok (.laload, 1) := by decide +kernel
theorem dModel_fits_89 : decode bModel_fits 89 = .ok (.aload_n 0, 1) := by decide +kernel
theorem dModel_fits_90 : decode bModel_fits 90 = .ok (.getfield 57, 3) := by decide +kernel
theorem dModel_fits_93 : decode bModel_fits 93 = .ok (.iload_n 2, 1) := by decide +kernel
theorem dModel_fits_94 : decode bModel_fits 94 = .ok (.iaload, 1) := by decide +kernel
theorem dModel_fits_95 : decode bModel_fits 95 = .ok (.i2l, 1) := by decide +kernel
theorem dModel_fits_96 : decode bModel_fits 96 = .ok (.lcmp, 1) := by decide +kernel
theorem dModel_fits_97 : decode bModel_fits 97 = .ok (.ifCond .lt 20, 3) := by decide +kernel
theorem dModel_fits_100 : decode bModel_fits 100 = .ok (.aload_n 0, 1) := by decide +kernel
theorem dModel_fits_101 : decode bModel_fits 101 = .ok (.getfield 42, 3) := by decide +kernel
theorem dModel_fits_104 : decode bModel_fits 104 = .ok (.iload_n 1, 1) := by decide +kernel
theorem dModel_fits_105 : decode bModel_fits 105 = .ok (.laload, 1) := by decide +kernel
theorem dModel_fits_106 : decode bModel_fits 106 = .ok (.aload_n 0, 1) := by decide +kernel
theorem dModel_fits_107 : decode bModel_fits 107 = .ok (.getfield 60, 3) := by decide +kernel
theorem dModel_fits_110 : decode bModel_fits 110 = .ok (.iload_n 2, 1) := by decide +kernel
theorem dModel_fits_111 : decode bModel_fits 111 = .ok (.iaload, 1) := by decide +kernel
theorem dModel_fits_112 : decode bModel_fits 112 = .ok (.i2l, 1) := by decide +kernel
theorem dModel_fits_113 : decode bModel_fits 113 = .ok (.lcmp, 1) := by decide +kernel
theorem dModel_fits_114 : decode bModel_fits 114 = .ok (.ifCond .le 8, 3) := by decide +kernel
theorem dModel_fits_117 : decode bModel_fits 117 = .ok (.bipush 8, 2) := by decide +kernel
theorem dModel_fits_119 : decode bModel_fits 119 = .ok (.goto 4, 3) := by decide +kernel
theorem dModel_fits_122 : decode bModel_fits 122 = .ok (.iconst 0, 1) := by decide +kernel
theorem dModel_fits_123 : decode bModel_fits 123 = .ok (.ireturn, 1) := by decide +kernel
theorem dModel_declare_0 : decode bModel_declare 0 = .ok (.aload_n 0, 1) := by decide +kernel
theorem dModel_declare_1 : decode bModel_declare 1 = .ok (.aload_n 0, 1) := by decide +kernel
theorem dModel_declare_2 : decode bModel_declare 2 = .ok (.iload_n 3, 1) := by decide +kernel
theorem dModel_declare_3 : decode bModel_declare 3 = .ok (.invokevirtual 288, 3) := by decide +kernel
theorem dModel_declare_6 : decode bModel_declare 6 = .ok (.ifCond .ne 16, 3) := by decide +kernel
theorem dModel_declare_9 : decode bModel_declare 9 = .ok (.iload_n 1, 1) := by decide +kernel
theorem dModel_declare_10 : decode bModel_declare 10 = .ok (.ifCond .ne 16, 3) := by decide +kernel
theorem dModel_declare_13 : decode bModel_declare 13 = .ok (.aload_n 0, 1) := by decide +kernel
theorem dModel_declare_14 : decode bModel_declare 14 = .ok (.iload 4, 2) := by decide +kernel
theorem dModel_declare_16 : decode bModel_declare 16 = .ok (.invokevirtual 266, 3) := by decide +kernel
theorem dModel_declare_19 : decode bModel_declare 19 = .ok (.ifCond .eq 7, 3) := by decide +kernel
theorem dModel_declare_22 : decode bModel_declare 22 = .ok (.iconst 1, 1) := by decide +kernel
theorem dModel_declare_23 : decode bModel_declare 23 = .ok (.goto 24, 3) := by decide +kernel
theorem dModel_declare_26 : decode bModel_declare 26 = .ok (.iload_n 1, 1) := by decide +kernel
theorem dModel_declare_27 : decode bModel_declare 27 = .ok (.ifCond .lt 15, 3) := by decide +kernel
theorem dModel_declare_30 : decode bModel_declare 30 = .ok (.iload_n 1, 1) := by decide +kernel
theorem dModel_declare_31 : decode bModel_declare 31 = .ok (.iconst 2, 1) := by decide +kernel
theorem dModel_declare_32 : decode bModel_declare 32 = .ok (.if_icmp .gt 10, 3) := by decide +kernel
theorem dModel_declare_35 : decode bModel_declare 35 = .ok (.iload_n 2, 1) := by decide +kernel
theorem dModel_declare_36 : decode bModel_declare 36 = .ok (.invokestatic 111, 3) := by decide +kernel
theorem dModel_declare_39 : decode bModel_declare 39 = .ok (.ifCond .ne 7, 3) := by decide +kernel
theorem dModel_declare_42 : decode bModel_declare 42 = .ok (.iconst 2, 1) := by decide +kernel
theorem dModel_declare_43 : decode bModel_declare 43 = .ok (.goto 4, 3) := by decide +kernel
theorem dModel_declare_46 : decode bModel_declare 46 = .ok (.iconst 0, 1) := by decide +kernel
theorem dModel_declare_47 : decode bModel_declare 47 = .ok (.putfield 99, 3) := by decide +kernel
theorem dModel_declare_50 : decode bModel_declare 50 = .ok (.aload_n 0, 1) := by decide +kernel
theorem dModel_declare_51 : decode bModel_declare 51 = .ok (.getfield 99, 3) := by decide +kernel
theorem dModel_declare_54 : decode bModel_declare 54 = .ok (.ifCond .le 5, 3) := by decide +kernel
theorem dModel_declare_57 : decode bModel_declare 57 = .ok (.iconst 0, 1) := by decide +kernel
theorem dModel_declare_58 : decode bModel_declare 58 = .ok (.ireturn, 1) := by decide +kernel
theorem dModel_declare_59 : decode bModel_declare 59 = .ok (.aload_n 0, 1) := by decide +kernel
theorem dModel_declare_60 : decode bModel_declare 60 = .ok (.getfield 9, 3) := by decide +kernel
theorem dModel_declare_63 : decode bModel_declare 63 = .ok (.istore 5, 2) := by decide +kernel
theorem dModel_declare_65 : decode bModel_declare 65 = .ok (.iload_n 1, 1) := by decide +kernel
theorem dModel_declare_66 : decode bModel_declare 66 = .ok (.ifCond .ne 75, 3) := by decide +kernel
theorem dModel_declare_69 : decode bModel_declare 69 = .ok (.aload_n 0, 1) := by decide +kernel
theorem dModel_declare_70 : decode bModel_declare 70 = .ok (.aload_n 0, 1) := by decide +kernel
theorem dModel_declare_71 : decode bModel_declare 71 = .ok (.getfield 23, 3) := by decide +kernel
theorem dModel_declare_74 : decode bModel_declare 74 = .ok (.iload 4, 2) := by decide +kernel
theorem dModel_declare_76 : decode bModel_declare 76 = .ok (.iaload, 1) := by decide +kernel
theorem dModel_declare_77 : decode bModel_declare 77 = .ok (.iload 4, 2) := by decide +kernel
theorem dModel_declare_79 : decode bModel_declare 79 = .ok (.invokevirtual 269, 3) := by decide +kernel
theorem dModel_declare_82 : decode bModel_declare 82 = .ok (.istore 6, 2) := by decide +kernel
theorem dModel_declare_84 : decode bModel_declare 84 = .ok (.iload 6, 2) := by decide +kernel
theorem dModel_declare_86 : decode bModel_declare 86 = .ok (.ifCond .le 7, 3) := by decide +kernel
theorem dModel_declare_89 : decode bModel_declare 89 = .ok (.iload 6, 2) := by decide +kernel
theorem dModel_declare_91 : decode bModel_declare 91 = .ok (.ineg, 1) := by decide +kernel
theorem dModel_declare_92 : decode bModel_declare 92 = .ok (.ireturn, 1) := by decide +kernel
theorem dModel_declare_93 : decode bModel_declare 93 = .ok (.aload_n 0, 1) := by decide +kernel
theorem dModel_declare_94 : decode bModel_declare 94 = .ok (.iload 4, 2) := by decide +kernel
theorem dModel_declare_96 : decode bModel_declare 96 = .ok (.iload_n 3, 1) := by decide +kernel
theorem dModel_declare_97 : decode bModel_declare 97 = .ok (.invokevirtual 291, 3) := by decide +kernel
theorem dModel_declare_100 : decode bModel_declare 100 = .ok (.istore 6, 2) := by decide +kernel
theorem dModel_declare_102 : decode bModel_declare 102 = .ok (.iload 6, 2) := by decide +kernel
theorem dModel_declare_104 : decode bModel_declare 104 = .ok (.iconst 3, 1) := by decide +kernel
theorem dModel_declare_105 : decode bModel_declare 105 = .ok (.if_icmp .eq 22, 3) := by decide +kernel
theorem dModel_declare_108 : decode bModel_declare 108 = .ok (.iload 6, 2) := by decide +kernel
theorem dModel_declare_110 : decode bModel_declare 110 = .ok (.iconst 4, 1) := by decide +kernel
theorem dModel_declare_111 : decode bModel_declare 111 = .ok (.if_icmp .eq 16, 3) := by decide +kernel
theorem dModel_declare_114 : decode bModel_declare 114 = .ok (.aload_n 0, 1) := by decide +kernel
theorem dModel_declare_115 : decode bModel_declare 115 = .ok (.getfield 35, 3) := by decide +kernel
theorem dModel_declare_118 : decode bModel_declare 118 = .ok (.iload 4, 2) := by decide +kernel
theorem dModel_declare_120 : decode bModel_declare 120 = .ok (.baload, 1) := by decide +kernel
theorem dModel_declare_121 : decode bModel_declare 121 = .ok (.ifCond .ne 6, 3) := by decide +kernel
theorem dModel_declare_124 : decode bModel_declare 124 = .ok (.iconst 5, 1) := by decide +kernel
theorem dModel_declare_125 : decode bModel_declare 125 = .ok (.istore 6, 2) := by decide +kernel
theorem dModel_declare_127 : decode bModel_declare 127 = .ok (.iload 6, 2) := by decide +kernel
theorem dModel_declare_129 : decode bModel_declare 129 = .ok (.ifCond .le 12, 3) := by decide +kernel
theorem dModel_declare_132 : decode bModel_declare 132 = .ok (.aload_n 0, 1) := by decide +kernel
theorem dModel_declare_133 : decode bModel_declare 133 = .ok (.iload 4, 2) := by decide +kernel
theorem dModel_declare_135 : decode bModel_declare 135 = .ok (.iload 6, 2) := by decide +kernel
theorem dModel_declare_137 : decode bModel_declare 137 = .ok (.invokevirtual 272, 3) := by decide +kernel
theorem dModel_declare_140 : decode bModel_declare 140 = .ok (.ireturn, 1) := by decide +kernel
theorem dModel_declare_141 : decode bModel_declare 141 = .ok (.aload_n 0, 1) := by decide +kernel
theorem dModel_declare_142 : decode bModel_declare 142 = .ok (.iload_n 2, 1) := by decide +kernel
theorem dModel_declare_143 : decode bModel_declare 143 = .ok (.invokevirtual 281, 3) := by decide +kernel
theorem dModel_declare_146 : decode bModel_declare 146 = .ok (.ifCond .eq 11, 3) := by decide +kernel
theorem dModel_declare_149 : decode bModel_declare 149 = .ok (.aload_n 0, 1) := by decide +kernel
theorem dModel_declare_150 : decode bModel_declare 150 = .ok (.iconst (-1), 1) := by decide +kernel
theorem dModel_declare_151 : decode bModel_declare 151 = .ok (.bipush 7, 2) := by decide +kernel
theorem dModel_declare_153 : decode bModel_declare 153 = .ok (.invokevirtual 272, 3) := by decide +kernel
theorem dModel_declare_156 : decode bModel_declare 156 = .ok (.ireturn, 1) := by decide +kernel
theorem dModel_declare_157 : decode bModel_declare 157 = .ok (.aload_n 0, 1) := by decide +kernel
theorem dModel_declare_158 : decode bModel_declare 158 = .ok (.getfield 294, 3) := by decide +kernel
theorem dModel_declare_161 : decode bModel_declare 161 = .ok (.sipush 2000, 3) := by decide +kernel
theorem dModel_declare_164 : decode bModel_declare 164 = .ok (.if_icmp .eq 13, 3) := by decide +kernel
theorem dModel_declare_167 : decode bModel_declare 167 = .ok (.aload_n 0, 1) := by decide +kernel
theorem dModel_declare_168 : decode bModel_declare 168 = .ok (.getfield 115, 3) := by decide +kernel
theorem dModel_declare_171 : decode bModel_declare 171 = .ok (.sipush 3000, 3) := by decide +kernel
theorem dModel_declare_174 : decode bModel_declare 174 = .ok (.if_icmp .ne 16, 3) := by decide +kernel
theorem dModel_declare_177 : decode bModel_declare 177 = .ok (.aload_n 0, 1) := by decide +kernel
theorem dModel_declare_178 : decode bModel_declare 178 = .ok (.iconst 3, 1) := by decide +kernel
theorem dModel_declare_179 : decode bModel_declare 179 = .ok (.putfield 99, 3) := by decide +kernel
theorem dModel_declare_182 : decode bModel_declare 182 = .ok (.aload_n 0, 1) := by decide +kernel
theorem dModel_declare_183 : decode bModel_declare 183 = .ok (.iload 5, 2) := by decide +kernel
theorem dModel_declare_185 : decode bModel_declare 185 = .ok (.putfield 9, 3) := by decide +kernel
theorem dModel_declare_188 : decode bModel_declare 188 = .ok (.iconst 0, 1) := by decide +kernel
theorem dModel_declare_189 : decode bModel_declare 189 = .ok (.ireturn, 1) := by decide +kernel
theorem dModel_declare_190 : decode bModel_declare 190 = .ok (.aload_n 0, 1) := by decide +kernel
theorem dModel_declare_191 : decode bModel_declare 191 = .ok (.iconst (-1), 1) := by decide +kernel
theorem dModel_declare_192 : decode bModel_declare 192 = .ok (.putfield 9, 3) := by decide +kernel
theorem dModel_declare_195 : decode bModel_declare 195 = .ok (.aload_n 0, 1) := by decide +kernel
theorem dModel_declare_196 : decode bModel_declare 196 = .ok (.getfield 69, 3) := by decide +kernel
theorem dModel_declare_199 : decode bModel_declare 199 = .ok (.aload_n 0, 1) := by decide +kernel
theorem dModel_declare_200 : decode bModel_declare 200 = .ok (.getfield 294, 3) := by decide +kernel
theorem dModel_declare_203 : decode bModel_declare 203 = .ok (.iload_n 1, 1) := by decide +kernel
theorem dModel_declare_204 : decode bModel_declare 204 = .ok (.iastore, 1) := by decide +kernel
theorem dModel_declare_205 : decode bModel_declare 205 = .ok (.aload_n 0, 1) := by decide +kernel
theorem dModel_declare_206 : decode bModel_declare 206 = .ok (.getfield 72, 3) := by decide +kernel
theorem dModel_declare_209 : decode bModel_declare 209 = .ok (.aload_n 0, 1) := by decide +kernel
theorem dModel_declare_210 : decode bModel_declare 210 = .ok (.getfield 294, 3) := by decide +kernel
theorem dModel_declare_213 : decode bModel_declare 213 = .ok (.iload_n 3, 1) := by decide +kernel
theorem dModel_declare_214 : decode bModel_declare 214 = .ok (.iastore, 1) := by decide +kernel
theorem dModel_declare_215 : decode bModel_declare 215 = .ok (.iload_n 1, 1) := by decide +kernel
theorem dModel_declare_216 : decode bModel_declare 216 = .ok (.ifCond .ne 30, 3) := by decide +kernel
theorem dModel_declare_219 : decode bModel_declare 219 = .ok (.aload_n 0, 1) := by decide +kernel
theorem dModel_declare_220 : decode bModel_declare 220 = .ok (.iload 4, 2) := by decide +kernel
theorem dModel_declare_222 : decode bModel_declare 222 = .ok (.sipush 8000, 3) := by decide +kernel
theorem dModel_declare_225 : decode bModel_declare 225 = .ok (.aload_n 0, 1) := by decide +kernel
theorem dModel_declare_226 : decode bModel_declare 226 = .ok (.getfield 294, 3) := by decide +kernel
theorem dModel_declare_229 : decode bModel_declare 229 = .ok (.iadd, 1) := by decide +kernel
theorem dModel_declare_230 : decode bModel_declare 230 = .ok (.invokevirtual 177, 3) := by decide +kernel
theorem dModel_declare_233 : decode bModel_declare 233 = .ok (.aload_n 0, 1) := by decide +kernel
theorem dModel_declare_234 : decode bModel_declare 234 = .ok (.aload_n 0, 1) := by decide +kernel
theorem dModel_declare_235 : decode bModel_declare 235 = .ok (.getfield 23, 3) := by decide +kernel
theorem dModel_declare_238 : decode bModel_declare 238 = .ok (.iload 4, 2) := by decide +kernel
theorem dModel_declare_240 : decode bModel_declare 240 = .ok (.iaload, 1) := by decide +kernel
theorem dModel_declare_241 : decode bModel_declare 241 = .ok (.iload 4, 2) := by decide +kernel
theorem dModel_declare_243 : decode bModel_declare 243 = .ok (.invokevirtual 278, 3) := by decide +kernel
theorem dModel_declare_246 : decode bModel_declare 246 = .ok (.aload_n 0, 1) := by decide +kernel
theorem dModel_declare_247 : decode bModel_declare 247 = .ok (.iload_n 2, 1) := by decide +kernel
theorem dModel_declare_248 : decode bModel_declare 248 = .ok (.iconst 1, 1) := by decide +kernel
theorem dModel_declare_249 : decode bModel_declare 249 = .ok (.aload_n 0, 1) := by decide +kernel
theorem dModel_declare_250 : decode bModel_declare 250 = .ok (.getfield 294, 3) := by decide +kernel
theorem dModel_declare_253 : decode bModel_declare 253 = .ok (.iconst 0, 1) := by decide +kernel
theorem dModel_declare_254 : decode bModel_declare 254 = .ok (.invokevirtual 284, 3) := by decide +kernel
theorem dModel_declare_257 : decode bModel_declare 257 = .ok (.aload_n 0, 1) := by decide +kernel
theorem dModel_declare_258 : decode bModel_declare 258 = .ok (.dup, 1) := by decide +kernel
theorem dModel_declare_259 : decode bModel_declare 259 = .ok (.getfield 294, 3) := by decide +kernel
theorem dModel_declare_262 : decode bModel_declare 262 = .ok (.iconst 1, 1) := by decide +kernel
theorem dModel_declare_263 : decode bModel_declare 263 = .ok (.iadd, 1) := by decide +kernel
theorem dModel_declare_264 : decode bModel_declare 264 = .ok (.putfield 294, 3) := by decide +kernel
theorem dModel_declare_267 : decode bModel_declare 267 = .ok (.aload_n 0, 1) := by decide +kernel
theorem dModel_declare_268 : decode bModel_declare 268 = .ok (.getfield 294, 3) := by decide +kernel
theorem dModel_declare_271 : decode bModel_declare 271 = .ok (.iconst 1, 1) := by decide +kernel
theorem dModel_declare_272 : decode bModel_declare 272 = .ok (.isub, 1) := by decide +kernel
theorem dModel_declare_273 : decode bModel_declare 273 = .ok (.ireturn, 1) := by decide +kernel
theorem dModel_check_0 : decode bModel_check 0 = .ok (.aload_n 0, 1) := by decide +kernel
theorem dModel_check_1 : decode bModel_check 1 = .ok (.aload_n 0, 1) := by decide +kernel
theorem dModel_check_2 : decode bModel_check 2 = .ok (.iload_n 1, 1) := by decide +kernel
theorem dModel_check_3 : decode bModel_check 3 = .ok (.invokevirtual 266, 3) := by decide +kernel
theorem dModel_check_6 : decode bModel_check 6 = .ok (.ifCond .ne 16, 3) := by decide +kernel
theorem dModel_check_9 : decode bModel_check 9 = .ok (.iload_n 2, 1) := by decide +kernel
theorem dModel_check_10 : decode bModel_check 10 = .ok (.iconst (-1), 1) := by decide +kernel
theorem dModel_check_11 : decode bModel_check 11 = .ok (.if_icmp .eq 15, 3) := by decide +kernel
theorem dModel_check_14 : decode bModel_check 14 = .ok (.aload_n 0, 1) := by decide +kernel
theorem dModel_check_15 : decode bModel_check 15 = .ok (.iload_n 2, 1) := by decide +kernel
theorem dModel_check_16 : decode bModel_check 16 = .ok (.invokevirtual 288, 3) := by decide +kernel
theorem dModel_check_19 : decode bModel_check 19 = .ok (.ifCond .eq 7, 3) := by decide +kernel
theorem dModel_check_22 : decode bModel_check 22 = .ok (.iconst 1, 1) := by decide +kernel
theorem dModel_check_23 : decode bModel_check 23 = .ok (.goto 4, 3) := by decide +kernel
theorem dModel_check_26 : decode bModel_check 26 = .ok (.iconst 0, 1) := by decide +kernel
theorem dModel_check_27 : decode bModel_check 27 = .ok (.putfield 99, 3) := by decide +kernel
theorem dModel_check_30 : decode bModel_check 30 = .ok (.aload_n 0, 1) := by decide +kernel
theorem dModel_check_31 : decode bModel_check 31 = .ok (.getfield 99, 3) := by decide +kernel
theorem dModel_check_34 : decode bModel_check 34 = .ok (.ifCond .le 5, 3) := by decide +kernel
theorem dModel_check_37 : decode bModel_check 37 = .ok (.iconst 0, 1) := by decide +kernel
theorem dModel_check_38 : decode bModel_check 38 = .ok (.ireturn, 1) := by decide +kernel
theorem dModel_check_39 : decode bModel_check 39 = .ok (.aload_n 0, 1) := by decide +kernel
theorem dModel_check_40 : decode bModel_check 40 = .ok (.aload_n 0, 1) := by decide +kernel
theorem dModel_check_41 : decode bModel_check 41 = .ok (.getfield 23, 3) := by decide +kernel
theorem dModel_check_44 : decode bModel_check 44 = .ok (.iload_n 1, 1) := by decide +kernel
theorem dModel_check_45 : decode bModel_check 45 = .ok (.iaload, 1) := by decide +kernel
theorem dModel_check_46 : decode bModel_check 46 = .ok (.iload_n 1, 1) := by decide +kernel
theorem dModel_check_47 : decode bModel_check 47 = .ok (.invokevirtual 269, 3) := by decide +kernel
theorem dModel_check_50 : decode bModel_check 50 = .ok (.istore_n 3, 1) := by decide +kernel
theorem dModel_check_51 : decode bModel_check 51 = .ok (.iload_n 3, 1) := by decide +kernel
theorem dModel_check_52 : decode bModel_check 52 = .ok (.ifCond .le 6, 3) := by decide +kernel
theorem dModel_check_55 : decode bModel_check 55 = .ok (.iload_n 3, 1) := by decide +kernel
theorem dModel_check_56 : decode bModel_check 56 = .ok (.ineg, 1) := by decide +kernel
theorem dModel_check_57 : decode bModel_check 57 = .ok (.ireturn, 1) := by decide +kernel
theorem dModel_check_58 : decode bModel_check 58 = .ok (.iload_n 2, 1) := by decide +kernel
theorem dModel_check_59 : decode bModel_check 59 = .ok (.iconst (-1), 1) := by decide +kernel
theorem dModel_check_60 : decode bModel_check 60 = .ok (.if_icmp .ne 7, 3) := by decide +kernel
theorem dModel_check_63 : decode bModel_check 63 = .ok (.iconst 0, 1) := by decide +kernel
theorem dModel_check_64 : decode bModel_check 64 = .ok (.goto 9, 3) := by decide +kernel
theorem dModel_check_67 : decode bModel_check 67 = .ok (.aload_n 0, 1) := by decide +kernel
theorem dModel_check_68 : decode bModel_check 68 = .ok (.iload_n 1, 1) := by decide +kernel
theorem dModel_check_69 : decode bModel_check 69 = .ok (.iload_n 2, 1) := by decide +kernel
theorem dModel_check_70 : decode bModel_check 70 = .ok (.invokevirtual 291, 3) := by decide +kernel
theorem dModel_check_73 : decode bModel_check 73 = .ok (.istore_n 3, 1) := by decide +kernel
theorem dModel_check_74 : decode bModel_check 74 = .ok (.iload_n 3, 1) := by decide +kernel
theorem dModel_check_75 : decode bModel_check 75 = .ok (.ifCond .le 10, 3) := by decide +kernel
theorem dModel_check_78 : decode bModel_check 78 = .ok (.aload_n 0, 1) := by decide +kernel
theorem dModel_check_79 : decode bModel_check 79 = .ok (.iload_n 1, 1) := by decide +kernel
theorem dModel_check_80 : decode bModel_check 80 = .ok (.iload_n 3, 1) := by decide +kernel
theorem dModel_check_81 : decode bModel_check 81 = .ok (.invokevirtual 272, 3) := by decide +kernel
theorem dModel_check_84 : decode bModel_check 84 = .ok (.ireturn, 1) := by decide +kernel
theorem dModel_check_85 : decode bModel_check 85 = .ok (.aload_n 0, 1) := by decide +kernel
theorem dModel_check_86 : decode bModel_check 86 = .ok (.aload_n 0, 1) := by decide +kernel
theorem dModel_check_87 : decode bModel_check 87 = .ok (.getfield 23, 3) := by decide +kernel
theorem dModel_check_90 : decode bModel_check 90 = .ok (.iload_n 1, 1) := by decide +kernel
theorem dModel_check_91 : decode bModel_check 91 = .ok (.iaload, 1) := by decide +kernel
theorem dModel_check_92 : decode bModel_check 92 = .ok (.iload_n 1, 1) := by decide +kernel
theorem dModel_check_93 : decode bModel_check 93 = .ok (.invokevirtual 278, 3) := by decide +kernel
theorem dModel_check_96 : decode bModel_check 96 = .ok (.iconst 0, 1) := by decide +kernel
theorem dModel_check_97 : decode bModel_check 97 = .ok (.ireturn, 1) := by decide +kernel
theorem dModel_place_0 : decode bModel_place 0 = .ok (.aload_n 0, 1) := by decide +kernel
theorem dModel_place_1 : decode bModel_place 1 = .ok (.iconst 0, 1) := by decide +kernel
theorem dModel_place_2 : decode bModel_place 2 = .ok (.putfield 99, 3) := by decide +kernel
theorem dModel_place_5 : decode bModel_place 5 = .ok (.aload_n 0, 1) := by decide +kernel
theorem dModel_place_6 : decode bModel_place 6 = .ok (.getfield 9, 3) := by decide +kernel
theorem dModel_place_9 : decode bModel_place 9 = .ok (.ireturn, 1) := by decide +kernel
theorem dModel_typeOf_0 : decode bModel_typeOf 0 = .ok (.aload_n 0, 1) := by decide +kernel
theorem dModel_typeOf_1 : decode bModel_typeOf 1 = .ok (.aload_n 0, 1) := by decide +kernel
theorem dModel_typeOf_2 : decode bModel_typeOf 2 = .ok (.iload_n 1, 1) := by decide +kernel
theorem dModel_typeOf_3 : decode bModel_typeOf 3 = .ok (.invokevirtual 288, 3) := by decide +kernel
theorem dModel_typeOf_6 : decode bModel_typeOf 6 = .ok (.ifCond .ne 12, 3) := by decide +kernel
theorem dModel_typeOf_9 : decode bModel_typeOf 9 = .ok (.iload_n 2, 1) := by decide +kernel
theorem dModel_typeOf_10 : decode bModel_typeOf 10 = .ok (.ifCond .lt 8, 3) := by decide +kernel
theorem dModel_typeOf_13 : decode bModel_typeOf 13 = .ok (.iload_n 2, 1) := by decide +kernel
theorem dModel_typeOf_14 : decode bModel_typeOf 14 = .ok (.iconst 4, 1) := by decide +kernel
theorem dModel_typeOf_15 : decode bModel_typeOf 15 = .ok (.if_icmp .le 7, 3) := by decide +kernel
theorem dModel_typeOf_18 : decode bModel_typeOf 18 = .ok (.iconst 1, 1) := by decide +kernel
theorem dModel_typeOf_19 : decode bModel_typeOf 19 = .ok (.goto 4, 3) := by decide +kernel
theorem dModel_typeOf_22 : decode bModel_typeOf 22 = .ok (.iconst 0, 1) := by decide +kernel
theorem dModel_typeOf_23 : decode bModel_typeOf 23 = .ok (.putfield 99, 3) := by decide +kernel
theorem dModel_typeOf_26 : decode bModel_typeOf 26 = .ok (.aload_n 0, 1) := by decide +kernel
theorem dModel_typeOf_27 : decode bModel_typeOf 27 = .ok (.getfield 99, 3) := by decide +kernel
theorem dModel_typeOf_30 : decode bModel_typeOf 30 = .ok (.ifCond .le 5, 3) := by decide +kernel
theorem dModel_typeOf_33 : decode bModel_typeOf 33 = .ok (.iconst 0, 1) := by decide +kernel
theorem dModel_typeOf_34 : decode bModel_typeOf 34 = .ok (.ireturn, 1) := by decide +kernel
theorem dModel_typeOf_35 : decode bModel_typeOf 35 = .ok (.iload_n 2, 1) := by decide +kernel
theorem dModel_typeOf_36 : decode bModel_typeOf 36 = .ok (.ifCond .ne 12, 3) := by decide +kernel
theorem dModel_typeOf_39 : decode bModel_typeOf 39 = .ok (.aload_n 0, 1) := by decide +kernel
theorem dModel_typeOf_40 : decode bModel_typeOf 40 = .ok (.getfield 54, 3) := by decide +kernel
theorem dModel_typeOf_43 : decode bModel_typeOf 43 = .ok (.iload_n 1, 1) := by decide +kernel
theorem dModel_typeOf_44 : decode bModel_typeOf 44 = .ok (.iaload, 1) := by decide +kernel
theorem dModel_typeOf_45 : decode bModel_typeOf 45 = .ok (.goto 59, 3) := by decide +kernel
theorem dModel_typeOf_48 : decode bModel_typeOf 48 = .ok (.iload_n 2, 1) := by decide +kernel
theorem dModel_typeOf_49 : decode bModel_typeOf 49 = .ok (.iconst 1, 1) := by decide +kernel
theorem dModel_typeOf_50 : decode bModel_typeOf 50 = .ok (.if_icmp .ne 12, 3) := by decide +kernel
theorem dModel_typeOf_53 : decode bModel_typeOf 53 = .ok (.aload_n 0, 1) := by decide +kernel
theorem dModel_typeOf_54 : decode bModel_typeOf 54 = .ok (.getfield 57, 3) := by decide +kernel
theorem dModel_typeOf_57 : decode bModel_typeOf 57 = .ok (.iload_n 1, 1) := by decide +kernel
theorem dModel_typeOf_58 : decode bModel_typeOf 58 = .ok (.iaload, 1) := by decide +kernel
theorem dModel_typeOf_59 : decode bModel_typeOf 59 = .ok (.goto 45, 3) := by decide +kernel
theorem dModel_typeOf_62 : decode bModel_typeOf 62 = .ok (.iload_n 2, 1) := by decide +kernel
theorem dModel_typeOf_63 : decode bModel_typeOf 63 = .ok (.iconst 2, 1) := by decide +kernel
theorem dModel_typeOf_64 : decode bModel_typeOf 64 = .ok (.if_icmp .ne 12, 3) := by decide +kernel
theorem dModel_typeOf_67 : decode bModel_typeOf 67 = .ok (.aload_n 0, 1) := by decide +kernel
theorem dModel_typeOf_68 : decode bModel_typeOf 68 = .ok (.getfield 60, 3) := by decide +kernel
theorem dModel_typeOf_71 : decode bModel_typeOf 71 = .ok (.iload_n 1, 1) := by decide +kernel
theorem dModel_typeOf_72 : decode bModel_typeOf 72 = .ok (.iaload, 1) := by decide +kernel
theorem dModel_typeOf_73 : decode bModel_typeOf 73 = .ok (.goto 31, 3) := by decide +kernel
theorem dModel_typeOf_76 : decode bModel_typeOf 76 = .ok (.iload_n 2, 1) := by decide +kernel
theorem dModel_typeOf_77 : decode bModel_typeOf 77 = .ok (.iconst 3, 1) := by decide +kernel
theorem dModel_typeOf_78 : decode bModel_typeOf 78 = .ok (.if_icmp .ne 12, 3) := by decide +kernel
theorem dModel_typeOf_81 : decode bModel_typeOf 81 = .ok (.aload_n 0, 1) := by decide +kernel
theorem dModel_typeOf_82 : decode bModel_typeOf 82 = .ok (.getfield 63, 3) := by decide +kernel
theorem dModel_typeOf_85 : decode bModel_typeOf 85 = .ok (.iload_n 1, 1) := by decide +kernel
theorem dModel_typeOf_86 : decode bModel_typeOf 86 = .ok (.iaload, 1) := by decide +kernel
theorem dModel_typeOf_87 : decode bModel_typeOf 87 = .ok (.goto 17, 3) := by decide +kernel
theorem dModel_typeOf_90 : decode bModel_typeOf 90 = .ok (.aload_n 0, 1) := by decide +kernel
theorem dModel_typeOf_91 : decode bModel_typeOf 91 = .ok (.getfield 66, 3) := by decide +kernel
theorem dModel_typeOf_94 : decode bModel_typeOf 94 = .ok (.iload_n 1, 1) := by decide +kernel
theorem dModel_typeOf_95 : decode bModel_typeOf 95 = .ok (.baload, 1) := by decide +kernel
theorem dModel_typeOf_96 : decode bModel_typeOf 96 = .ok (.ifCond .eq 7, 3) := by decide +kernel
theorem dModel_typeOf_99 : decode bModel_typeOf 99 = .ok (.iconst 1, 1) := by decide +kernel
theorem dModel_typeOf_100 : decode bModel_typeOf 100 = .ok (.goto 4, 3) := by decide +kernel
theorem dModel_typeOf_103 : decode bModel_typeOf 103 = .ok (.iconst 0, 1) := by decide +kernel
theorem dModel_typeOf_104 : decode bModel_typeOf 104 = .ok (.ireturn, 1) := by decide +kernel
theorem dModel_about_0 : decode bModel_about 0 = .ok (.aload_n 0, 1) := by decide +kernel
theorem dModel_about_1 : decode bModel_about 1 = .ok (.aload_n 0, 1) := by decide +kernel
theorem dModel_about_2 : decode bModel_about 2 = .ok (.iload_n 1, 1) := by decide +kernel
theorem dModel_about_3 : decode bModel_about 3 = .ok (.invokevirtual 266, 3) := by decide +kernel
theorem dModel_about_6 : decode bModel_about 6 = .ok (.ifCond .ne 12, 3) := by decide +kernel
theorem dModel_about_9 : decode bModel_about 9 = .ok (.iload_n 2, 1) := by decide +kernel
theorem dModel_about_10 : decode bModel_about 10 = .ok (.ifCond .lt 8, 3) := by decide +kernel
theorem dModel_about_13 : decode bModel_about 13 = .ok (.iload_n 2, 1) := by decide +kernel
theorem dModel_about_14 : decode bModel_about 14 = .ok (.iconst 3, 1) := by decide +kernel
theorem dModel_about_15 : decode bModel_about 15 = .ok (.if_icmp .le 7, 3) := by decide +kernel
theorem dModel_about_18 : decode bModel_about 18 = .ok (.iconst 1, 1) := by decide +kernel
theorem dModel_about_19 : decode bModel_about 19 = .ok (.goto 4, 3) := by decide +kernel
theorem dModel_about_22 : decode bModel_about 22 = .ok (.iconst 0, 1) := by decide +kernel
theorem dModel_about_23 : decode bModel_about 23 = .ok (.putfield 99, 3) := by decide +kernel
theorem dModel_about_26 : decode bModel_about 26 = .ok (.aload_n 0, 1) := by decide +kernel
theorem dModel_about_27 : decode bModel_about 27 = .ok (.getfield 99, 3) := by decide +kernel
theorem dModel_about_30 : decode bModel_about 30 = .ok (.ifCond .le 5, 3) := by decide +kernel
theorem dModel_about_33 : decode bModel_about 33 = .ok (.iconst 0, 1) := by decide +kernel
theorem dModel_about_34 : decode bModel_about 34 = .ok (.ireturn, 1) := by decide +kernel
theorem dModel_about_35 : decode bModel_about 35 = .ok (.aload_n 0, 1) := by decide +kernel
theorem dModel_about_36 : decode bModel_about 36 = .ok (.getfield 51, 3) := by decide +kernel
theorem dModel_about_39 : decode bModel_about 39 = .ok (.iload_n 1, 1) := by decide +kernel
theorem dModel_about_40 : decode bModel_about 40 = .ok (.baload, 1) := by decide +kernel
theorem dModel_about_41 : decode bModel_about 41 = .ok (.ifCond .ne 5, 3) := by decide +kernel
theorem dModel_about_44 : decode bModel_about 44 = .ok (.iconst (-1), 1) := by decide +kernel
theorem dModel_about_45 : decode bModel_about 45 = .ok (.ireturn, 1) := by decide +kernel
theorem dModel_about_46 : decode bModel_about 46 = .ok (.sipush 4000, 3) := by decide +kernel
theorem dModel_about_49 : decode bModel_about 49 = .ok (.iload_n 1, 1) := by decide +kernel
theorem dModel_about_50 : decode bModel_about 50 = .ok (.iadd, 1) := by decide +kernel
theorem dModel_about_51 : decode bModel_about 51 = .ok (.istore_n 3, 1) := by decide +kernel
theorem dModel_about_52 : decode bModel_about 52 = .ok (.iload_n 2, 1) := by decide +kernel
theorem dModel_about_53 : decode bModel_about 53 = .ok (.ifCond .ne 12, 3) := by decide +kernel
theorem dModel_about_56 : decode bModel_about 56 = .ok (.aload_n 0, 1) := by decide +kernel
theorem dModel_about_57 : decode bModel_about 57 = .ok (.getfield 29, 3) := by decide +kernel
theorem dModel_about_60 : decode bModel_about 60 = .ok (.iload_n 3, 1) := by decide +kernel
theorem dModel_about_61 : decode bModel_about 61 = .ok (.iaload, 1) := by decide +kernel
theorem dModel_about_62 : decode bModel_about 62 = .ok (.goto 45, 3) := by decide +kernel
theorem dModel_about_65 : decode bModel_about 65 = .ok (.iload_n 2, 1) := by decide +kernel
theorem dModel_about_66 : decode bModel_about 66 = .ok (.iconst 1, 1) := by decide +kernel
theorem dModel_about_67 : decode bModel_about 67 = .ok (.if_icmp .ne 12, 3) := by decide +kernel
theorem dModel_about_70 : decode bModel_about 70 = .ok (.aload_n 0, 1) := by decide +kernel
theorem dModel_about_71 : decode bModel_about 71 = .ok (.getfield 32, 3) := by decide +kernel
theorem dModel_about_74 : decode bModel_about 74 = .ok (.iload_n 3, 1) := by decide +kernel
theorem dModel_about_75 : decode bModel_about 75 = .ok (.iaload, 1) := by decide +kernel
theorem dModel_about_76 : decode bModel_about 76 = .ok (.goto 31, 3) := by decide +kernel
theorem dModel_about_79 : decode bModel_about 79 = .ok (.iload_n 2, 1) := by decide +kernel
theorem dModel_about_80 : decode bModel_about 80 = .ok (.iconst 2, 1) := by decide +kernel
theorem dModel_about_81 : decode bModel_about 81 = .ok (.if_icmp .ne 20, 3) := by decide +kernel
theorem dModel_about_84 : decode bModel_about 84 = .ok (.aload_n 0, 1) := by decide +kernel
theorem dModel_about_85 : decode bModel_about 85 = .ok (.getfield 35, 3) := by decide +kernel
theorem dModel_about_88 : decode bModel_about 88 = .ok (.iload_n 3, 1) := by decide +kernel
theorem dModel_about_89 : decode bModel_about 89 = .ok (.baload, 1) := by decide +kernel
theorem dModel_about_90 : decode bModel_about 90 = .ok (.ifCond .eq 7, 3) := by decide +kernel
theorem dModel_about_93 : decode bModel_about 93 = .ok (.iconst 1, 1) := by decide +kernel
theorem dModel_about_94 : decode bModel_about 94 = .ok (.goto 13, 3) := by decide +kernel
theorem dModel_about_97 : decode bModel_about 97 = .ok (.iconst 0, 1) := by decide +kernel
theorem dModel_about_98 : decode bModel_about 98 = .ok (.goto 9, 3) := by decide +kernel
theorem dModel_about_101 : decode bModel_about 101 = .ok (.aload_n 0, 1) := by decide +kernel
theorem dModel_about_102 : decode bModel_about 102 = .ok (.getfield 39, 3) := by decide +kernel
theorem dModel_about_105 : decode bModel_about 105 = .ok (.iload_n 3, 1) := by decide +kernel
theorem dModel_about_106 : decode bModel_about 106 = .ok (.iaload, 1) := by decide +kernel
theorem dModel_about_107 : decode bModel_about 107 = .ok (.ireturn, 1) := by decide +kernel
theorem dModel_value_0 : decode bModel_value 0 = .ok (.aload_n 0, 1) := by decide +kernel
theorem dModel_value_1 : decode bModel_value 1 = .ok (.aload_n 0, 1) := by decide +kernel
theorem dModel_value_2 : decode bModel_value 2 = .ok (.iload_n 1, 1) := by decide +kernel
theorem dModel_value_3 : decode bModel_value 3 = .ok (.invokevirtual 266, 3) := by decide +kernel
theorem dModel_value_6 : decode bModel_value 6 = .ok (.ifCond .eq 7, 3) := by decide +kernel
theorem dModel_value_9 : decode bModel_value 9 = .ok (.iconst 1, 1) := by decide +kernel
theorem dModel_value_10 : decode bModel_value 10 = .ok (.goto 4, 3) := by decide +kernel
theorem dModel_value_13 : decode bModel_value 13 = .ok (.iconst 0, 1) := by decide +kernel
theorem dModel_value_14 : decode bModel_value 14 = .ok (.putfield 99, 3) := by decide +kernel
theorem dModel_value_17 : decode bModel_value 17 = .ok (.aload_n 0, 1) := by decide +kernel
theorem dModel_value_18 : decode bModel_value 18 = .ok (.getfield 99, 3) := by decide +kernel
theorem dModel_value_21 : decode bModel_value 21 = .ok (.ifCond .le 5, 3) := by decide +kernel
theorem dModel_value_24 : decode bModel_value 24 = .ok (.iconst 0, 1) := by decide +kernel
theorem dModel_value_25 : decode bModel_value 25 = .ok (.ireturn, 1) := by decide +kernel
theorem dModel_value_26 : decode bModel_value 26 = .ok (.sipush 4000, 3) := by decide +kernel
theorem dModel_value_29 : decode bModel_value 29 = .ok (.iload_n 1, 1) := by decide +kernel
theorem dModel_value_30 : decode bModel_value 30 = .ok (.iadd, 1) := by decide +kernel
theorem dModel_value_31 : decode bModel_value 31 = .ok (.istore_n 3, 1) := by decide +kernel
theorem dModel_value_32 : decode bModel_value 32 = .ok (.aload_n 0, 1) := by decide +kernel
theorem dModel_value_33 : decode bModel_value 33 = .ok (.getfield 51, 3) := by decide +kernel
theorem dModel_value_36 : decode bModel_value 36 = .ok (.iload_n 1, 1) := by decide +kernel
theorem dModel_value_37 : decode bModel_value 37 = .ok (.baload, 1) := by decide +kernel
theorem dModel_value_38 : decode bModel_value 38 = .ok (.ifCond .eq 17, 3) := by decide +kernel
theorem dModel_value_41 : decode bModel_value 41 = .ok (.aload_n 0, 1) := by decide +kernel
theorem dModel_value_42 : decode bModel_value 42 = .ok (.getfield 29, 3) := by decide +kernel
theorem dModel_value_45 : decode bModel_value 45 = .ok (.iload_n 3, 1) := by decide +kernel
theorem dModel_value_46 : decode bModel_value 46 = .ok (.iaload, 1) := by decide +kernel
theorem dModel_value_47 : decode bModel_value 47 = .ok (.iconst 3, 1) := by decide +kernel
theorem dModel_value_48 : decode bModel_value 48 = .ok (.if_icmp .ne 7, 3) := by decide +kernel
theorem dModel_value_51 : decode bModel_value 51 = .ok (.iconst 1, 1) := by decide +kernel
theorem dModel_value_52 : decode bModel_value 52 = .ok (.goto 4, 3) := by decide +kernel
theorem dModel_value_55 : decode bModel_value 55 = .ok (.iconst 0, 1) := by decide +kernel
theorem dModel_value_56 : decode bModel_value 56 = .ok (.istore 4, 2) := by decide +kernel
theorem dModel_value_58 : decode bModel_value 58 = .ok (.aload_n 0, 1) := by decide +kernel
theorem dModel_value_59 : decode bModel_value 59 = .ok (.iload 4, 2) := by decide +kernel
theorem dModel_value_61 : decode bModel_value 61 = .ok (.ifCond .eq 21, 3) := by decide +kernel
theorem dModel_value_64 : decode bModel_value 64 = .ok (.iload_n 2, 1) := by decide +kernel
theorem dModel_value_65 : decode bModel_value 65 = .ok (.ifCond .lt 13, 3) := by decide +kernel
theorem dModel_value_68 : decode bModel_value 68 = .ok (.iload_n 2, 1) := by decide +kernel
theorem dModel_value_69 : decode bModel_value 69 = .ok (.aload_n 0, 1) := by decide +kernel
theorem dModel_value_70 : decode bModel_value 70 = .ok (.getfield 32, 3) := by decide +kernel
theorem dModel_value_73 : decode bModel_value 73 = .ok (.iload_n 3, 1) := by decide +kernel
theorem dModel_value_74 : decode bModel_value 74 = .ok (.iaload, 1) := by decide +kernel
theorem dModel_value_75 : decode bModel_value 75 = .ok (.if_icmp .lt 7, 3) := by decide +kernel
theorem dModel_value_78 : decode bModel_value 78 = .ok (.iconst 1, 1) := by decide +kernel
theorem dModel_value_79 : decode bModel_value 79 = .ok (.goto 26, 3) := by decide +kernel
theorem dModel_value_82 : decode bModel_value 82 = .ok (.aload_n 0, 1) := by decide +kernel
theorem dModel_value_83 : decode bModel_value 83 = .ok (.getfield 51, 3) := by decide +kernel
theorem dModel_value_86 : decode bModel_value 86 = .ok (.iload_n 1, 1) := by decide +kernel
theorem dModel_value_87 : decode bModel_value 87 = .ok (.baload, 1) := by decide +kernel
theorem dModel_value_88 : decode bModel_value 88 = .ok (.ifCond .eq 12, 3) := by decide +kernel
theorem dModel_value_91 : decode bModel_value 91 = .ok (.aload_n 0, 1) := by decide +kernel
theorem dModel_value_92 : decode bModel_value 92 = .ok (.getfield 35, 3) := by decide +kernel
theorem dModel_value_95 : decode bModel_value 95 = .ok (.iload_n 3, 1) := by decide +kernel
theorem dModel_value_96 : decode bModel_value 96 = .ok (.baload, 1) := by decide +kernel
theorem dModel_value_97 : decode bModel_value 97 = .ok (.ifCond .ne 7, 3) := by decide +kernel
theorem dModel_value_100 : decode bModel_value 100 = .ok (.iconst 2, 1) := by decide +kernel
theorem dModel_value_101 : decode bModel_value 101 = .ok (.goto 4, 3) := by decide +kernel
theorem dModel_value_104 : decode bModel_value 104 = .ok (.iconst 0, 1) := by decide +kernel
theorem dModel_value_105 : decode bModel_value 105 = .ok (.putfield 99, 3) := by decide +kernel
theorem dModel_value_108 : decode bModel_value 108 = .ok (.aload_n 0, 1) := by decide +kernel
theorem dModel_value_109 : decode bModel_value 109 = .ok (.getfield 99, 3) := by decide +kernel
theorem dModel_value_112 : decode bModel_value 112 = .ok (.ifCond .le 5, 3) := by decide +kernel
theorem dModel_value_115 : decode bModel_value 115 = .ok (.iconst 0, 1) := by decide +kernel
theorem dModel_value_116 : decode bModel_value 116 = .ok (.ireturn, 1) := by decide +kernel
theorem dModel_value_117 : decode bModel_value 117 = .ok (.iload 4, 2) := by decide +kernel
theorem dModel_value_119 : decode bModel_value 119 = .ok (.ifCond .eq 12, 3) := by decide +kernel
theorem dModel_value_122 : decode bModel_value 122 = .ok (.aload_n 0, 1) := by decide +kernel
theorem dModel_value_123 : decode bModel_value 123 = .ok (.iload_n 3, 1) := by decide +kernel
theorem dModel_value_124 : decode bModel_value 124 = .ok (.iload_n 2, 1) := by decide +kernel
theorem dModel_value_125 : decode bModel_value 125 = .ok (.invokevirtual 131, 3) := by decide +kernel
theorem dModel_value_128 : decode bModel_value 128 = .ok (.goto 10, 3) := by decide +kernel
theorem dModel_value_131 : decode bModel_value 131 = .ok (.aload_n 0, 1) := by decide +kernel
theorem dModel_value_132 : decode bModel_value 132 = .ok (.getfield 42, 3) := by decide +kernel
theorem dModel_value_135 : decode bModel_value 135 = .ok (.iload_n 3, 1) := by decide +kernel
theorem dModel_value_136 : decode bModel_value 136 = .ok (.laload, 1) := by decide +kernel
theorem dModel_value_137 : decode bModel_value 137 = .ok (.l2i, 1) := by decide +kernel
theorem dModel_value_138 : decode bModel_value 138 = .ok (.ireturn, 1) := by decide +kernel
