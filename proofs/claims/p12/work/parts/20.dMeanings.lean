theorem dMeanings_init_0 : decode bMeanings_init 0 = .ok (.aload_n 0, 1) := by decide +kernel
theorem dMeanings_init_1 : decode bMeanings_init 1 = .ok (.invokespecial 3, 3) := by decide +kernel
theorem dMeanings_init_4 : decode bMeanings_init 4 = .ok (.aload_n 0, 1) := by decide +kernel
theorem dMeanings_init_5 : decode bMeanings_init 5 = .ok (.aload_n 1, 1) := by decide +kernel
theorem dMeanings_init_6 : decode bMeanings_init 6 = .ok (.putfield 9, 3) := by decide +kernel
theorem dMeanings_init_9 : decode bMeanings_init 9 = .ok (.aload_n 0, 1) := by decide +kernel
theorem dMeanings_init_10 : decode bMeanings_init 10 = .ok (.aload_n 2, 1) := by decide +kernel
theorem dMeanings_init_11 : decode bMeanings_init 11 = .ok (.putfield 15, 3) := by decide +kernel
theorem dMeanings_init_14 : decode bMeanings_init 14 = .ok (.aload_n 0, 1) := by decide +kernel
theorem dMeanings_init_15 : decode bMeanings_init 15 = .ok (.aload_n 3, 1) := by decide +kernel
theorem dMeanings_init_16 : decode bMeanings_init 16 = .ok (.putfield 19, 3) := by decide +kernel
theorem dMeanings_init_19 : decode bMeanings_init 19 = .ok (.aload_n 0, 1) := by decide +kernel
theorem dMeanings_init_20 : decode bMeanings_init 20 = .ok (.aload 4, 2) := by decide +kernel
theorem dMeanings_init_22 : decode bMeanings_init 22 = .ok (.putfield 23, 3) := by decide +kernel
theorem dMeanings_init_25 : decode bMeanings_init 25 = .ok (.aload_n 0, 1) := by decide +kernel
theorem dMeanings_init_26 : decode bMeanings_init 26 = .ok (.aload 5, 2) := by decide +kernel
theorem dMeanings_init_28 : decode bMeanings_init 28 = .ok (.putfield 27, 3) := by decide +kernel
theorem dMeanings_init_31 : decode bMeanings_init 31 = .ok (.return_, 1) := by decide +kernel
theorem dMeanings_name_0 : decode bMeanings_name 0 = .ok (.aload_n 0, 1) := by decide +kernel
theorem dMeanings_name_1 : decode bMeanings_name 1 = .ok (.getfield 9, 3) := by decide +kernel
theorem dMeanings_name_4 : decode bMeanings_name 4 = .ok (.iload_n 1, 1) := by decide +kernel
theorem dMeanings_name_5 : decode bMeanings_name 5 = .ok (.invokevirtual 31, 3) := by decide +kernel
theorem dMeanings_name_8 : decode bMeanings_name 8 = .ok (.ifCond .eq 6, 3) := by decide +kernel
theorem dMeanings_name_11 : decode bMeanings_name 11 = .ok (.bipush 11, 2) := by decide +kernel
theorem dMeanings_name_13 : decode bMeanings_name 13 = .ok (.ireturn, 1) := by decide +kernel
theorem dMeanings_name_14 : decode bMeanings_name 14 = .ok (.aload_n 0, 1) := by decide +kernel
theorem dMeanings_name_15 : decode bMeanings_name 15 = .ok (.getfield 15, 3) := by decide +kernel
theorem dMeanings_name_18 : decode bMeanings_name 18 = .ok (.aload_n 0, 1) := by decide +kernel
theorem dMeanings_name_19 : decode bMeanings_name 19 = .ok (.getfield 9, 3) := by decide +kernel
theorem dMeanings_name_22 : decode bMeanings_name 22 = .ok (.iload_n 1, 1) := by decide +kernel
theorem dMeanings_name_23 : decode bMeanings_name 23 = .ok (.invokevirtual 37, 3) := by decide +kernel
theorem dMeanings_name_26 : decode bMeanings_name 26 = .ok (.invokevirtual 40, 3) := by decide +kernel
theorem dMeanings_name_29 : decode bMeanings_name 29 = .ok (.istore_n 2, 1) := by decide +kernel
theorem dMeanings_name_30 : decode bMeanings_name 30 = .ok (.iload_n 2, 1) := by decide +kernel
theorem dMeanings_name_31 : decode bMeanings_name 31 = .ok (.iconst (-1), 1) := by decide +kernel
theorem dMeanings_name_32 : decode bMeanings_name 32 = .ok (.if_icmp .ne 5, 3) := by decide +kernel
theorem dMeanings_name_35 : decode bMeanings_name 35 = .ok (.iconst 1, 1) := by decide +kernel
theorem dMeanings_name_36 : decode bMeanings_name 36 = .ok (.ireturn, 1) := by decide +kernel
theorem dMeanings_name_37 : decode bMeanings_name 37 = .ok (.aload_n 0, 1) := by decide +kernel
theorem dMeanings_name_38 : decode bMeanings_name 38 = .ok (.getfield 15, 3) := by decide +kernel
theorem dMeanings_name_41 : decode bMeanings_name 41 = .ok (.iload_n 2, 1) := by decide +kernel
theorem dMeanings_name_42 : decode bMeanings_name 42 = .ok (.invokevirtual 45, 3) := by decide +kernel
theorem dMeanings_name_45 : decode bMeanings_name 45 = .ok (.istore_n 3, 1) := by decide +kernel
theorem dMeanings_name_46 : decode bMeanings_name 46 = .ok (.aload_n 0, 1) := by decide +kernel
theorem dMeanings_name_47 : decode bMeanings_name 47 = .ok (.getfield 15, 3) := by decide +kernel
theorem dMeanings_name_50 : decode bMeanings_name 50 = .ok (.iload_n 2, 1) := by decide +kernel
theorem dMeanings_name_51 : decode bMeanings_name 51 = .ok (.invokevirtual 48, 3) := by decide +kernel
theorem dMeanings_name_54 : decode bMeanings_name 54 = .ok (.tableswitch 61 2 4 #[26, 34, 51], 26) := by decide +kernel
theorem dMeanings_name_80 : decode bMeanings_name 80 = .ok (.aload_n 0, 1) := by decide +kernel
theorem dMeanings_name_81 : decode bMeanings_name 81 = .ok (.iload_n 1, 1) := by decide +kernel
theorem dMeanings_name_82 : decode bMeanings_name 82 = .ok (.iload_n 3, 1) := by decide +kernel
theorem dMeanings_name_83 : decode bMeanings_name 83 = .ok (.invokevirtual 51, 3) := by decide +kernel
theorem dMeanings_name_86 : decode bMeanings_name 86 = .ok (.iconst 0, 1) := by decide +kernel
theorem dMeanings_name_87 : decode bMeanings_name 87 = .ok (.ireturn, 1) := by decide +kernel
theorem dMeanings_name_88 : decode bMeanings_name 88 = .ok (.aload_n 0, 1) := by decide +kernel
theorem dMeanings_name_89 : decode bMeanings_name 89 = .ok (.iload_n 1, 1) := by decide +kernel
theorem dMeanings_name_90 : decode bMeanings_name 90 = .ok (.iconst 4, 1) := by decide +kernel
theorem dMeanings_name_91 : decode bMeanings_name 91 = .ok (.iload_n 3, 1) := by decide +kernel
theorem dMeanings_name_92 : decode bMeanings_name 92 = .ok (.aload_n 0, 1) := by decide +kernel
theorem dMeanings_name_93 : decode bMeanings_name 93 = .ok (.getfield 15, 3) := by decide +kernel
theorem dMeanings_name_96 : decode bMeanings_name 96 = .ok (.iload_n 2, 1) := by decide +kernel
theorem dMeanings_name_97 : decode bMeanings_name 97 = .ok (.invokevirtual 55, 3) := by decide +kernel
theorem dMeanings_name_100 : decode bMeanings_name 100 = .ok (.invokevirtual 58, 3) := by decide +kernel
theorem dMeanings_name_103 : decode bMeanings_name 103 = .ok (.iconst 0, 1) := by decide +kernel
theorem dMeanings_name_104 : decode bMeanings_name 104 = .ok (.ireturn, 1) := by decide +kernel
theorem dMeanings_name_105 : decode bMeanings_name 105 = .ok (.aload_n 0, 1) := by decide +kernel
theorem dMeanings_name_106 : decode bMeanings_name 106 = .ok (.iload_n 1, 1) := by decide +kernel
theorem dMeanings_name_107 : decode bMeanings_name 107 = .ok (.iconst 1, 1) := by decide +kernel
theorem dMeanings_name_108 : decode bMeanings_name 108 = .ok (.iconst 0, 1) := by decide +kernel
theorem dMeanings_name_109 : decode bMeanings_name 109 = .ok (.iload_n 3, 1) := by decide +kernel
theorem dMeanings_name_110 : decode bMeanings_name 110 = .ok (.invokevirtual 58, 3) := by decide +kernel
theorem dMeanings_name_113 : decode bMeanings_name 113 = .ok (.iconst 0, 1) := by decide +kernel
theorem dMeanings_name_114 : decode bMeanings_name 114 = .ok (.ireturn, 1) := by decide +kernel
theorem dMeanings_name_115 : decode bMeanings_name 115 = .ok (.iconst 2, 1) := by decide +kernel
theorem dMeanings_name_116 : decode bMeanings_name 116 = .ok (.ireturn, 1) := by decide +kernel
theorem dMeanings_noteObject_0 : decode bMeanings_noteObject 0 = .ok (.aload_n 0, 1) := by decide +kernel
theorem dMeanings_noteObject_1 : decode bMeanings_noteObject 1 = .ok (.getfield 23, 3) := by decide +kernel
theorem dMeanings_noteObject_4 : decode bMeanings_noteObject 4 = .ok (.iload_n 2, 1) := by decide +kernel
theorem dMeanings_noteObject_5 : decode bMeanings_noteObject 5 = .ok (.invokevirtual 62, 3) := by decide +kernel
theorem dMeanings_noteObject_8 : decode bMeanings_noteObject 8 = .ok (.istore_n 3, 1) := by decide +kernel
theorem dMeanings_noteObject_9 : decode bMeanings_noteObject 9 = .ok (.aload_n 0, 1) := by decide +kernel
theorem dMeanings_noteObject_10 : decode bMeanings_noteObject 10 = .ok (.getfield 27, 3) := by decide +kernel
theorem dMeanings_noteObject_13 : decode bMeanings_noteObject 13 = .ok (.iload_n 1, 1) := by decide +kernel
theorem dMeanings_noteObject_14 : decode bMeanings_noteObject 14 = .ok (.aload_n 0, 1) := by decide +kernel
theorem dMeanings_noteObject_15 : decode bMeanings_noteObject 15 = .ok (.getfield 19, 3) := by decide +kernel
theorem dMeanings_noteObject_18 : decode bMeanings_noteObject 18 = .ok (.iload_n 3, 1) := by decide +kernel
theorem dMeanings_noteObject_19 : decode bMeanings_noteObject 19 = .ok (.invokevirtual 67, 3) := by decide +kernel
theorem dMeanings_noteObject_22 : decode bMeanings_noteObject 22 = .ok (.aload_n 0, 1) := by decide +kernel
theorem dMeanings_noteObject_23 : decode bMeanings_noteObject 23 = .ok (.getfield 19, 3) := by decide +kernel
theorem dMeanings_noteObject_26 : decode bMeanings_noteObject 26 = .ok (.iload_n 3, 1) := by decide +kernel
theorem dMeanings_noteObject_27 : decode bMeanings_noteObject 27 = .ok (.invokevirtual 72, 3) := by decide +kernel
theorem dMeanings_noteObject_30 : decode bMeanings_noteObject 30 = .ok (.aload_n 0, 1) := by decide +kernel
theorem dMeanings_noteObject_31 : decode bMeanings_noteObject 31 = .ok (.iload_n 2, 1) := by decide +kernel
theorem dMeanings_noteObject_32 : decode bMeanings_noteObject 32 = .ok (.invokevirtual 75, 3) := by decide +kernel
theorem dMeanings_noteObject_35 : decode bMeanings_noteObject 35 = .ok (.invokevirtual 79, 3) := by decide +kernel
theorem dMeanings_noteObject_38 : decode bMeanings_noteObject 38 = .ok (.aload_n 0, 1) := by decide +kernel
theorem dMeanings_noteObject_39 : decode bMeanings_noteObject 39 = .ok (.getfield 27, 3) := by decide +kernel
theorem dMeanings_noteObject_42 : decode bMeanings_noteObject 42 = .ok (.iload_n 1, 1) := by decide +kernel
theorem dMeanings_noteObject_43 : decode bMeanings_noteObject 43 = .ok (.iload_n 2, 1) := by decide +kernel
theorem dMeanings_noteObject_44 : decode bMeanings_noteObject 44 = .ok (.invokevirtual 85, 3) := by decide +kernel
theorem dMeanings_noteObject_47 : decode bMeanings_noteObject 47 = .ok (.aload_n 0, 1) := by decide +kernel
theorem dMeanings_noteObject_48 : decode bMeanings_noteObject 48 = .ok (.getfield 27, 3) := by decide +kernel
theorem dMeanings_noteObject_51 : decode bMeanings_noteObject 51 = .ok (.iload_n 1, 1) := by decide +kernel
theorem dMeanings_noteObject_52 : decode bMeanings_noteObject 52 = .ok (.aload_n 0, 1) := by decide +kernel
theorem dMeanings_noteObject_53 : decode bMeanings_noteObject 53 = .ok (.getfield 23, 3) := by decide +kernel
theorem dMeanings_noteObject_56 : decode bMeanings_noteObject 56 = .ok (.iload_n 2, 1) := by decide +kernel
theorem dMeanings_noteObject_57 : decode bMeanings_noteObject 57 = .ok (.invokevirtual 88, 3) := by decide +kernel
theorem dMeanings_noteObject_60 : decode bMeanings_noteObject 60 = .ok (.invokevirtual 89, 3) := by decide +kernel
theorem dMeanings_noteObject_63 : decode bMeanings_noteObject 63 = .ok (.aload_n 0, 1) := by decide +kernel
theorem dMeanings_noteObject_64 : decode bMeanings_noteObject 64 = .ok (.getfield 27, 3) := by decide +kernel
theorem dMeanings_noteObject_67 : decode bMeanings_noteObject 67 = .ok (.getfield 92, 3) := by decide +kernel
theorem dMeanings_noteObject_70 : decode bMeanings_noteObject 70 = .ok (.iload_n 1, 1) := by decide +kernel
theorem dMeanings_noteObject_71 : decode bMeanings_noteObject 71 = .ok (.aload_n 0, 1) := by decide +kernel
theorem dMeanings_noteObject_72 : decode bMeanings_noteObject 72 = .ok (.getfield 23, 3) := by decide +kernel
theorem dMeanings_noteObject_75 : decode bMeanings_noteObject 75 = .ok (.getfield 96, 3) := by decide +kernel
theorem dMeanings_noteObject_78 : decode bMeanings_noteObject 78 = .ok (.iload_n 2, 1) := by decide +kernel
theorem dMeanings_noteObject_79 : decode bMeanings_noteObject 79 = .ok (.invokevirtual 97, 3) := by decide +kernel
theorem dMeanings_noteObject_82 : decode bMeanings_noteObject 82 = .ok (.return_, 1) := by decide +kernel
theorem dMeanings_noteValue_0 : decode bMeanings_noteValue 0 = .ok (.aload_n 0, 1) := by decide +kernel
theorem dMeanings_noteValue_1 : decode bMeanings_noteValue 1 = .ok (.getfield 27, 3) := by decide +kernel
theorem dMeanings_noteValue_4 : decode bMeanings_noteValue 4 = .ok (.iload_n 1, 1) := by decide +kernel
theorem dMeanings_noteValue_5 : decode bMeanings_noteValue 5 = .ok (.iload_n 2, 1) := by decide +kernel
theorem dMeanings_noteValue_6 : decode bMeanings_noteValue 6 = .ok (.iload_n 3, 1) := by decide +kernel
theorem dMeanings_noteValue_7 : decode bMeanings_noteValue 7 = .ok (.iconst 1, 1) := by decide +kernel
theorem dMeanings_noteValue_8 : decode bMeanings_noteValue 8 = .ok (.invokevirtual 79, 3) := by decide +kernel
theorem dMeanings_noteValue_11 : decode bMeanings_noteValue 11 = .ok (.aload_n 0, 1) := by decide +kernel
theorem dMeanings_noteValue_12 : decode bMeanings_noteValue 12 = .ok (.getfield 27, 3) := by decide +kernel
theorem dMeanings_noteValue_15 : decode bMeanings_noteValue 15 = .ok (.iload_n 1, 1) := by decide +kernel
theorem dMeanings_noteValue_16 : decode bMeanings_noteValue 16 = .ok (.sipush 2000, 3) := by decide +kernel
theorem dMeanings_noteValue_19 : decode bMeanings_noteValue 19 = .ok (.invokevirtual 85, 3) := by decide +kernel
theorem dMeanings_noteValue_22 : decode bMeanings_noteValue 22 = .ok (.aload_n 0, 1) := by decide +kernel
theorem dMeanings_noteValue_23 : decode bMeanings_noteValue 23 = .ok (.getfield 27, 3) := by decide +kernel
theorem dMeanings_noteValue_26 : decode bMeanings_noteValue 26 = .ok (.iload_n 1, 1) := by decide +kernel
theorem dMeanings_noteValue_27 : decode bMeanings_noteValue 27 = .ok (.iload 4, 2) := by decide +kernel
theorem dMeanings_noteValue_29 : decode bMeanings_noteValue 29 = .ok (.invokevirtual 89, 3) := by decide +kernel
theorem dMeanings_noteValue_32 : decode bMeanings_noteValue 32 = .ok (.return_, 1) := by decide +kernel
theorem dMeanings_isConstant_0 : decode bMeanings_isConstant 0 = .ok (.aload_n 0, 1) := by decide +kernel
theorem dMeanings_isConstant_1 : decode bMeanings_isConstant 1 = .ok (.getfield 23, 3) := by decide +kernel
theorem dMeanings_isConstant_4 : decode bMeanings_isConstant 4 = .ok (.iload_n 1, 1) := by decide +kernel
theorem dMeanings_isConstant_5 : decode bMeanings_isConstant 5 = .ok (.invokevirtual 103, 3) := by decide +kernel
theorem dMeanings_isConstant_8 : decode bMeanings_isConstant 8 = .ok (.ifCond .ne 7, 3) := by decide +kernel
theorem dMeanings_isConstant_11 : decode bMeanings_isConstant 11 = .ok (.iconst 1, 1) := by decide +kernel
theorem dMeanings_isConstant_12 : decode bMeanings_isConstant 12 = .ok (.goto 4, 3) := by decide +kernel
theorem dMeanings_isConstant_15 : decode bMeanings_isConstant 15 = .ok (.iconst 0, 1) := by decide +kernel
theorem dMeanings_isConstant_16 : decode bMeanings_isConstant 16 = .ok (.ireturn, 1) := by decide +kernel
theorem dMeanings_isRow_0 : decode bMeanings_isRow 0 = .ok (.aload_n 0, 1) := by decide +kernel
theorem dMeanings_isRow_1 : decode bMeanings_isRow 1 = .ok (.getfield 19, 3) := by decide +kernel
theorem dMeanings_isRow_4 : decode bMeanings_isRow 4 = .ok (.aload_n 0, 1) := by decide +kernel
theorem dMeanings_isRow_5 : decode bMeanings_isRow 5 = .ok (.getfield 23, 3) := by decide +kernel
theorem dMeanings_isRow_8 : decode bMeanings_isRow 8 = .ok (.iload_n 1, 1) := by decide +kernel
theorem dMeanings_isRow_9 : decode bMeanings_isRow 9 = .ok (.invokevirtual 62, 3) := by decide +kernel
theorem dMeanings_isRow_12 : decode bMeanings_isRow 12 = .ok (.invokevirtual 67, 3) := by decide +kernel
theorem dMeanings_isRow_15 : decode bMeanings_isRow 15 = .ok (.iconst 3, 1) := by decide +kernel
theorem dMeanings_isRow_16 : decode bMeanings_isRow 16 = .ok (.if_icmp .ne 7, 3) := by decide +kernel
theorem dMeanings_isRow_19 : decode bMeanings_isRow 19 = .ok (.iconst 1, 1) := by decide +kernel
theorem dMeanings_isRow_20 : decode bMeanings_isRow 20 = .ok (.goto 4, 3) := by decide +kernel
theorem dMeanings_isRow_23 : decode bMeanings_isRow 23 = .ok (.iconst 0, 1) := by decide +kernel
theorem dMeanings_isRow_24 : decode bMeanings_isRow 24 = .ok (.ireturn, 1) := by decide +kernel
theorem dMeanings_objectAt_0 : decode bMeanings_objectAt 0 = .ok (.aload_n 0, 1) := by decide +kernel
theorem dMeanings_objectAt_1 : decode bMeanings_objectAt 1 = .ok (.getfield 15, 3) := by decide +kernel
theorem dMeanings_objectAt_4 : decode bMeanings_objectAt 4 = .ok (.aload_n 0, 1) := by decide +kernel
theorem dMeanings_objectAt_5 : decode bMeanings_objectAt 5 = .ok (.getfield 9, 3) := by decide +kernel
theorem dMeanings_objectAt_8 : decode bMeanings_objectAt 8 = .ok (.iload_n 1, 1) := by decide +kernel
theorem dMeanings_objectAt_9 : decode bMeanings_objectAt 9 = .ok (.invokevirtual 37, 3) := by decide +kernel
theorem dMeanings_objectAt_12 : decode bMeanings_objectAt 12 = .ok (.invokevirtual 40, 3) := by decide +kernel
theorem dMeanings_objectAt_15 : decode bMeanings_objectAt 15 = .ok (.istore_n 2, 1) := by decide +kernel
theorem dMeanings_objectAt_16 : decode bMeanings_objectAt 16 = .ok (.aload_n 0, 1) := by decide +kernel
theorem dMeanings_objectAt_17 : decode bMeanings_objectAt 17 = .ok (.getfield 15, 3) := by decide +kernel
theorem dMeanings_objectAt_20 : decode bMeanings_objectAt 20 = .ok (.iload_n 2, 1) := by decide +kernel
theorem dMeanings_objectAt_21 : decode bMeanings_objectAt 21 = .ok (.invokevirtual 48, 3) := by decide +kernel
theorem dMeanings_objectAt_24 : decode bMeanings_objectAt 24 = .ok (.iconst 2, 1) := by decide +kernel
theorem dMeanings_objectAt_25 : decode bMeanings_objectAt 25 = .ok (.if_icmp .ne 14, 3) := by decide +kernel
theorem dMeanings_objectAt_28 : decode bMeanings_objectAt 28 = .ok (.aload_n 0, 1) := by decide +kernel
theorem dMeanings_objectAt_29 : decode bMeanings_objectAt 29 = .ok (.getfield 15, 3) := by decide +kernel
theorem dMeanings_objectAt_32 : decode bMeanings_objectAt 32 = .ok (.iload_n 2, 1) := by decide +kernel
theorem dMeanings_objectAt_33 : decode bMeanings_objectAt 33 = .ok (.invokevirtual 45, 3) := by decide +kernel
theorem dMeanings_objectAt_36 : decode bMeanings_objectAt 36 = .ok (.goto 4, 3) := by decide +kernel
theorem dMeanings_objectAt_39 : decode bMeanings_objectAt 39 = .ok (.iconst (-1), 1) := by decide +kernel
theorem dMeanings_objectAt_40 : decode bMeanings_objectAt 40 = .ok (.ireturn, 1) := by decide +kernel
theorem dMeanings_isUnknown_0 : decode bMeanings_isUnknown 0 = .ok (.aload_n 0, 1) := by decide +kernel
theorem dMeanings_isUnknown_1 : decode bMeanings_isUnknown 1 = .ok (.getfield 15, 3) := by decide +kernel
theorem dMeanings_isUnknown_4 : decode bMeanings_isUnknown 4 = .ok (.aload_n 0, 1) := by decide +kernel
theorem dMeanings_isUnknown_5 : decode bMeanings_isUnknown 5 = .ok (.getfield 9, 3) := by decide +kernel
theorem dMeanings_isUnknown_8 : decode bMeanings_isUnknown 8 = .ok (.iload_n 1, 1) := by decide +kernel
theorem dMeanings_isUnknown_9 : decode bMeanings_isUnknown 9 = .ok (.invokevirtual 37, 3) := by decide +kernel
theorem dMeanings_isUnknown_12 : decode bMeanings_isUnknown 12 = .ok (.invokevirtual 40, 3) := by decide +kernel
theorem dMeanings_isUnknown_15 : decode bMeanings_isUnknown 15 = .ok (.iconst (-1), 1) := by decide +kernel
theorem dMeanings_isUnknown_16 : decode bMeanings_isUnknown 16 = .ok (.if_icmp .ne 7, 3) := by decide +kernel
theorem dMeanings_isUnknown_19 : decode bMeanings_isUnknown 19 = .ok (.iconst 1, 1) := by decide +kernel
theorem dMeanings_isUnknown_20 : decode bMeanings_isUnknown 20 = .ok (.goto 4, 3) := by decide +kernel
theorem dMeanings_isUnknown_23 : decode bMeanings_isUnknown 23 = .ok (.iconst 0, 1) := by decide +kernel
theorem dMeanings_isUnknown_24 : decode bMeanings_isUnknown 24 = .ok (.ireturn, 1) := by decide +kernel
theorem dMeanings_apply_0 : decode bMeanings_apply 0 = .ok (.aload_n 0, 1) := by decide +kernel
theorem dMeanings_apply_1 : decode bMeanings_apply 1 = .ok (.getfield 15, 3) := by decide +kernel
theorem dMeanings_apply_4 : decode bMeanings_apply 4 = .ok (.aload_n 0, 1) := by decide +kernel
theorem dMeanings_apply_5 : decode bMeanings_apply 5 = .ok (.getfield 9, 3) := by decide +kernel
theorem dMeanings_apply_8 : decode bMeanings_apply 8 = .ok (.iload_n 1, 1) := by decide +kernel
theorem dMeanings_apply_9 : decode bMeanings_apply 9 = .ok (.invokevirtual 37, 3) := by decide +kernel
theorem dMeanings_apply_12 : decode bMeanings_apply 12 = .ok (.invokevirtual 40, 3) := by decide +kernel
theorem dMeanings_apply_15 : decode bMeanings_apply 15 = .ok (.istore_n 2, 1) := by decide +kernel
theorem dMeanings_apply_16 : decode bMeanings_apply 16 = .ok (.iload_n 2, 1) := by decide +kernel
theorem dMeanings_apply_17 : decode bMeanings_apply 17 = .ok (.iconst (-1), 1) := by decide +kernel
theorem dMeanings_apply_18 : decode bMeanings_apply 18 = .ok (.if_icmp .ne 5, 3) := by decide +kernel
theorem dMeanings_apply_21 : decode bMeanings_apply 21 = .ok (.iconst 1, 1) := by decide +kernel
theorem dMeanings_apply_22 : decode bMeanings_apply 22 = .ok (.ireturn, 1) := by decide +kernel
theorem dMeanings_apply_23 : decode bMeanings_apply 23 = .ok (.aload_n 0, 1) := by decide +kernel
theorem dMeanings_apply_24 : decode bMeanings_apply 24 = .ok (.getfield 15, 3) := by decide +kernel
theorem dMeanings_apply_27 : decode bMeanings_apply 27 = .ok (.iload_n 2, 1) := by decide +kernel
theorem dMeanings_apply_28 : decode bMeanings_apply 28 = .ok (.invokevirtual 48, 3) := by decide +kernel
theorem dMeanings_apply_31 : decode bMeanings_apply 31 = .ok (.iconst 5, 1) := by decide +kernel
theorem dMeanings_apply_32 : decode bMeanings_apply 32 = .ok (.if_icmp .ne 17, 3) := by decide +kernel
theorem dMeanings_apply_35 : decode bMeanings_apply 35 = .ok (.aload_n 0, 1) := by decide +kernel
theorem dMeanings_apply_36 : decode bMeanings_apply 36 = .ok (.iload_n 1, 1) := by decide +kernel
theorem dMeanings_apply_37 : decode bMeanings_apply 37 = .ok (.aload_n 0, 1) := by decide +kernel
theorem dMeanings_apply_38 : decode bMeanings_apply 38 = .ok (.getfield 15, 3) := by decide +kernel
theorem dMeanings_apply_41 : decode bMeanings_apply 41 = .ok (.iload_n 2, 1) := by decide +kernel
theorem dMeanings_apply_42 : decode bMeanings_apply 42 = .ok (.invokevirtual 45, 3) := by decide +kernel
theorem dMeanings_apply_45 : decode bMeanings_apply 45 = .ok (.invokevirtual 106, 3) := by decide +kernel
theorem dMeanings_apply_48 : decode bMeanings_apply 48 = .ok (.ireturn, 1) := by decide +kernel
theorem dMeanings_apply_49 : decode bMeanings_apply 49 = .ok (.aload_n 0, 1) := by decide +kernel
theorem dMeanings_apply_50 : decode bMeanings_apply 50 = .ok (.iload_n 1, 1) := by decide +kernel
theorem dMeanings_apply_51 : decode bMeanings_apply 51 = .ok (.invokevirtual 110, 3) := by decide +kernel
theorem dMeanings_apply_54 : decode bMeanings_apply 54 = .ok (.istore_n 3, 1) := by decide +kernel
theorem dMeanings_apply_55 : decode bMeanings_apply 55 = .ok (.iload_n 3, 1) := by decide +kernel
theorem dMeanings_apply_56 : decode bMeanings_apply 56 = .ok (.iconst (-1), 1) := by decide +kernel
theorem dMeanings_apply_57 : decode bMeanings_apply 57 = .ok (.if_icmp .eq 11, 3) := by decide +kernel
theorem dMeanings_apply_60 : decode bMeanings_apply 60 = .ok (.aload_n 0, 1) := by decide +kernel
theorem dMeanings_apply_61 : decode bMeanings_apply 61 = .ok (.iload_n 3, 1) := by decide +kernel
theorem dMeanings_apply_62 : decode bMeanings_apply 62 = .ok (.invokevirtual 113, 3) := by decide +kernel
theorem dMeanings_apply_65 : decode bMeanings_apply 65 = .ok (.ifCond .ne 5, 3) := by decide +kernel
theorem dMeanings_apply_68 : decode bMeanings_apply 68 = .ok (.iconst 2, 1) := by decide +kernel
theorem dMeanings_apply_69 : decode bMeanings_apply 69 = .ok (.ireturn, 1) := by decide +kernel
theorem dMeanings_apply_70 : decode bMeanings_apply 70 = .ok (.aload_n 0, 1) := by decide +kernel
theorem dMeanings_apply_71 : decode bMeanings_apply 71 = .ok (.getfield 9, 3) := by decide +kernel
theorem dMeanings_apply_74 : decode bMeanings_apply 74 = .ok (.iload_n 1, 1) := by decide +kernel
theorem dMeanings_apply_75 : decode bMeanings_apply 75 = .ok (.invokevirtual 31, 3) := by decide +kernel
theorem dMeanings_apply_78 : decode bMeanings_apply 78 = .ok (.iconst 1, 1) := by decide +kernel
theorem dMeanings_apply_79 : decode bMeanings_apply 79 = .ok (.if_icmp .ne 15, 3) := by decide +kernel
theorem dMeanings_apply_82 : decode bMeanings_apply 82 = .ok (.aload_n 0, 1) := by decide +kernel
theorem dMeanings_apply_83 : decode bMeanings_apply 83 = .ok (.iload_n 1, 1) := by decide +kernel
theorem dMeanings_apply_84 : decode bMeanings_apply 84 = .ok (.iload_n 3, 1) := by decide +kernel
theorem dMeanings_apply_85 : decode bMeanings_apply 85 = .ok (.iload_n 1, 1) := by decide +kernel
theorem dMeanings_apply_86 : decode bMeanings_apply 86 = .ok (.iconst 1, 1) := by decide +kernel
theorem dMeanings_apply_87 : decode bMeanings_apply 87 = .ok (.isub, 1) := by decide +kernel
theorem dMeanings_apply_88 : decode bMeanings_apply 88 = .ok (.invokevirtual 116, 3) := by decide +kernel
theorem dMeanings_apply_91 : decode bMeanings_apply 91 = .ok (.goto 5, 3) := by decide +kernel
theorem dMeanings_apply_94 : decode bMeanings_apply 94 = .ok (.bipush 11, 2) := by decide +kernel
theorem dMeanings_apply_96 : decode bMeanings_apply 96 = .ok (.ireturn, 1) := by decide +kernel
theorem dMeanings_element_0 : decode bMeanings_element 0 = .ok (.aload_n 0, 1) := by decide +kernel
theorem dMeanings_element_1 : decode bMeanings_element 1 = .ok (.getfield 27, 3) := by decide +kernel
theorem dMeanings_element_4 : decode bMeanings_element 4 = .ok (.iload_n 3, 1) := by decide +kernel
theorem dMeanings_element_5 : decode bMeanings_element 5 = .ok (.invokevirtual 120, 3) := by decide +kernel
theorem dMeanings_element_8 : decode bMeanings_element 8 = .ok (.iconst 2, 1) := by decide +kernel
theorem dMeanings_element_9 : decode bMeanings_element 9 = .ok (.if_icmp .eq 5, 3) := by decide +kernel
theorem dMeanings_element_12 : decode bMeanings_element 12 = .ok (.iconst 3, 1) := by decide +kernel
theorem dMeanings_element_13 : decode bMeanings_element 13 = .ok (.ireturn, 1) := by decide +kernel
theorem dMeanings_element_14 : decode bMeanings_element 14 = .ok (.aload_n 0, 1) := by decide +kernel
theorem dMeanings_element_15 : decode bMeanings_element 15 = .ok (.getfield 27, 3) := by decide +kernel
theorem dMeanings_element_18 : decode bMeanings_element 18 = .ok (.iload_n 1, 1) := by decide +kernel
theorem dMeanings_element_19 : decode bMeanings_element 19 = .ok (.iconst 0, 1) := by decide +kernel
theorem dMeanings_element_20 : decode bMeanings_element 20 = .ok (.iconst 0, 1) := by decide +kernel
theorem dMeanings_element_21 : decode bMeanings_element 21 = .ok (.aload_n 0, 1) := by decide +kernel
theorem dMeanings_element_22 : decode bMeanings_element 22 = .ok (.iload_n 2, 1) := by decide +kernel
theorem dMeanings_element_23 : decode bMeanings_element 23 = .ok (.invokevirtual 75, 3) := by decide +kernel
theorem dMeanings_element_26 : decode bMeanings_element 26 = .ok (.ifCond .eq 18, 3) := by decide +kernel
theorem dMeanings_element_29 : decode bMeanings_element 29 = .ok (.aload_n 0, 1) := by decide +kernel
theorem dMeanings_element_30 : decode bMeanings_element 30 = .ok (.getfield 27, 3) := by decide +kernel
theorem dMeanings_element_33 : decode bMeanings_element 33 = .ok (.iload_n 3, 1) := by decide +kernel
theorem dMeanings_element_34 : decode bMeanings_element 34 = .ok (.invokevirtual 121, 3) := by decide +kernel
theorem dMeanings_element_37 : decode bMeanings_element 37 = .ok (.ifCond .eq 7, 3) := by decide +kernel
theorem dMeanings_element_40 : decode bMeanings_element 40 = .ok (.iconst 1, 1) := by decide +kernel
theorem dMeanings_element_41 : decode bMeanings_element 41 = .ok (.goto 4, 3) := by decide +kernel
theorem dMeanings_element_44 : decode bMeanings_element 44 = .ok (.iconst 0, 1) := by decide +kernel
theorem dMeanings_element_45 : decode bMeanings_element 45 = .ok (.invokevirtual 79, 3) := by decide +kernel
theorem dMeanings_element_48 : decode bMeanings_element 48 = .ok (.aload_n 0, 1) := by decide +kernel
theorem dMeanings_element_49 : decode bMeanings_element 49 = .ok (.getfield 27, 3) := by decide +kernel
theorem dMeanings_element_52 : decode bMeanings_element 52 = .ok (.iload_n 1, 1) := by decide +kernel
theorem dMeanings_element_53 : decode bMeanings_element 53 = .ok (.iload_n 2, 1) := by decide +kernel
theorem dMeanings_element_54 : decode bMeanings_element 54 = .ok (.invokevirtual 85, 3) := by decide +kernel
theorem dMeanings_element_57 : decode bMeanings_element 57 = .ok (.aload_n 0, 1) := by decide +kernel
theorem dMeanings_element_58 : decode bMeanings_element 58 = .ok (.getfield 27, 3) := by decide +kernel
theorem dMeanings_element_61 : decode bMeanings_element 61 = .ok (.iload_n 3, 1) := by decide +kernel
theorem dMeanings_element_62 : decode bMeanings_element 62 = .ok (.invokevirtual 121, 3) := by decide +kernel
theorem dMeanings_element_65 : decode bMeanings_element 65 = .ok (.ifCond .ne 5, 3) := by decide +kernel
theorem dMeanings_element_68 : decode bMeanings_element 68 = .ok (.iconst 0, 1) := by decide +kernel
theorem dMeanings_element_69 : decode bMeanings_element 69 = .ok (.ireturn, 1) := by decide +kernel
theorem dMeanings_element_70 : decode bMeanings_element 70 = .ok (.aload_n 0, 1) := by decide +kernel
theorem dMeanings_element_71 : decode bMeanings_element 71 = .ok (.getfield 19, 3) := by decide +kernel
theorem dMeanings_element_74 : decode bMeanings_element 74 = .ok (.aload_n 0, 1) := by decide +kernel
theorem dMeanings_element_75 : decode bMeanings_element 75 = .ok (.getfield 23, 3) := by decide +kernel
theorem dMeanings_element_78 : decode bMeanings_element 78 = .ok (.iload_n 2, 1) := by decide +kernel
theorem dMeanings_element_79 : decode bMeanings_element 79 = .ok (.invokevirtual 62, 3) := by decide +kernel
theorem dMeanings_element_82 : decode bMeanings_element 82 = .ok (.aload_n 0, 1) := by decide +kernel
theorem dMeanings_element_83 : decode bMeanings_element 83 = .ok (.getfield 27, 3) := by decide +kernel
theorem dMeanings_element_86 : decode bMeanings_element 86 = .ok (.iload_n 3, 1) := by decide +kernel
theorem dMeanings_element_87 : decode bMeanings_element 87 = .ok (.invokevirtual 124, 3) := by decide +kernel
theorem dMeanings_element_90 : decode bMeanings_element 90 = .ok (.invokevirtual 125, 3) := by decide +kernel
theorem dMeanings_element_93 : decode bMeanings_element 93 = .ok (.istore 4, 2) := by decide +kernel
theorem dMeanings_element_95 : decode bMeanings_element 95 = .ok (.iload 4, 2) := by decide +kernel
theorem dMeanings_element_97 : decode bMeanings_element 97 = .ok (.iconst (-1), 1) := by decide +kernel
theorem dMeanings_element_98 : decode bMeanings_element 98 = .ok (.if_icmp .ne 6, 3) := by decide +kernel
theorem dMeanings_element_101 : decode bMeanings_element 101 = .ok (.bipush 6, 2) := by decide +kernel
theorem dMeanings_element_103 : decode bMeanings_element 103 = .ok (.ireturn, 1) := by decide +kernel
theorem dMeanings_element_104 : decode bMeanings_element 104 = .ok (.aload_n 0, 1) := by decide +kernel
theorem dMeanings_element_105 : decode bMeanings_element 105 = .ok (.getfield 27, 3) := by decide +kernel
theorem dMeanings_element_108 : decode bMeanings_element 108 = .ok (.iload_n 1, 1) := by decide +kernel
theorem dMeanings_element_109 : decode bMeanings_element 109 = .ok (.aload_n 0, 1) := by decide +kernel
theorem dMeanings_element_110 : decode bMeanings_element 110 = .ok (.getfield 23, 3) := by decide +kernel
theorem dMeanings_element_113 : decode bMeanings_element 113 = .ok (.getfield 96, 3) := by decide +kernel
theorem dMeanings_element_116 : decode bMeanings_element 116 = .ok (.iload_n 2, 1) := by decide +kernel
theorem dMeanings_element_117 : decode bMeanings_element 117 = .ok (.iload 4, 2) := by decide +kernel
theorem dMeanings_element_119 : decode bMeanings_element 119 = .ok (.invokevirtual 128, 3) := by decide +kernel
theorem dMeanings_element_122 : decode bMeanings_element 122 = .ok (.invokevirtual 89, 3) := by decide +kernel
theorem dMeanings_element_125 : decode bMeanings_element 125 = .ok (.iconst 0, 1) := by decide +kernel
theorem dMeanings_element_126 : decode bMeanings_element 126 = .ok (.ireturn, 1) := by decide +kernel
theorem dMeanings_applyFunction_0 : decode bMeanings_applyFunction 0 = .ok (.aload_n 0, 1) := by decide +kernel
theorem dMeanings_applyFunction_1 : decode bMeanings_applyFunction 1 = .ok (.getfield 27, 3) := by decide +kernel
theorem dMeanings_applyFunction_4 : decode bMeanings_applyFunction 4 = .ok (.iload_n 1, 1) := by decide +kernel
theorem dMeanings_applyFunction_5 : decode bMeanings_applyFunction 5 = .ok (.sipush 3000, 3) := by decide +kernel
theorem dMeanings_applyFunction_8 : decode bMeanings_applyFunction 8 = .ok (.invokevirtual 85, 3) := by decide +kernel
theorem dMeanings_applyFunction_11 : decode bMeanings_applyFunction 11 = .ok (.aload_n 0, 1) := by decide +kernel
theorem dMeanings_applyFunction_12 : decode bMeanings_applyFunction 12 = .ok (.getfield 9, 3) := by decide +kernel
theorem dMeanings_applyFunction_15 : decode bMeanings_applyFunction 15 = .ok (.iload_n 1, 1) := by decide +kernel
theorem dMeanings_applyFunction_16 : decode bMeanings_applyFunction 16 = .ok (.invokevirtual 31, 3) := by decide +kernel
theorem dMeanings_applyFunction_19 : decode bMeanings_applyFunction 19 = .ok (.iload_n 2, 1) := by decide +kernel
theorem dMeanings_applyFunction_20 : decode bMeanings_applyFunction 20 = .ok (.bipush 11, 2) := by decide +kernel
theorem dMeanings_applyFunction_22 : decode bMeanings_applyFunction 22 = .ok (.if_icmp .ne 7, 3) := by decide +kernel
theorem dMeanings_applyFunction_25 : decode bMeanings_applyFunction 25 = .ok (.iconst 2, 1) := by decide +kernel
theorem dMeanings_applyFunction_26 : decode bMeanings_applyFunction 26 = .ok (.goto 4, 3) := by decide +kernel
theorem dMeanings_applyFunction_29 : decode bMeanings_applyFunction 29 = .ok (.iconst 1, 1) := by decide +kernel
theorem dMeanings_applyFunction_30 : decode bMeanings_applyFunction 30 = .ok (.if_icmp .eq 6, 3) := by decide +kernel
theorem dMeanings_applyFunction_33 : decode bMeanings_applyFunction 33 = .ok (.bipush 11, 2) := by decide +kernel
theorem dMeanings_applyFunction_35 : decode bMeanings_applyFunction 35 = .ok (.ireturn, 1) := by decide +kernel
theorem dMeanings_applyFunction_36 : decode bMeanings_applyFunction 36 = .ok (.iload_n 2, 1) := by decide +kernel
theorem dMeanings_applyFunction_37 : decode bMeanings_applyFunction 37 = .ok (.lookupswitch 53 #[(10, 27), (11, 36)], 27) := by decide +kernel
theorem dMeanings_applyFunction_64 : decode bMeanings_applyFunction 64 = .ok (.aload_n 0, 1) := by decide +kernel
theorem dMeanings_applyFunction_65 : decode bMeanings_applyFunction 65 = .ok (.iload_n 1, 1) := by decide +kernel
theorem dMeanings_applyFunction_66 : decode bMeanings_applyFunction 66 = .ok (.iload_n 1, 1) := by decide +kernel
theorem dMeanings_applyFunction_67 : decode bMeanings_applyFunction 67 = .ok (.iconst 1, 1) := by decide +kernel
theorem dMeanings_applyFunction_68 : decode bMeanings_applyFunction 68 = .ok (.isub, 1) := by decide +kernel
theorem dMeanings_applyFunction_69 : decode bMeanings_applyFunction 69 = .ok (.invokevirtual 131, 3) := by decide +kernel
theorem dMeanings_applyFunction_72 : decode bMeanings_applyFunction 72 = .ok (.ireturn, 1) := by decide +kernel
theorem dMeanings_applyFunction_73 : decode bMeanings_applyFunction 73 = .ok (.aload_n 0, 1) := by decide +kernel
theorem dMeanings_applyFunction_74 : decode bMeanings_applyFunction 74 = .ok (.iload_n 1, 1) := by decide +kernel
theorem dMeanings_applyFunction_75 : decode bMeanings_applyFunction 75 = .ok (.aload_n 0, 1) := by decide +kernel
theorem dMeanings_applyFunction_76 : decode bMeanings_applyFunction 76 = .ok (.getfield 9, 3) := by decide +kernel
theorem dMeanings_applyFunction_79 : decode bMeanings_applyFunction 79 = .ok (.iload_n 1, 1) := by decide +kernel
theorem dMeanings_applyFunction_80 : decode bMeanings_applyFunction 80 = .ok (.invokevirtual 134, 3) := by decide +kernel
theorem dMeanings_applyFunction_83 : decode bMeanings_applyFunction 83 = .ok (.iload_n 1, 1) := by decide +kernel
theorem dMeanings_applyFunction_84 : decode bMeanings_applyFunction 84 = .ok (.iconst 1, 1) := by decide +kernel
theorem dMeanings_applyFunction_85 : decode bMeanings_applyFunction 85 = .ok (.isub, 1) := by decide +kernel
theorem dMeanings_applyFunction_86 : decode bMeanings_applyFunction 86 = .ok (.invokevirtual 137, 3) := by decide +kernel
theorem dMeanings_applyFunction_89 : decode bMeanings_applyFunction 89 = .ok (.ireturn, 1) := by decide +kernel
theorem dMeanings_applyFunction_90 : decode bMeanings_applyFunction 90 = .ok (.aload_n 0, 1) := by decide +kernel
theorem dMeanings_applyFunction_91 : decode bMeanings_applyFunction 91 = .ok (.iload_n 1, 1) := by decide +kernel
theorem dMeanings_applyFunction_92 : decode bMeanings_applyFunction 92 = .ok (.iload_n 1, 1) := by decide +kernel
theorem dMeanings_applyFunction_93 : decode bMeanings_applyFunction 93 = .ok (.iconst 1, 1) := by decide +kernel
theorem dMeanings_applyFunction_94 : decode bMeanings_applyFunction 94 = .ok (.isub, 1) := by decide +kernel
theorem dMeanings_applyFunction_95 : decode bMeanings_applyFunction 95 = .ok (.invokevirtual 140, 3) := by decide +kernel
theorem dMeanings_applyFunction_98 : decode bMeanings_applyFunction 98 = .ok (.ireturn, 1) := by decide +kernel
theorem dMeanings_edge_0 : decode bMeanings_edge 0 = .ok (.aload_n 0, 1) := by decide +kernel
theorem dMeanings_edge_1 : decode bMeanings_edge 1 = .ok (.getfield 9, 3) := by decide +kernel
theorem dMeanings_edge_4 : decode bMeanings_edge 4 = .ok (.iload_n 2, 1) := by decide +kernel
theorem dMeanings_edge_5 : decode bMeanings_edge 5 = .ok (.invokevirtual 143, 3) := by decide +kernel
theorem dMeanings_edge_8 : decode bMeanings_edge 8 = .ok (.iconst 1, 1) := by decide +kernel
theorem dMeanings_edge_9 : decode bMeanings_edge 9 = .ok (.if_icmp .eq 6, 3) := by decide +kernel
theorem dMeanings_edge_12 : decode bMeanings_edge 12 = .ok (.bipush 11, 2) := by decide +kernel
theorem dMeanings_edge_14 : decode bMeanings_edge 14 = .ok (.ireturn, 1) := by decide +kernel
theorem dMeanings_edge_15 : decode bMeanings_edge 15 = .ok (.aload_n 0, 1) := by decide +kernel
theorem dMeanings_edge_16 : decode bMeanings_edge 16 = .ok (.getfield 23, 3) := by decide +kernel
theorem dMeanings_edge_19 : decode bMeanings_edge 19 = .ok (.aload_n 0, 1) := by decide +kernel
theorem dMeanings_edge_20 : decode bMeanings_edge 20 = .ok (.getfield 27, 3) := by decide +kernel
theorem dMeanings_edge_23 : decode bMeanings_edge 23 = .ok (.iload_n 2, 1) := by decide +kernel
theorem dMeanings_edge_24 : decode bMeanings_edge 24 = .ok (.invokevirtual 146, 3) := by decide +kernel
theorem dMeanings_edge_27 : decode bMeanings_edge 27 = .ok (.invokevirtual 103, 3) := by decide +kernel
theorem dMeanings_edge_30 : decode bMeanings_edge 30 = .ok (.iconst 1, 1) := by decide +kernel
theorem dMeanings_edge_31 : decode bMeanings_edge 31 = .ok (.if_icmp .eq 5, 3) := by decide +kernel
theorem dMeanings_edge_34 : decode bMeanings_edge 34 = .ok (.iconst 2, 1) := by decide +kernel
theorem dMeanings_edge_35 : decode bMeanings_edge 35 = .ok (.ireturn, 1) := by decide +kernel
theorem dMeanings_edge_36 : decode bMeanings_edge 36 = .ok (.aload_n 0, 1) := by decide +kernel
theorem dMeanings_edge_37 : decode bMeanings_edge 37 = .ok (.getfield 27, 3) := by decide +kernel
theorem dMeanings_edge_40 : decode bMeanings_edge 40 = .ok (.iload_n 2, 1) := by decide +kernel
theorem dMeanings_edge_41 : decode bMeanings_edge 41 = .ok (.invokevirtual 120, 3) := by decide +kernel
theorem dMeanings_edge_44 : decode bMeanings_edge 44 = .ok (.ifCond .eq 5, 3) := by decide +kernel
theorem dMeanings_edge_47 : decode bMeanings_edge 47 = .ok (.iconst 3, 1) := by decide +kernel
theorem dMeanings_edge_48 : decode bMeanings_edge 48 = .ok (.ireturn, 1) := by decide +kernel
theorem dMeanings_edge_49 : decode bMeanings_edge 49 = .ok (.aload_n 0, 1) := by decide +kernel
theorem dMeanings_edge_50 : decode bMeanings_edge 50 = .ok (.getfield 27, 3) := by decide +kernel
theorem dMeanings_edge_53 : decode bMeanings_edge 53 = .ok (.iload_n 1, 1) := by decide +kernel
theorem dMeanings_edge_54 : decode bMeanings_edge 54 = .ok (.iconst 1, 1) := by decide +kernel
theorem dMeanings_edge_55 : decode bMeanings_edge 55 = .ok (.iconst 0, 1) := by decide +kernel
theorem dMeanings_edge_56 : decode bMeanings_edge 56 = .ok (.iconst 0, 1) := by decide +kernel
theorem dMeanings_edge_57 : decode bMeanings_edge 57 = .ok (.invokevirtual 79, 3) := by decide +kernel
theorem dMeanings_edge_60 : decode bMeanings_edge 60 = .ok (.iconst 0, 1) := by decide +kernel
theorem dMeanings_edge_61 : decode bMeanings_edge 61 = .ok (.ireturn, 1) := by decide +kernel
theorem dMeanings_numberOfRow_0 : decode bMeanings_numberOfRow 0 = .ok (.aload_n 0, 1) := by decide +kernel
theorem dMeanings_numberOfRow_1 : decode bMeanings_numberOfRow 1 = .ok (.getfield 27, 3) := by decide +kernel
theorem dMeanings_numberOfRow_4 : decode bMeanings_numberOfRow 4 = .ok (.iload_n 2, 1) := by decide +kernel
theorem dMeanings_numberOfRow_5 : decode bMeanings_numberOfRow 5 = .ok (.invokevirtual 120, 3) := by decide +kernel
theorem dMeanings_numberOfRow_8 : decode bMeanings_numberOfRow 8 = .ok (.iconst 3, 1) := by decide +kernel
theorem dMeanings_numberOfRow_9 : decode bMeanings_numberOfRow 9 = .ok (.if_icmp .eq 5, 3) := by decide +kernel
theorem dMeanings_numberOfRow_12 : decode bMeanings_numberOfRow 12 = .ok (.iconst 3, 1) := by decide +kernel
theorem dMeanings_numberOfRow_13 : decode bMeanings_numberOfRow 13 = .ok (.ireturn, 1) := by decide +kernel
theorem dMeanings_numberOfRow_14 : decode bMeanings_numberOfRow 14 = .ok (.aload_n 0, 1) := by decide +kernel
theorem dMeanings_numberOfRow_15 : decode bMeanings_numberOfRow 15 = .ok (.getfield 27, 3) := by decide +kernel
theorem dMeanings_numberOfRow_18 : decode bMeanings_numberOfRow 18 = .ok (.iload_n 1, 1) := by decide +kernel
theorem dMeanings_numberOfRow_19 : decode bMeanings_numberOfRow 19 = .ok (.iconst 2, 1) := by decide +kernel
theorem dMeanings_numberOfRow_20 : decode bMeanings_numberOfRow 20 = .ok (.iconst 0, 1) := by decide +kernel
theorem dMeanings_numberOfRow_21 : decode bMeanings_numberOfRow 21 = .ok (.aload_n 0, 1) := by decide +kernel
theorem dMeanings_numberOfRow_22 : decode bMeanings_numberOfRow 22 = .ok (.getfield 27, 3) := by decide +kernel
theorem dMeanings_numberOfRow_25 : decode bMeanings_numberOfRow 25 = .ok (.iload_n 2, 1) := by decide +kernel
theorem dMeanings_numberOfRow_26 : decode bMeanings_numberOfRow 26 = .ok (.invokevirtual 121, 3) := by decide +kernel
theorem dMeanings_numberOfRow_29 : decode bMeanings_numberOfRow 29 = .ok (.invokevirtual 79, 3) := by decide +kernel
theorem dMeanings_numberOfRow_32 : decode bMeanings_numberOfRow 32 = .ok (.aload_n 0, 1) := by decide +kernel
theorem dMeanings_numberOfRow_33 : decode bMeanings_numberOfRow 33 = .ok (.getfield 27, 3) := by decide +kernel
theorem dMeanings_numberOfRow_36 : decode bMeanings_numberOfRow 36 = .ok (.iload_n 2, 1) := by decide +kernel
theorem dMeanings_numberOfRow_37 : decode bMeanings_numberOfRow 37 = .ok (.invokevirtual 121, 3) := by decide +kernel
theorem dMeanings_numberOfRow_40 : decode bMeanings_numberOfRow 40 = .ok (.ifCond .ne 5, 3) := by decide +kernel
theorem dMeanings_numberOfRow_43 : decode bMeanings_numberOfRow 43 = .ok (.iconst 0, 1) := by decide +kernel
theorem dMeanings_numberOfRow_44 : decode bMeanings_numberOfRow 44 = .ok (.ireturn, 1) := by decide +kernel
theorem dMeanings_numberOfRow_45 : decode bMeanings_numberOfRow 45 = .ok (.aload_n 0, 1) := by decide +kernel
theorem dMeanings_numberOfRow_46 : decode bMeanings_numberOfRow 46 = .ok (.getfield 27, 3) := by decide +kernel
theorem dMeanings_numberOfRow_49 : decode bMeanings_numberOfRow 49 = .ok (.iload_n 2, 1) := by decide +kernel
theorem dMeanings_numberOfRow_50 : decode bMeanings_numberOfRow 50 = .ok (.invokevirtual 149, 3) := by decide +kernel
theorem dMeanings_numberOfRow_53 : decode bMeanings_numberOfRow 53 = .ok (.istore_n 3, 1) := by decide +kernel
theorem dMeanings_numberOfRow_54 : decode bMeanings_numberOfRow 54 = .ok (.aload_n 0, 1) := by decide +kernel
theorem dMeanings_numberOfRow_55 : decode bMeanings_numberOfRow 55 = .ok (.getfield 27, 3) := by decide +kernel
theorem dMeanings_numberOfRow_58 : decode bMeanings_numberOfRow 58 = .ok (.getfield 92, 3) := by decide +kernel
theorem dMeanings_numberOfRow_61 : decode bMeanings_numberOfRow 61 = .ok (.iload_n 2, 1) := by decide +kernel
theorem dMeanings_numberOfRow_62 : decode bMeanings_numberOfRow 62 = .ok (.iload_n 3, 1) := by decide +kernel
theorem dMeanings_numberOfRow_63 : decode bMeanings_numberOfRow 63 = .ok (.invokevirtual 150, 3) := by decide +kernel
theorem dMeanings_numberOfRow_66 : decode bMeanings_numberOfRow 66 = .ok (.lstore 4, 2) := by decide +kernel
theorem dMeanings_numberOfRow_68 : decode bMeanings_numberOfRow 68 = .ok (.aload_n 0, 1) := by decide +kernel
theorem dMeanings_numberOfRow_69 : decode bMeanings_numberOfRow 69 = .ok (.getfield 27, 3) := by decide +kernel
theorem dMeanings_numberOfRow_72 : decode bMeanings_numberOfRow 72 = .ok (.getfield 92, 3) := by decide +kernel
theorem dMeanings_numberOfRow_75 : decode bMeanings_numberOfRow 75 = .ok (.iload_n 2, 1) := by decide +kernel
theorem dMeanings_numberOfRow_76 : decode bMeanings_numberOfRow 76 = .ok (.iload_n 3, 1) := by decide +kernel
theorem dMeanings_numberOfRow_77 : decode bMeanings_numberOfRow 77 = .ok (.invokevirtual 154, 3) := by decide +kernel
theorem dMeanings_numberOfRow_80 : decode bMeanings_numberOfRow 80 = .ok (.ifCond .eq 19, 3) := by decide +kernel
theorem dMeanings_numberOfRow_83 : decode bMeanings_numberOfRow 83 = .ok (.lload 4, 2) := by decide +kernel
theorem dMeanings_numberOfRow_85 : decode bMeanings_numberOfRow 85 = .ok (.lconst 0, 1) := by decide +kernel
theorem dMeanings_numberOfRow_86 : decode bMeanings_numberOfRow 86 = .ok (.lcmp, 1) := by decide +kernel
theorem dMeanings_numberOfRow_87 : decode bMeanings_numberOfRow 87 = .ok (.ifCond .lt 12, 3) := by decide +kernel
theorem dMeanings_numberOfRow_90 : decode bMeanings_numberOfRow 90 = .ok (.lload 4, 2) := by decide +kernel
theorem dMeanings_numberOfRow_92 : decode bMeanings_numberOfRow 92 = .ok (.ldc2_w 158, 3) := by decide +kernel
theorem dMeanings_numberOfRow_95 : decode bMeanings_numberOfRow 95 = .ok (.lcmp, 1) := by decide +kernel
theorem dMeanings_numberOfRow_96 : decode bMeanings_numberOfRow 96 = .ok (.ifCond .le 6, 3) := by decide +kernel
theorem dMeanings_numberOfRow_99 : decode bMeanings_numberOfRow 99 = .ok (.bipush 9, 2) := by decide +kernel
theorem dMeanings_numberOfRow_101 : decode bMeanings_numberOfRow 101 = .ok (.ireturn, 1) := by decide +kernel
theorem dMeanings_numberOfRow_102 : decode bMeanings_numberOfRow 102 = .ok (.aload_n 0, 1) := by decide +kernel
theorem dMeanings_numberOfRow_103 : decode bMeanings_numberOfRow 103 = .ok (.getfield 27, 3) := by decide +kernel
theorem dMeanings_numberOfRow_106 : decode bMeanings_numberOfRow 106 = .ok (.iload_n 1, 1) := by decide +kernel
theorem dMeanings_numberOfRow_107 : decode bMeanings_numberOfRow 107 = .ok (.lload 4, 2) := by decide +kernel
theorem dMeanings_numberOfRow_109 : decode bMeanings_numberOfRow 109 = .ok (.l2i, 1) := by decide +kernel
theorem dMeanings_numberOfRow_110 : decode bMeanings_numberOfRow 110 = .ok (.invokevirtual 89, 3) := by decide +kernel
theorem dMeanings_numberOfRow_113 : decode bMeanings_numberOfRow 113 = .ok (.iconst 0, 1) := by decide +kernel
theorem dMeanings_numberOfRow_114 : decode bMeanings_numberOfRow 114 = .ok (.ireturn, 1) := by decide +kernel
theorem dMeanings_bits_0 : decode bMeanings_bits 0 = .ok (.aload_n 0, 1) := by decide +kernel
theorem dMeanings_bits_1 : decode bMeanings_bits 1 = .ok (.getfield 27, 3) := by decide +kernel
theorem dMeanings_bits_4 : decode bMeanings_bits 4 = .ok (.iload_n 2, 1) := by decide +kernel
theorem dMeanings_bits_5 : decode bMeanings_bits 5 = .ok (.invokevirtual 120, 3) := by decide +kernel
theorem dMeanings_bits_8 : decode bMeanings_bits 8 = .ok (.iconst 2, 1) := by decide +kernel
theorem dMeanings_bits_9 : decode bMeanings_bits 9 = .ok (.if_icmp .ne 26, 3) := by decide +kernel
theorem dMeanings_bits_12 : decode bMeanings_bits 12 = .ok (.aload_n 0, 1) := by decide +kernel
theorem dMeanings_bits_13 : decode bMeanings_bits 13 = .ok (.getfield 27, 3) := by decide +kernel
theorem dMeanings_bits_16 : decode bMeanings_bits 16 = .ok (.iload_n 3, 1) := by decide +kernel
theorem dMeanings_bits_17 : decode bMeanings_bits 17 = .ok (.invokevirtual 120, 3) := by decide +kernel
theorem dMeanings_bits_20 : decode bMeanings_bits 20 = .ok (.iconst 2, 1) := by decide +kernel
theorem dMeanings_bits_21 : decode bMeanings_bits 21 = .ok (.if_icmp .ne 14, 3) := by decide +kernel
theorem dMeanings_bits_24 : decode bMeanings_bits 24 = .ok (.aload_n 0, 1) := by decide +kernel
theorem dMeanings_bits_25 : decode bMeanings_bits 25 = .ok (.getfield 27, 3) := by decide +kernel
theorem dMeanings_bits_28 : decode bMeanings_bits 28 = .ok (.iload_n 3, 1) := by decide +kernel
theorem dMeanings_bits_29 : decode bMeanings_bits 29 = .ok (.invokevirtual 121, 3) := by decide +kernel
theorem dMeanings_bits_32 : decode bMeanings_bits 32 = .ok (.ifCond .ne 5, 3) := by decide +kernel
theorem dMeanings_bits_35 : decode bMeanings_bits 35 = .ok (.iconst 3, 1) := by decide +kernel
theorem dMeanings_bits_36 : decode bMeanings_bits 36 = .ok (.ireturn, 1) := by decide +kernel
theorem dMeanings_bits_37 : decode bMeanings_bits 37 = .ok (.aload_n 0, 1) := by decide +kernel
theorem dMeanings_bits_38 : decode bMeanings_bits 38 = .ok (.getfield 27, 3) := by decide +kernel
theorem dMeanings_bits_41 : decode bMeanings_bits 41 = .ok (.iload_n 3, 1) := by decide +kernel
theorem dMeanings_bits_42 : decode bMeanings_bits 42 = .ok (.invokevirtual 124, 3) := by decide +kernel
theorem dMeanings_bits_45 : decode bMeanings_bits 45 = .ok (.istore 4, 2) := by decide +kernel
theorem dMeanings_bits_47 : decode bMeanings_bits 47 = .ok (.iload 4, 2) := by decide +kernel
theorem dMeanings_bits_49 : decode bMeanings_bits 49 = .ok (.iconst 1, 1) := by decide +kernel
theorem dMeanings_bits_50 : decode bMeanings_bits 50 = .ok (.if_icmp .lt 14, 3) := by decide +kernel
theorem dMeanings_bits_53 : decode bMeanings_bits 53 = .ok (.iload 4, 2) := by decide +kernel
theorem dMeanings_bits_55 : decode bMeanings_bits 55 = .ok (.bipush 64, 2) := by decide +kernel
theorem dMeanings_bits_57 : decode bMeanings_bits 57 = .ok (.if_icmp .gt 7, 3) := by decide +kernel
theorem dMeanings_bits_60 : decode bMeanings_bits 60 = .ok (.iconst 1, 1) := by decide +kernel
theorem dMeanings_bits_61 : decode bMeanings_bits 61 = .ok (.goto 4, 3) := by decide +kernel
theorem dMeanings_bits_64 : decode bMeanings_bits 64 = .ok (.iconst 0, 1) := by decide +kernel
theorem dMeanings_bits_65 : decode bMeanings_bits 65 = .ok (.istore 5, 2) := by decide +kernel
theorem dMeanings_bits_67 : decode bMeanings_bits 67 = .ok (.aload_n 0, 1) := by decide +kernel
theorem dMeanings_bits_68 : decode bMeanings_bits 68 = .ok (.getfield 27, 3) := by decide +kernel
theorem dMeanings_bits_71 : decode bMeanings_bits 71 = .ok (.iload_n 1, 1) := by decide +kernel
theorem dMeanings_bits_72 : decode bMeanings_bits 72 = .ok (.iconst 3, 1) := by decide +kernel
theorem dMeanings_bits_73 : decode bMeanings_bits 73 = .ok (.iload 5, 2) := by decide +kernel
theorem dMeanings_bits_75 : decode bMeanings_bits 75 = .ok (.ifCond .eq 8, 3) := by decide +kernel
theorem dMeanings_bits_78 : decode bMeanings_bits 78 = .ok (.iload 4, 2) := by decide +kernel
theorem dMeanings_bits_80 : decode bMeanings_bits 80 = .ok (.goto 4, 3) := by decide +kernel
theorem dMeanings_bits_83 : decode bMeanings_bits 83 = .ok (.iconst 0, 1) := by decide +kernel
theorem dMeanings_bits_84 : decode bMeanings_bits 84 = .ok (.aload_n 0, 1) := by decide +kernel
theorem dMeanings_bits_85 : decode bMeanings_bits 85 = .ok (.getfield 27, 3) := by decide +kernel
theorem dMeanings_bits_88 : decode bMeanings_bits 88 = .ok (.iload_n 2, 1) := by decide +kernel
theorem dMeanings_bits_89 : decode bMeanings_bits 89 = .ok (.invokevirtual 121, 3) := by decide +kernel
theorem dMeanings_bits_92 : decode bMeanings_bits 92 = .ok (.invokevirtual 79, 3) := by decide +kernel
theorem dMeanings_bits_95 : decode bMeanings_bits 95 = .ok (.iload 5, 2) := by decide +kernel
theorem dMeanings_bits_97 : decode bMeanings_bits 97 = .ok (.ifCond .ne 5, 3) := by decide +kernel
theorem dMeanings_bits_100 : decode bMeanings_bits 100 = .ok (.iconst 4, 1) := by decide +kernel
theorem dMeanings_bits_101 : decode bMeanings_bits 101 = .ok (.ireturn, 1) := by decide +kernel
theorem dMeanings_bits_102 : decode bMeanings_bits 102 = .ok (.aload_n 0, 1) := by decide +kernel
theorem dMeanings_bits_103 : decode bMeanings_bits 103 = .ok (.getfield 27, 3) := by decide +kernel
theorem dMeanings_bits_106 : decode bMeanings_bits 106 = .ok (.iload_n 2, 1) := by decide +kernel
theorem dMeanings_bits_107 : decode bMeanings_bits 107 = .ok (.invokevirtual 121, 3) := by decide +kernel
theorem dMeanings_bits_110 : decode bMeanings_bits 110 = .ok (.ifCond .eq 25, 3) := by decide +kernel
theorem dMeanings_bits_113 : decode bMeanings_bits 113 = .ok (.aload_n 0, 1) := by decide +kernel
theorem dMeanings_bits_114 : decode bMeanings_bits 114 = .ok (.getfield 27, 3) := by decide +kernel
theorem dMeanings_bits_117 : decode bMeanings_bits 117 = .ok (.getfield 92, 3) := by decide +kernel
theorem dMeanings_bits_120 : decode bMeanings_bits 120 = .ok (.iload_n 1, 1) := by decide +kernel
theorem dMeanings_bits_121 : decode bMeanings_bits 121 = .ok (.iload 4, 2) := by decide +kernel
theorem dMeanings_bits_123 : decode bMeanings_bits 123 = .ok (.aload_n 0, 1) := by decide +kernel
theorem dMeanings_bits_124 : decode bMeanings_bits 124 = .ok (.getfield 27, 3) := by decide +kernel
theorem dMeanings_bits_127 : decode bMeanings_bits 127 = .ok (.iload_n 2, 1) := by decide +kernel
theorem dMeanings_bits_128 : decode bMeanings_bits 128 = .ok (.invokevirtual 124, 3) := by decide +kernel
theorem dMeanings_bits_131 : decode bMeanings_bits 131 = .ok (.i2l, 1) := by decide +kernel
theorem dMeanings_bits_132 : decode bMeanings_bits 132 = .ok (.invokevirtual 160, 3) := by decide +kernel
theorem dMeanings_bits_135 : decode bMeanings_bits 135 = .ok (.iconst 0, 1) := by decide +kernel
theorem dMeanings_bits_136 : decode bMeanings_bits 136 = .ok (.ireturn, 1) := by decide +kernel
theorem dMeanings_slice_0 : decode bMeanings_slice 0 = .ok (.aload_n 0, 1) := by decide +kernel
theorem dMeanings_slice_1 : decode bMeanings_slice 1 = .ok (.getfield 9, 3) := by decide +kernel
theorem dMeanings_slice_4 : decode bMeanings_slice 4 = .ok (.iload_n 1, 1) := by decide +kernel
theorem dMeanings_slice_5 : decode bMeanings_slice 5 = .ok (.invokevirtual 31, 3) := by decide +kernel
theorem dMeanings_slice_8 : decode bMeanings_slice 8 = .ok (.iconst 2, 1) := by decide +kernel
theorem dMeanings_slice_9 : decode bMeanings_slice 9 = .ok (.if_icmp .eq 6, 3) := by decide +kernel
theorem dMeanings_slice_12 : decode bMeanings_slice 12 = .ok (.bipush 11, 2) := by decide +kernel
theorem dMeanings_slice_14 : decode bMeanings_slice 14 = .ok (.ireturn, 1) := by decide +kernel
theorem dMeanings_slice_15 : decode bMeanings_slice 15 = .ok (.aload_n 0, 1) := by decide +kernel
theorem dMeanings_slice_16 : decode bMeanings_slice 16 = .ok (.iload_n 1, 1) := by decide +kernel
theorem dMeanings_slice_17 : decode bMeanings_slice 17 = .ok (.invokevirtual 164, 3) := by decide +kernel
theorem dMeanings_slice_20 : decode bMeanings_slice 20 = .ok (.ifCond .eq 5, 3) := by decide +kernel
theorem dMeanings_slice_23 : decode bMeanings_slice 23 = .ok (.iconst 1, 1) := by decide +kernel
theorem dMeanings_slice_24 : decode bMeanings_slice 24 = .ok (.ireturn, 1) := by decide +kernel
theorem dMeanings_slice_25 : decode bMeanings_slice 25 = .ok (.aload_n 0, 1) := by decide +kernel
theorem dMeanings_slice_26 : decode bMeanings_slice 26 = .ok (.iload_n 1, 1) := by decide +kernel
theorem dMeanings_slice_27 : decode bMeanings_slice 27 = .ok (.invokevirtual 110, 3) := by decide +kernel
theorem dMeanings_slice_30 : decode bMeanings_slice 30 = .ok (.istore_n 2, 1) := by decide +kernel
theorem dMeanings_slice_31 : decode bMeanings_slice 31 = .ok (.iload_n 2, 1) := by decide +kernel
theorem dMeanings_slice_32 : decode bMeanings_slice 32 = .ok (.iconst (-1), 1) := by decide +kernel
theorem dMeanings_slice_33 : decode bMeanings_slice 33 = .ok (.if_icmp .eq 11, 3) := by decide +kernel
theorem dMeanings_slice_36 : decode bMeanings_slice 36 = .ok (.aload_n 0, 1) := by decide +kernel
theorem dMeanings_slice_37 : decode bMeanings_slice 37 = .ok (.iload_n 2, 1) := by decide +kernel
theorem dMeanings_slice_38 : decode bMeanings_slice 38 = .ok (.invokevirtual 113, 3) := by decide +kernel
theorem dMeanings_slice_41 : decode bMeanings_slice 41 = .ok (.ifCond .ne 5, 3) := by decide +kernel
theorem dMeanings_slice_44 : decode bMeanings_slice 44 = .ok (.iconst 2, 1) := by decide +kernel
theorem dMeanings_slice_45 : decode bMeanings_slice 45 = .ok (.ireturn, 1) := by decide +kernel
theorem dMeanings_slice_46 : decode bMeanings_slice 46 = .ok (.iload_n 1, 1) := by decide +kernel
theorem dMeanings_slice_47 : decode bMeanings_slice 47 = .ok (.iconst 1, 1) := by decide +kernel
theorem dMeanings_slice_48 : decode bMeanings_slice 48 = .ok (.isub, 1) := by decide +kernel
theorem dMeanings_slice_49 : decode bMeanings_slice 49 = .ok (.istore_n 3, 1) := by decide +kernel
theorem dMeanings_slice_50 : decode bMeanings_slice 50 = .ok (.aload_n 0, 1) := by decide +kernel
theorem dMeanings_slice_51 : decode bMeanings_slice 51 = .ok (.getfield 9, 3) := by decide +kernel
theorem dMeanings_slice_54 : decode bMeanings_slice 54 = .ok (.iload_n 1, 1) := by decide +kernel
theorem dMeanings_slice_55 : decode bMeanings_slice 55 = .ok (.invokevirtual 134, 3) := by decide +kernel
theorem dMeanings_slice_58 : decode bMeanings_slice 58 = .ok (.istore 4, 2) := by decide +kernel
theorem dMeanings_slice_60 : decode bMeanings_slice 60 = .ok (.aload_n 0, 1) := by decide +kernel
theorem dMeanings_slice_61 : decode bMeanings_slice 61 = .ok (.getfield 27, 3) := by decide +kernel
theorem dMeanings_slice_64 : decode bMeanings_slice 64 = .ok (.iload 4, 2) := by decide +kernel
theorem dMeanings_slice_66 : decode bMeanings_slice 66 = .ok (.invokevirtual 120, 3) := by decide +kernel
theorem dMeanings_slice_69 : decode bMeanings_slice 69 = .ok (.iconst 2, 1) := by decide +kernel
theorem dMeanings_slice_70 : decode bMeanings_slice 70 = .ok (.if_icmp .ne 15, 3) := by decide +kernel
theorem dMeanings_slice_73 : decode bMeanings_slice 73 = .ok (.aload_n 0, 1) := by decide +kernel
theorem dMeanings_slice_74 : decode bMeanings_slice 74 = .ok (.getfield 27, 3) := by decide +kernel
theorem dMeanings_slice_77 : decode bMeanings_slice 77 = .ok (.iload_n 3, 1) := by decide +kernel
theorem dMeanings_slice_78 : decode bMeanings_slice 78 = .ok (.invokevirtual 120, 3) := by decide +kernel
theorem dMeanings_slice_81 : decode bMeanings_slice 81 = .ok (.iconst 2, 1) := by decide +kernel
theorem dMeanings_slice_82 : decode bMeanings_slice 82 = .ok (.if_icmp .eq 5, 3) := by decide +kernel
theorem dMeanings_slice_85 : decode bMeanings_slice 85 = .ok (.iconst 3, 1) := by decide +kernel
theorem dMeanings_slice_86 : decode bMeanings_slice 86 = .ok (.ireturn, 1) := by decide +kernel
theorem dMeanings_slice_87 : decode bMeanings_slice 87 = .ok (.aload_n 0, 1) := by decide +kernel
theorem dMeanings_slice_88 : decode bMeanings_slice 88 = .ok (.getfield 27, 3) := by decide +kernel
theorem dMeanings_slice_91 : decode bMeanings_slice 91 = .ok (.iload_n 1, 1) := by decide +kernel
theorem dMeanings_slice_92 : decode bMeanings_slice 92 = .ok (.iconst 3, 1) := by decide +kernel
theorem dMeanings_slice_93 : decode bMeanings_slice 93 = .ok (.iconst 0, 1) := by decide +kernel
theorem dMeanings_slice_94 : decode bMeanings_slice 94 = .ok (.aload_n 0, 1) := by decide +kernel
theorem dMeanings_slice_95 : decode bMeanings_slice 95 = .ok (.iload_n 2, 1) := by decide +kernel
theorem dMeanings_slice_96 : decode bMeanings_slice 96 = .ok (.invokevirtual 75, 3) := by decide +kernel
theorem dMeanings_slice_99 : decode bMeanings_slice 99 = .ok (.ifCond .eq 30, 3) := by decide +kernel
theorem dMeanings_slice_102 : decode bMeanings_slice 102 = .ok (.aload_n 0, 1) := by decide +kernel
theorem dMeanings_slice_103 : decode bMeanings_slice 103 = .ok (.getfield 27, 3) := by decide +kernel
theorem dMeanings_slice_106 : decode bMeanings_slice 106 = .ok (.iload 4, 2) := by decide +kernel
theorem dMeanings_slice_108 : decode bMeanings_slice 108 = .ok (.invokevirtual 121, 3) := by decide +kernel
theorem dMeanings_slice_111 : decode bMeanings_slice 111 = .ok (.ifCond .eq 18, 3) := by decide +kernel
theorem dMeanings_slice_114 : decode bMeanings_slice 114 = .ok (.aload_n 0, 1) := by decide +kernel
theorem dMeanings_slice_115 : decode bMeanings_slice 115 = .ok (.getfield 27, 3) := by decide +kernel
theorem dMeanings_slice_118 : decode bMeanings_slice 118 = .ok (.iload_n 3, 1) := by decide +kernel
theorem dMeanings_slice_119 : decode bMeanings_slice 119 = .ok (.invokevirtual 121, 3) := by decide +kernel
theorem dMeanings_slice_122 : decode bMeanings_slice 122 = .ok (.ifCond .eq 7, 3) := by decide +kernel
theorem dMeanings_slice_125 : decode bMeanings_slice 125 = .ok (.iconst 1, 1) := by decide +kernel
theorem dMeanings_slice_126 : decode bMeanings_slice 126 = .ok (.goto 4, 3) := by decide +kernel
theorem dMeanings_slice_129 : decode bMeanings_slice 129 = .ok (.iconst 0, 1) := by decide +kernel
theorem dMeanings_slice_130 : decode bMeanings_slice 130 = .ok (.invokevirtual 79, 3) := by decide +kernel
theorem dMeanings_slice_133 : decode bMeanings_slice 133 = .ok (.aload_n 0, 1) := by decide +kernel
theorem dMeanings_slice_134 : decode bMeanings_slice 134 = .ok (.getfield 27, 3) := by decide +kernel
theorem dMeanings_slice_137 : decode bMeanings_slice 137 = .ok (.iload_n 1, 1) := by decide +kernel
theorem dMeanings_slice_138 : decode bMeanings_slice 138 = .ok (.iload_n 2, 1) := by decide +kernel
theorem dMeanings_slice_139 : decode bMeanings_slice 139 = .ok (.invokevirtual 85, 3) := by decide +kernel
theorem dMeanings_slice_142 : decode bMeanings_slice 142 = .ok (.aload_n 0, 1) := by decide +kernel
theorem dMeanings_slice_143 : decode bMeanings_slice 143 = .ok (.getfield 27, 3) := by decide +kernel
theorem dMeanings_slice_146 : decode bMeanings_slice 146 = .ok (.iload 4, 2) := by decide +kernel
theorem dMeanings_slice_148 : decode bMeanings_slice 148 = .ok (.invokevirtual 121, 3) := by decide +kernel
theorem dMeanings_slice_151 : decode bMeanings_slice 151 = .ok (.ifCond .eq 14, 3) := by decide +kernel
theorem dMeanings_slice_154 : decode bMeanings_slice 154 = .ok (.aload_n 0, 1) := by decide +kernel
theorem dMeanings_slice_155 : decode bMeanings_slice 155 = .ok (.getfield 27, 3) := by decide +kernel
theorem dMeanings_slice_158 : decode bMeanings_slice 158 = .ok (.iload_n 3, 1) := by decide +kernel
theorem dMeanings_slice_159 : decode bMeanings_slice 159 = .ok (.invokevirtual 121, 3) := by decide +kernel
theorem dMeanings_slice_162 : decode bMeanings_slice 162 = .ok (.ifCond .ne 5, 3) := by decide +kernel
theorem dMeanings_slice_165 : decode bMeanings_slice 165 = .ok (.iconst 5, 1) := by decide +kernel
theorem dMeanings_slice_166 : decode bMeanings_slice 166 = .ok (.ireturn, 1) := by decide +kernel
theorem dMeanings_slice_167 : decode bMeanings_slice 167 = .ok (.aload_n 0, 1) := by decide +kernel
theorem dMeanings_slice_168 : decode bMeanings_slice 168 = .ok (.iload_n 1, 1) := by decide +kernel
theorem dMeanings_slice_169 : decode bMeanings_slice 169 = .ok (.iload_n 2, 1) := by decide +kernel
theorem dMeanings_slice_170 : decode bMeanings_slice 170 = .ok (.aload_n 0, 1) := by decide +kernel
theorem dMeanings_slice_171 : decode bMeanings_slice 171 = .ok (.getfield 27, 3) := by decide +kernel
theorem dMeanings_slice_174 : decode bMeanings_slice 174 = .ok (.iload 4, 2) := by decide +kernel
theorem dMeanings_slice_176 : decode bMeanings_slice 176 = .ok (.invokevirtual 124, 3) := by decide +kernel
theorem dMeanings_slice_179 : decode bMeanings_slice 179 = .ok (.aload_n 0, 1) := by decide +kernel
theorem dMeanings_slice_180 : decode bMeanings_slice 180 = .ok (.getfield 27, 3) := by decide +kernel
theorem dMeanings_slice_183 : decode bMeanings_slice 183 = .ok (.iload_n 3, 1) := by decide +kernel
theorem dMeanings_slice_184 : decode bMeanings_slice 184 = .ok (.invokevirtual 124, 3) := by decide +kernel
theorem dMeanings_slice_187 : decode bMeanings_slice 187 = .ok (.invokevirtual 167, 3) := by decide +kernel
theorem dMeanings_slice_190 : decode bMeanings_slice 190 = .ok (.ireturn, 1) := by decide +kernel
theorem dMeanings_cut_0 : decode bMeanings_cut 0 = .ok (.aload_n 0, 1) := by decide +kernel
theorem dMeanings_cut_1 : decode bMeanings_cut 1 = .ok (.getfield 23, 3) := by decide +kernel
theorem dMeanings_cut_4 : decode bMeanings_cut 4 = .ok (.iload_n 2, 1) := by decide +kernel
theorem dMeanings_cut_5 : decode bMeanings_cut 5 = .ok (.invokevirtual 62, 3) := by decide +kernel
theorem dMeanings_cut_8 : decode bMeanings_cut 8 = .ok (.istore 5, 2) := by decide +kernel
theorem dMeanings_cut_10 : decode bMeanings_cut 10 = .ok (.aload_n 0, 1) := by decide +kernel
theorem dMeanings_cut_11 : decode bMeanings_cut 11 = .ok (.getfield 19, 3) := by decide +kernel
theorem dMeanings_cut_14 : decode bMeanings_cut 14 = .ok (.iload 5, 2) := by decide +kernel
theorem dMeanings_cut_16 : decode bMeanings_cut 16 = .ok (.iload_n 3, 1) := by decide +kernel
theorem dMeanings_cut_17 : decode bMeanings_cut 17 = .ok (.invokevirtual 125, 3) := by decide +kernel
theorem dMeanings_cut_20 : decode bMeanings_cut 20 = .ok (.istore 6, 2) := by decide +kernel
theorem dMeanings_cut_22 : decode bMeanings_cut 22 = .ok (.aload_n 0, 1) := by decide +kernel
theorem dMeanings_cut_23 : decode bMeanings_cut 23 = .ok (.getfield 19, 3) := by decide +kernel
theorem dMeanings_cut_26 : decode bMeanings_cut 26 = .ok (.iload 5, 2) := by decide +kernel
theorem dMeanings_cut_28 : decode bMeanings_cut 28 = .ok (.iload 4, 2) := by decide +kernel
theorem dMeanings_cut_30 : decode bMeanings_cut 30 = .ok (.invokevirtual 125, 3) := by decide +kernel
theorem dMeanings_cut_33 : decode bMeanings_cut 33 = .ok (.istore 7, 2) := by decide +kernel
theorem dMeanings_cut_35 : decode bMeanings_cut 35 = .ok (.aload_n 0, 1) := by decide +kernel
theorem dMeanings_cut_36 : decode bMeanings_cut 36 = .ok (.getfield 19, 3) := by decide +kernel
theorem dMeanings_cut_39 : decode bMeanings_cut 39 = .ok (.iload 5, 2) := by decide +kernel
theorem dMeanings_cut_41 : decode bMeanings_cut 41 = .ok (.invokevirtual 171, 3) := by decide +kernel
theorem dMeanings_cut_44 : decode bMeanings_cut 44 = .ok (.aload_n 0, 1) := by decide +kernel
theorem dMeanings_cut_45 : decode bMeanings_cut 45 = .ok (.getfield 9, 3) := by decide +kernel
theorem dMeanings_cut_48 : decode bMeanings_cut 48 = .ok (.iload_n 1, 1) := by decide +kernel
theorem dMeanings_cut_49 : decode bMeanings_cut 49 = .ok (.invokevirtual 143, 3) := by decide +kernel
theorem dMeanings_cut_52 : decode bMeanings_cut 52 = .ok (.bipush 24, 2) := by decide +kernel
theorem dMeanings_cut_54 : decode bMeanings_cut 54 = .ok (.if_icmp .ne 7, 3) := by decide +kernel
theorem dMeanings_cut_57 : decode bMeanings_cut 57 = .ok (.iconst 1, 1) := by decide +kernel
theorem dMeanings_cut_58 : decode bMeanings_cut 58 = .ok (.goto 4, 3) := by decide +kernel
theorem dMeanings_cut_61 : decode bMeanings_cut 61 = .ok (.iconst 0, 1) := by decide +kernel
theorem dMeanings_cut_62 : decode bMeanings_cut 62 = .ok (.if_icmp .ne 7, 3) := by decide +kernel
theorem dMeanings_cut_65 : decode bMeanings_cut 65 = .ok (.iconst 1, 1) := by decide +kernel
theorem dMeanings_cut_66 : decode bMeanings_cut 66 = .ok (.goto 4, 3) := by decide +kernel
theorem dMeanings_cut_69 : decode bMeanings_cut 69 = .ok (.iconst 0, 1) := by decide +kernel
theorem dMeanings_cut_70 : decode bMeanings_cut 70 = .ok (.istore 8, 2) := by decide +kernel
theorem dMeanings_cut_72 : decode bMeanings_cut 72 = .ok (.iload 8, 2) := by decide +kernel
theorem dMeanings_cut_74 : decode bMeanings_cut 74 = .ok (.ifCond .eq 22, 3) := by decide +kernel
theorem dMeanings_cut_77 : decode bMeanings_cut 77 = .ok (.iload 6, 2) := by decide +kernel
theorem dMeanings_cut_79 : decode bMeanings_cut 79 = .ok (.iconst (-1), 1) := by decide +kernel
theorem dMeanings_cut_80 : decode bMeanings_cut 80 = .ok (.if_icmp .eq 16, 3) := by decide +kernel
theorem dMeanings_cut_83 : decode bMeanings_cut 83 = .ok (.iload 7, 2) := by decide +kernel
theorem dMeanings_cut_85 : decode bMeanings_cut 85 = .ok (.iconst (-1), 1) := by decide +kernel
theorem dMeanings_cut_86 : decode bMeanings_cut 86 = .ok (.if_icmp .eq 10, 3) := by decide +kernel
theorem dMeanings_cut_89 : decode bMeanings_cut 89 = .ok (.iload 6, 2) := by decide +kernel
theorem dMeanings_cut_91 : decode bMeanings_cut 91 = .ok (.iload 7, 2) := by decide +kernel
theorem dMeanings_cut_93 : decode bMeanings_cut 93 = .ok (.if_icmp .ge 6, 3) := by decide +kernel
theorem dMeanings_cut_96 : decode bMeanings_cut 96 = .ok (.bipush 6, 2) := by decide +kernel
theorem dMeanings_cut_98 : decode bMeanings_cut 98 = .ok (.ireturn, 1) := by decide +kernel
theorem dMeanings_cut_99 : decode bMeanings_cut 99 = .ok (.iload 6, 2) := by decide +kernel
theorem dMeanings_cut_101 : decode bMeanings_cut 101 = .ok (.iload 7, 2) := by decide +kernel
theorem dMeanings_cut_103 : decode bMeanings_cut 103 = .ok (.isub, 1) := by decide +kernel
theorem dMeanings_cut_104 : decode bMeanings_cut 104 = .ok (.iconst 1, 1) := by decide +kernel
theorem dMeanings_cut_105 : decode bMeanings_cut 105 = .ok (.iadd, 1) := by decide +kernel
theorem dMeanings_cut_106 : decode bMeanings_cut 106 = .ok (.istore 9, 2) := by decide +kernel
theorem dMeanings_cut_108 : decode bMeanings_cut 108 = .ok (.aload_n 0, 1) := by decide +kernel
theorem dMeanings_cut_109 : decode bMeanings_cut 109 = .ok (.getfield 27, 3) := by decide +kernel
theorem dMeanings_cut_112 : decode bMeanings_cut 112 = .ok (.iload_n 1, 1) := by decide +kernel
theorem dMeanings_cut_113 : decode bMeanings_cut 113 = .ok (.iconst 3, 1) := by decide +kernel
theorem dMeanings_cut_114 : decode bMeanings_cut 114 = .ok (.iload 9, 2) := by decide +kernel
theorem dMeanings_cut_116 : decode bMeanings_cut 116 = .ok (.aload_n 0, 1) := by decide +kernel
theorem dMeanings_cut_117 : decode bMeanings_cut 117 = .ok (.iload_n 2, 1) := by decide +kernel
theorem dMeanings_cut_118 : decode bMeanings_cut 118 = .ok (.invokevirtual 75, 3) := by decide +kernel
theorem dMeanings_cut_121 : decode bMeanings_cut 121 = .ok (.invokevirtual 79, 3) := by decide +kernel
theorem dMeanings_cut_124 : decode bMeanings_cut 124 = .ok (.iconst 0, 1) := by decide +kernel
theorem dMeanings_cut_125 : decode bMeanings_cut 125 = .ok (.istore 10, 2) := by decide +kernel
theorem dMeanings_cut_127 : decode bMeanings_cut 127 = .ok (.iload 10, 2) := by decide +kernel
theorem dMeanings_cut_129 : decode bMeanings_cut 129 = .ok (.iload 9, 2) := by decide +kernel
theorem dMeanings_cut_131 : decode bMeanings_cut 131 = .ok (.if_icmp .ge 38, 3) := by decide +kernel
theorem dMeanings_cut_134 : decode bMeanings_cut 134 = .ok (.aload_n 0, 1) := by decide +kernel
theorem dMeanings_cut_135 : decode bMeanings_cut 135 = .ok (.getfield 27, 3) := by decide +kernel
theorem dMeanings_cut_138 : decode bMeanings_cut 138 = .ok (.getfield 92, 3) := by decide +kernel
theorem dMeanings_cut_141 : decode bMeanings_cut 141 = .ok (.iload_n 1, 1) := by decide +kernel
theorem dMeanings_cut_142 : decode bMeanings_cut 142 = .ok (.iload 10, 2) := by decide +kernel
theorem dMeanings_cut_144 : decode bMeanings_cut 144 = .ok (.aload_n 0, 1) := by decide +kernel
theorem dMeanings_cut_145 : decode bMeanings_cut 145 = .ok (.getfield 23, 3) := by decide +kernel
theorem dMeanings_cut_148 : decode bMeanings_cut 148 = .ok (.getfield 96, 3) := by decide +kernel
theorem dMeanings_cut_151 : decode bMeanings_cut 151 = .ok (.iload_n 2, 1) := by decide +kernel
theorem dMeanings_cut_152 : decode bMeanings_cut 152 = .ok (.iload 7, 2) := by decide +kernel
theorem dMeanings_cut_154 : decode bMeanings_cut 154 = .ok (.iload 10, 2) := by decide +kernel
theorem dMeanings_cut_156 : decode bMeanings_cut 156 = .ok (.iadd, 1) := by decide +kernel
theorem dMeanings_cut_157 : decode bMeanings_cut 157 = .ok (.invokevirtual 128, 3) := by decide +kernel
theorem dMeanings_cut_160 : decode bMeanings_cut 160 = .ok (.invokevirtual 174, 3) := by decide +kernel
theorem dMeanings_cut_163 : decode bMeanings_cut 163 = .ok (.iinc 10 1, 3) := by decide +kernel
theorem dMeanings_cut_166 : decode bMeanings_cut 166 = .ok (.goto (-39), 3) := by decide +kernel
theorem dMeanings_cut_169 : decode bMeanings_cut 169 = .ok (.iconst 0, 1) := by decide +kernel
theorem dMeanings_cut_170 : decode bMeanings_cut 170 = .ok (.ireturn, 1) := by decide +kernel
theorem dMeanings_attribute_0 : decode bMeanings_attribute 0 = .ok (.iload_n 1, 1) := by decide +kernel
theorem dMeanings_attribute_1 : decode bMeanings_attribute 1 = .ok (.iconst 1, 1) := by decide +kernel
theorem dMeanings_attribute_2 : decode bMeanings_attribute 2 = .ok (.isub, 1) := by decide +kernel
theorem dMeanings_attribute_3 : decode bMeanings_attribute 3 = .ok (.istore_n 2, 1) := by decide +kernel
theorem dMeanings_attribute_4 : decode bMeanings_attribute 4 = .ok (.aload_n 0, 1) := by decide +kernel
theorem dMeanings_attribute_5 : decode bMeanings_attribute 5 = .ok (.getfield 9, 3) := by decide +kernel
theorem dMeanings_attribute_8 : decode bMeanings_attribute 8 = .ok (.iload_n 2, 1) := by decide +kernel
theorem dMeanings_attribute_9 : decode bMeanings_attribute 9 = .ok (.invokevirtual 37, 3) := by decide +kernel
theorem dMeanings_attribute_12 : decode bMeanings_attribute 12 = .ok (.istore_n 3, 1) := by decide +kernel
theorem dMeanings_attribute_13 : decode bMeanings_attribute 13 = .ok (.aload_n 0, 1) := by decide +kernel
theorem dMeanings_attribute_14 : decode bMeanings_attribute 14 = .ok (.getfield 9, 3) := by decide +kernel
theorem dMeanings_attribute_17 : decode bMeanings_attribute 17 = .ok (.iload_n 1, 1) := by decide +kernel
theorem dMeanings_attribute_18 : decode bMeanings_attribute 18 = .ok (.invokevirtual 31, 3) := by decide +kernel
theorem dMeanings_attribute_21 : decode bMeanings_attribute 21 = .ok (.iconst 1, 1) := by decide +kernel
theorem dMeanings_attribute_22 : decode bMeanings_attribute 22 = .ok (.if_icmp .ne 38, 3) := by decide +kernel
theorem dMeanings_attribute_25 : decode bMeanings_attribute 25 = .ok (.aload_n 0, 1) := by decide +kernel
theorem dMeanings_attribute_26 : decode bMeanings_attribute 26 = .ok (.getfield 9, 3) := by decide +kernel
theorem dMeanings_attribute_29 : decode bMeanings_attribute 29 = .ok (.iload_n 2, 1) := by decide +kernel
theorem dMeanings_attribute_30 : decode bMeanings_attribute 30 = .ok (.invokevirtual 143, 3) := by decide +kernel
theorem dMeanings_attribute_33 : decode bMeanings_attribute 33 = .ok (.iconst 1, 1) := by decide +kernel
theorem dMeanings_attribute_34 : decode bMeanings_attribute 34 = .ok (.if_icmp .ne 26, 3) := by decide +kernel
theorem dMeanings_attribute_37 : decode bMeanings_attribute 37 = .ok (.aload_n 0, 1) := by decide +kernel
theorem dMeanings_attribute_38 : decode bMeanings_attribute 38 = .ok (.getfield 9, 3) := by decide +kernel
theorem dMeanings_attribute_41 : decode bMeanings_attribute 41 = .ok (.iload_n 2, 1) := by decide +kernel
theorem dMeanings_attribute_42 : decode bMeanings_attribute 42 = .ok (.invokevirtual 31, 3) := by decide +kernel
theorem dMeanings_attribute_45 : decode bMeanings_attribute 45 = .ok (.ifCond .ne 15, 3) := by decide +kernel
theorem dMeanings_attribute_48 : decode bMeanings_attribute 48 = .ok (.iload_n 3, 1) := by decide +kernel
theorem dMeanings_attribute_49 : decode bMeanings_attribute 49 = .ok (.bipush 15, 2) := by decide +kernel
theorem dMeanings_attribute_51 : decode bMeanings_attribute 51 = .ok (.if_icmp .lt 9, 3) := by decide +kernel
theorem dMeanings_attribute_54 : decode bMeanings_attribute 54 = .ok (.iload_n 3, 1) := by decide +kernel
theorem dMeanings_attribute_55 : decode bMeanings_attribute 55 = .ok (.bipush 22, 2) := by decide +kernel
theorem dMeanings_attribute_57 : decode bMeanings_attribute 57 = .ok (.if_icmp .le 6, 3) := by decide +kernel
theorem dMeanings_attribute_60 : decode bMeanings_attribute 60 = .ok (.bipush 11, 2) := by decide +kernel
theorem dMeanings_attribute_62 : decode bMeanings_attribute 62 = .ok (.ireturn, 1) := by decide +kernel
theorem dMeanings_attribute_63 : decode bMeanings_attribute 63 = .ok (.aload_n 0, 1) := by decide +kernel
theorem dMeanings_attribute_64 : decode bMeanings_attribute 64 = .ok (.iload_n 1, 1) := by decide +kernel
theorem dMeanings_attribute_65 : decode bMeanings_attribute 65 = .ok (.invokevirtual 164, 3) := by decide +kernel
theorem dMeanings_attribute_68 : decode bMeanings_attribute 68 = .ok (.ifCond .eq 5, 3) := by decide +kernel
theorem dMeanings_attribute_71 : decode bMeanings_attribute 71 = .ok (.iconst 1, 1) := by decide +kernel
theorem dMeanings_attribute_72 : decode bMeanings_attribute 72 = .ok (.ireturn, 1) := by decide +kernel
theorem dMeanings_attribute_73 : decode bMeanings_attribute 73 = .ok (.aload_n 0, 1) := by decide +kernel
theorem dMeanings_attribute_74 : decode bMeanings_attribute 74 = .ok (.iload_n 1, 1) := by decide +kernel
theorem dMeanings_attribute_75 : decode bMeanings_attribute 75 = .ok (.invokevirtual 110, 3) := by decide +kernel
theorem dMeanings_attribute_78 : decode bMeanings_attribute 78 = .ok (.istore 4, 2) := by decide +kernel
theorem dMeanings_attribute_80 : decode bMeanings_attribute 80 = .ok (.iload 4, 2) := by decide +kernel
theorem dMeanings_attribute_82 : decode bMeanings_attribute 82 = .ok (.iconst (-1), 1) := by decide +kernel
theorem dMeanings_attribute_83 : decode bMeanings_attribute 83 = .ok (.if_icmp .eq 22, 3) := by decide +kernel
theorem dMeanings_attribute_86 : decode bMeanings_attribute 86 = .ok (.iload_n 3, 1) := by decide +kernel
theorem dMeanings_attribute_87 : decode bMeanings_attribute 87 = .ok (.bipush 17, 2) := by decide +kernel
theorem dMeanings_attribute_89 : decode bMeanings_attribute 89 = .ok (.if_icmp .gt 18, 3) := by decide +kernel
theorem dMeanings_attribute_92 : decode bMeanings_attribute 92 = .ok (.aload_n 0, 1) := by decide +kernel
theorem dMeanings_attribute_93 : decode bMeanings_attribute 93 = .ok (.getfield 23, 3) := by decide +kernel
theorem dMeanings_attribute_96 : decode bMeanings_attribute 96 = .ok (.iload 4, 2) := by decide +kernel
theorem dMeanings_attribute_98 : decode bMeanings_attribute 98 = .ok (.invokevirtual 103, 3) := by decide +kernel
theorem dMeanings_attribute_101 : decode bMeanings_attribute 101 = .ok (.iconst 1, 1) := by decide +kernel
theorem dMeanings_attribute_102 : decode bMeanings_attribute 102 = .ok (.if_icmp .eq 5, 3) := by decide +kernel
theorem dMeanings_attribute_105 : decode bMeanings_attribute 105 = .ok (.iconst 2, 1) := by decide +kernel
theorem dMeanings_attribute_106 : decode bMeanings_attribute 106 = .ok (.ireturn, 1) := by decide +kernel
theorem dMeanings_attribute_107 : decode bMeanings_attribute 107 = .ok (.iload_n 3, 1) := by decide +kernel
theorem dMeanings_attribute_108 : decode bMeanings_attribute 108 = .ok (.bipush 18, 2) := by decide +kernel
theorem dMeanings_attribute_110 : decode bMeanings_attribute 110 = .ok (.if_icmp .lt 14, 3) := by decide +kernel
theorem dMeanings_attribute_113 : decode bMeanings_attribute 113 = .ok (.aload_n 0, 1) := by decide +kernel
theorem dMeanings_attribute_114 : decode bMeanings_attribute 114 = .ok (.iload 4, 2) := by decide +kernel
theorem dMeanings_attribute_116 : decode bMeanings_attribute 116 = .ok (.invokevirtual 113, 3) := by decide +kernel
theorem dMeanings_attribute_119 : decode bMeanings_attribute 119 = .ok (.ifCond .ne 5, 3) := by decide +kernel
theorem dMeanings_attribute_122 : decode bMeanings_attribute 122 = .ok (.iconst 3, 1) := by decide +kernel
theorem dMeanings_attribute_123 : decode bMeanings_attribute 123 = .ok (.ireturn, 1) := by decide +kernel
theorem dMeanings_attribute_124 : decode bMeanings_attribute 124 = .ok (.aload_n 0, 1) := by decide +kernel
theorem dMeanings_attribute_125 : decode bMeanings_attribute 125 = .ok (.iload_n 1, 1) := by decide +kernel
theorem dMeanings_attribute_126 : decode bMeanings_attribute 126 = .ok (.iload_n 3, 1) := by decide +kernel
theorem dMeanings_attribute_127 : decode bMeanings_attribute 127 = .ok (.aload_n 0, 1) := by decide +kernel
theorem dMeanings_attribute_128 : decode bMeanings_attribute 128 = .ok (.getfield 23, 3) := by decide +kernel
theorem dMeanings_attribute_131 : decode bMeanings_attribute 131 = .ok (.iload 4, 2) := by decide +kernel
theorem dMeanings_attribute_133 : decode bMeanings_attribute 133 = .ok (.invokevirtual 62, 3) := by decide +kernel
theorem dMeanings_attribute_136 : decode bMeanings_attribute 136 = .ok (.invokevirtual 178, 3) := by decide +kernel
theorem dMeanings_attribute_139 : decode bMeanings_attribute 139 = .ok (.aload_n 0, 1) := by decide +kernel
theorem dMeanings_attribute_140 : decode bMeanings_attribute 140 = .ok (.getfield 27, 3) := by decide +kernel
theorem dMeanings_attribute_143 : decode bMeanings_attribute 143 = .ok (.iload_n 1, 1) := by decide +kernel
theorem dMeanings_attribute_144 : decode bMeanings_attribute 144 = .ok (.iload 4, 2) := by decide +kernel
theorem dMeanings_attribute_146 : decode bMeanings_attribute 146 = .ok (.invokevirtual 85, 3) := by decide +kernel
theorem dMeanings_attribute_149 : decode bMeanings_attribute 149 = .ok (.iconst 0, 1) := by decide +kernel
theorem dMeanings_attribute_150 : decode bMeanings_attribute 150 = .ok (.ireturn, 1) := by decide +kernel
theorem dMeanings_noteAttribute_0 : decode bMeanings_noteAttribute 0 = .ok (.iload_n 2, 1) := by decide +kernel
theorem dMeanings_noteAttribute_1 : decode bMeanings_noteAttribute 1 = .ok (.bipush 18, 2) := by decide +kernel
theorem dMeanings_noteAttribute_3 : decode bMeanings_noteAttribute 3 = .ok (.if_icmp .lt 31, 3) := by decide +kernel
theorem dMeanings_noteAttribute_6 : decode bMeanings_noteAttribute 6 = .ok (.aload_n 0, 1) := by decide +kernel
theorem dMeanings_noteAttribute_7 : decode bMeanings_noteAttribute 7 = .ok (.getfield 27, 3) := by decide +kernel
theorem dMeanings_noteAttribute_10 : decode bMeanings_noteAttribute 10 = .ok (.iload_n 1, 1) := by decide +kernel
theorem dMeanings_noteAttribute_11 : decode bMeanings_noteAttribute 11 = .ok (.iconst 2, 1) := by decide +kernel
theorem dMeanings_noteAttribute_12 : decode bMeanings_noteAttribute 12 = .ok (.iconst 0, 1) := by decide +kernel
theorem dMeanings_noteAttribute_13 : decode bMeanings_noteAttribute 13 = .ok (.iconst 1, 1) := by decide +kernel
theorem dMeanings_noteAttribute_14 : decode bMeanings_noteAttribute 14 = .ok (.invokevirtual 79, 3) := by decide +kernel
theorem dMeanings_noteAttribute_17 : decode bMeanings_noteAttribute 17 = .ok (.aload_n 0, 1) := by decide +kernel
theorem dMeanings_noteAttribute_18 : decode bMeanings_noteAttribute 18 = .ok (.getfield 27, 3) := by decide +kernel
theorem dMeanings_noteAttribute_21 : decode bMeanings_noteAttribute 21 = .ok (.iload_n 1, 1) := by decide +kernel
theorem dMeanings_noteAttribute_22 : decode bMeanings_noteAttribute 22 = .ok (.aload_n 0, 1) := by decide +kernel
theorem dMeanings_noteAttribute_23 : decode bMeanings_noteAttribute 23 = .ok (.iload_n 2, 1) := by decide +kernel
theorem dMeanings_noteAttribute_24 : decode bMeanings_noteAttribute 24 = .ok (.iload_n 3, 1) := by decide +kernel
theorem dMeanings_noteAttribute_25 : decode bMeanings_noteAttribute 25 = .ok (.invokevirtual 181, 3) := by decide +kernel
theorem dMeanings_noteAttribute_28 : decode bMeanings_noteAttribute 28 = .ok (.invokevirtual 89, 3) := by decide +kernel
theorem dMeanings_noteAttribute_31 : decode bMeanings_noteAttribute 31 = .ok (.goto 48, 3) := by decide +kernel
theorem dMeanings_noteAttribute_34 : decode bMeanings_noteAttribute 34 = .ok (.iload_n 2, 1) := by decide +kernel
theorem dMeanings_noteAttribute_35 : decode bMeanings_noteAttribute 35 = .ok (.bipush 17, 2) := by decide +kernel
theorem dMeanings_noteAttribute_37 : decode bMeanings_noteAttribute 37 = .ok (.if_icmp .ne 31, 3) := by decide +kernel
theorem dMeanings_noteAttribute_40 : decode bMeanings_noteAttribute 40 = .ok (.aload_n 0, 1) := by decide +kernel
theorem dMeanings_noteAttribute_41 : decode bMeanings_noteAttribute 41 = .ok (.getfield 27, 3) := by decide +kernel
theorem dMeanings_noteAttribute_44 : decode bMeanings_noteAttribute 44 = .ok (.iload_n 1, 1) := by decide +kernel
theorem dMeanings_noteAttribute_45 : decode bMeanings_noteAttribute 45 = .ok (.aload_n 0, 1) := by decide +kernel
theorem dMeanings_noteAttribute_46 : decode bMeanings_noteAttribute 46 = .ok (.getfield 19, 3) := by decide +kernel
theorem dMeanings_noteAttribute_49 : decode bMeanings_noteAttribute 49 = .ok (.iload_n 3, 1) := by decide +kernel
theorem dMeanings_noteAttribute_50 : decode bMeanings_noteAttribute 50 = .ok (.invokevirtual 67, 3) := by decide +kernel
theorem dMeanings_noteAttribute_53 : decode bMeanings_noteAttribute 53 = .ok (.aload_n 0, 1) := by decide +kernel
theorem dMeanings_noteAttribute_54 : decode bMeanings_noteAttribute 54 = .ok (.getfield 19, 3) := by decide +kernel
theorem dMeanings_noteAttribute_57 : decode bMeanings_noteAttribute 57 = .ok (.iload_n 3, 1) := by decide +kernel
theorem dMeanings_noteAttribute_58 : decode bMeanings_noteAttribute 58 = .ok (.invokevirtual 72, 3) := by decide +kernel
theorem dMeanings_noteAttribute_61 : decode bMeanings_noteAttribute 61 = .ok (.iconst 0, 1) := by decide +kernel
theorem dMeanings_noteAttribute_62 : decode bMeanings_noteAttribute 62 = .ok (.invokevirtual 79, 3) := by decide +kernel
theorem dMeanings_noteAttribute_65 : decode bMeanings_noteAttribute 65 = .ok (.goto 14, 3) := by decide +kernel
theorem dMeanings_noteAttribute_68 : decode bMeanings_noteAttribute 68 = .ok (.aload_n 0, 1) := by decide +kernel
theorem dMeanings_noteAttribute_69 : decode bMeanings_noteAttribute 69 = .ok (.getfield 27, 3) := by decide +kernel
theorem dMeanings_noteAttribute_72 : decode bMeanings_noteAttribute 72 = .ok (.iload_n 1, 1) := by decide +kernel
theorem dMeanings_noteAttribute_73 : decode bMeanings_noteAttribute 73 = .ok (.iconst 1, 1) := by decide +kernel
theorem dMeanings_noteAttribute_74 : decode bMeanings_noteAttribute 74 = .ok (.iconst 0, 1) := by decide +kernel
theorem dMeanings_noteAttribute_75 : decode bMeanings_noteAttribute 75 = .ok (.iconst 0, 1) := by decide +kernel
theorem dMeanings_noteAttribute_76 : decode bMeanings_noteAttribute 76 = .ok (.invokevirtual 79, 3) := by decide +kernel
theorem dMeanings_noteAttribute_79 : decode bMeanings_noteAttribute 79 = .ok (.return_, 1) := by decide +kernel
theorem dMeanings_boundOf_0 : decode bMeanings_boundOf 0 = .ok (.aload_n 0, 1) := by decide +kernel
theorem dMeanings_boundOf_1 : decode bMeanings_boundOf 1 = .ok (.getfield 19, 3) := by decide +kernel
theorem dMeanings_boundOf_4 : decode bMeanings_boundOf 4 = .ok (.iload_n 2, 1) := by decide +kernel
theorem dMeanings_boundOf_5 : decode bMeanings_boundOf 5 = .ok (.invokevirtual 184, 3) := by decide +kernel
theorem dMeanings_boundOf_8 : decode bMeanings_boundOf 8 = .ok (.istore_n 3, 1) := by decide +kernel
theorem dMeanings_boundOf_9 : decode bMeanings_boundOf 9 = .ok (.aload_n 0, 1) := by decide +kernel
theorem dMeanings_boundOf_10 : decode bMeanings_boundOf 10 = .ok (.getfield 19, 3) := by decide +kernel
theorem dMeanings_boundOf_13 : decode bMeanings_boundOf 13 = .ok (.iload_n 2, 1) := by decide +kernel
theorem dMeanings_boundOf_14 : decode bMeanings_boundOf 14 = .ok (.invokevirtual 187, 3) := by decide +kernel
theorem dMeanings_boundOf_17 : decode bMeanings_boundOf 17 = .ok (.istore 4, 2) := by decide +kernel
theorem dMeanings_boundOf_19 : decode bMeanings_boundOf 19 = .ok (.iload_n 1, 1) := by decide +kernel
theorem dMeanings_boundOf_20 : decode bMeanings_boundOf 20 = .ok (.tableswitch 51 19 22 #[32, 34, 37, 44], 32) := by decide +kernel
theorem dMeanings_boundOf_52 : decode bMeanings_boundOf 52 = .ok (.iload_n 3, 1) := by decide +kernel
theorem dMeanings_boundOf_53 : decode bMeanings_boundOf 53 = .ok (.ireturn, 1) := by decide +kernel
theorem dMeanings_boundOf_54 : decode bMeanings_boundOf 54 = .ok (.iload 4, 2) := by decide +kernel
theorem dMeanings_boundOf_56 : decode bMeanings_boundOf 56 = .ok (.ireturn, 1) := by decide +kernel
theorem dMeanings_boundOf_57 : decode bMeanings_boundOf 57 = .ok (.iload_n 3, 1) := by decide +kernel
theorem dMeanings_boundOf_58 : decode bMeanings_boundOf 58 = .ok (.iload 4, 2) := by decide +kernel
theorem dMeanings_boundOf_60 : decode bMeanings_boundOf 60 = .ok (.invokestatic 190, 3) := by decide +kernel
theorem dMeanings_boundOf_63 : decode bMeanings_boundOf 63 = .ok (.ireturn, 1) := by decide +kernel
theorem dMeanings_boundOf_64 : decode bMeanings_boundOf 64 = .ok (.iload_n 3, 1) := by decide +kernel
theorem dMeanings_boundOf_65 : decode bMeanings_boundOf 65 = .ok (.iload 4, 2) := by decide +kernel
theorem dMeanings_boundOf_67 : decode bMeanings_boundOf 67 = .ok (.invokestatic 195, 3) := by decide +kernel
theorem dMeanings_boundOf_70 : decode bMeanings_boundOf 70 = .ok (.ireturn, 1) := by decide +kernel
theorem dMeanings_boundOf_71 : decode bMeanings_boundOf 71 = .ok (.aload_n 0, 1) := by decide +kernel
theorem dMeanings_boundOf_72 : decode bMeanings_boundOf 72 = .ok (.getfield 19, 3) := by decide +kernel
theorem dMeanings_boundOf_75 : decode bMeanings_boundOf 75 = .ok (.iload_n 2, 1) := by decide +kernel
theorem dMeanings_boundOf_76 : decode bMeanings_boundOf 76 = .ok (.invokevirtual 198, 3) := by decide +kernel
theorem dMeanings_boundOf_79 : decode bMeanings_boundOf 79 = .ok (.ireturn, 1) := by decide +kernel
-- NUMBERS, more
theorem lt_nge {x y : Int32} (h : x < y) : ¬ y ≤ x := Int32.not_le.mpr h
theorem mu_dn {k : Int32} (h : -2147483648 < k.toInt) : (k + (-1)).toInt = k.toInt - 1 := by
  have h1 : k.toInt ≤ 2147483647 := by have h9 := Int32.toInt_le k; rw [show Int32.maxValue.toInt = 2147483647 by decide] at h9; exact h9
  rw [Int32.toInt_add]
  have h3 : (-1 : Int32).toInt = -1 := by decide
  rw [h3]
  exact Int.bmod_eq_of_le (by omega) (by omega)
theorem mu_le {k r : Int32} (h : ¬ r < k) (hr : r.toInt < 2147483647) : k.toInt < 2147483647 := by
  rw [Int32.lt_iff_toInt_lt] at h
  omega
theorem md_ge {k r : Int32} (h : ¬ k < r) (hr : ¬ r < 0) : ¬ k < 0 := by
  rw [Int32.lt_iff_toInt_lt] at *
  have h0 : (0 : Int32).toInt = 0 := by decide
  omega
theorem md_int {k : Int32} (h : ¬ k < 0) : -2147483648 < k.toInt := by
  rw [Int32.lt_iff_toInt_lt] at h
  have h0 : (0 : Int32).toInt = 0 := by decide
  omega
theorem in_cmp2 {x v : Int32} {n : Nat} (h0 : ¬ x < 0) (ev : v = nI n) (h1 : ¬ v ≤ x) (hn : n < 2 ^ 31) : vp_in x n := by
  subst ev
  exact in_cmp h0 h1 hn
theorem inv_15 {γ : gE} {A : Nat → Prop} {κ : Nat → Nat} {H : Heap} (hI : INV γ A κ H) : κ 15 < 2 ^ 31 := by
  obtain ⟨Z, ws, ⟨b0, f0, vf, va, rfl, h1, h2⟩, hP, hD⟩ := inv_c hI 1 (by decide) (by decide)
  omega
-- the array of hidden nodes
section HID
variable {p : Program} {l : Launch} {e : Env} {R : Room} {s : State} {m : MethodId} {args : Array Value} {below : List Frame} {meth : Method} {c : Code} {H : Heap} {locs : List Loc} {cells slots : Nat} {Q : State → Prop}
variable {cc : ByteArray} {pc : Nat} {ls : Array Slot} {rest : List Value} {A Z : Nat → Prop} {b : Nat} {H0 : Heap} {nL index : Nat} {own : String} {γ : gE} {κ : Nat → Nat}
/-- a cell's field is one thing -/
theorem of_inj {a ci j : Nat} {v w : Value} {C : String} {T : u_T} {N : Nat} (hc : vwCl[ci]? = some (C, T, N)) (hj : j < N) (h1 : OF γ H a ci j v) (h2 : OF γ H a ci j w) : v = w := by
  obtain ⟨f1, p1, e1⟩ := h1
  obtain ⟨f2, p2, e2⟩ := h2
  obtain ⟨r1, c1, x1, y1, -, -, z1⟩ := p1 0 _ rfl
  obtain ⟨r2, c2, x2, y2, -, -, z2⟩ := p2 0 _ rfl
  cases Option.some.inj (c1.symm.trans hc)
  cases Option.some.inj (c2.symm.trans hc)
  cases Option.some.inj (y1.symm.trans y2)
  have h3 := (z1 j hj).symm.trans (z2 j hj)
  simpa [vp_V, e1, e2] using h3
theorem of_8_6 (hI : INV γ A κ H) : ∃ b : Nat, OF γ H (γ.2.2.2 8) 7 6 (.ref b) := by
  obtain ⟨Z, ws, ⟨b0, f0, vf, va, rfl, h1, h2⟩, hP, hD⟩ := inv_c hI 1 (by decide) (by decide)
  exact ⟨b0, _, fun k q hq => hP 1 q (by cases k with | zero => exact hq | succ k => cases hq), rfl⟩
theorem iv_hlen (S : bs_F p s m args c cc nL own) (hC : CX γ s) (hI : INV γ A κ H) (hO : OF γ H (γ.2.2.2 8) 7 6 (.ref b)) (hdg : decode cc pc = .ok (.arraylength, 1))
    (kk : W p l e R s m args below meth c H locs cells slots Q (F0 m (pc + 1) ls (.int (nI (κ 15)) :: rest))) : W p l e R s m args below meth c H locs cells slots Q (F0 m pc ls (.ref b :: rest)) := by
  obtain ⟨Z, ws, ⟨b0, f0, vf, va, rfl, h1, h2⟩, hP, hD⟩ := inv_c hI 1 (by decide) (by decide)
  have hO2 : OF γ H (γ.2.2.2 8) 7 6 (.ref b0) := ⟨_, fun k q hq => hP 1 q (by cases k with | zero => exact hq | succ k => cases hq), rfl⟩
  cases of_inj rfl (by decide) hO hO2
  exact va_alen S.1 S.2.1 hC.1 hP 4 0 rfl rfl rfl hdg kk
theorem iv_hid (S : bs_F p s m args c cc nL own) (hC : CX γ s) (hI : INV γ A κ H) (hA : ∀ q, H.size ≤ q → A q) (hS : va_S A H0 H locs) (hO : OF γ H (γ.2.2.2 8) 7 6 (.ref b)) {i x : Int32} (hin : vp_in i (κ 15)) (hdg : decode cc pc = .ok (.iastore, 1))
    (kk : ∀ (H1 : Heap) (locs1 : List Loc), INV γ A κ H1 → va_S A H0 H1 locs1 → W p l e R s m args below meth c H1 locs1 cells slots Q (F0 m (pc + 1) ls rest)) : W p l e R s m args below meth c H locs cells slots Q (F0 m pc ls (.int x :: .int i :: .ref b :: rest)) := by
  obtain ⟨Z, ⟨ws, ⟨b0, f0, vf, va, rfl, h1, h2⟩, hP, hD⟩, hZn, hZA, hback⟩ := inv_lift hI hA 1 (by decide) (by decide)
  have hO2 : OF γ H (γ.2.2.2 8) 7 6 (.ref b0) := ⟨_, fun k q hq => hP 1 q (by cases k with | zero => exact hq | succ k => cases hq), rfl⟩
  cases of_inj rfl (by decide) hO hO2
  refine st_iast S.1 S.2.1 hC.1 hP hD hZA hS 4 0 rfl rfl hin hdg (fun H1 locs1 hP1 hD1 hS1 hz ho => ?_)
  exact kk H1 locs1 (hback κ H1 (fun _ _ _ _ => rfl) ⟨_, ⟨b, _, vf, va, rfl, h1, h2⟩, hP1, hD1⟩ (Nat.le_of_eq hz.symm) (fun q _ hq => ho q (fun e9 => hq (by rw [e9]; exact hD.2 4 _ rfl)))) hS1
theorem of_4_2 (hI : INV γ A κ H) : ∃ b : Nat, OF γ H (γ.2.2.2 4) 4 2 (.ref b) := by
  obtain ⟨Z, ws, ⟨b0, b1, b2, f0, f1, f2, rfl, h1, h2, h3⟩, hP, hD⟩ := inv_c hI 5 (by decide) (by decide)
  exact ⟨b2, _, fun k q hq => hP 0 q (by cases k with | zero => exact hq | succ k => cases hq), rfl⟩
theorem iv_onum (S : bs_F p s m args c cc nL own) (hC : CX γ s) (hI : INV γ A κ H) (hA : ∀ q, H.size ≤ q → A q) (hS : va_S A H0 H locs) (hO : OF γ H (γ.2.2.2 4) 4 2 (.ref b)) {i x r : Int32} (hr : r = 0 ∨ ∃ j, j < κ 5 ∧ i = nI j) (hc : ¬ r = 0) (hdg : decode cc pc = .ok (.iastore, 1))
    (kk : ∀ (H1 : Heap) (locs1 : List Loc), INV γ A κ H1 → va_S A H0 H1 locs1 → W p l e R s m args below meth c H1 locs1 cells slots Q (F0 m (pc + 1) ls rest)) : W p l e R s m args below meth c H locs cells slots Q (F0 m pc ls (.int x :: .int i :: .ref b :: rest)) := by
  obtain ⟨Z, ⟨ws, ⟨b0, b1, b2, f0, f1, f2, rfl, h1, h2, h3⟩, hP, hD⟩, hZn, hZA, hback⟩ := inv_lift hI hA 5 (by decide) (by decide)
  have hO2 : OF γ H (γ.2.2.2 4) 4 2 (.ref b2) := ⟨_, fun k q hq => hP 0 q (by cases k with | zero => exact hq | succ k => cases hq), rfl⟩
  cases of_inj rfl (by decide) hO hO2
  refine st_iast S.1 S.2.1 hC.1 hP hD hZA hS 3 0 rfl rfl (in_has hr hc h1 (by omega)) hdg (fun H1 locs1 hP1 hD1 hS1 hz ho => ?_)
  exact kk H1 locs1 (hback κ H1 (fun _ _ _ _ => rfl) ⟨_, ⟨b0, b1, b, f0, f1, _, rfl, h1, h2, h3⟩, hP1, hD1⟩ (Nat.le_of_eq hz.symm) (fun q _ hq => ho q (fun e9 => hq (by rw [e9]; exact hD.2 3 _ rfl)))) hS1
end HID
section CPL
variable {p : Program} {l : Launch} {e : Env} {R : Room} {s : State} {m : MethodId} {args : Array Value} {below : List Frame} {meth : Method} {c : Code} {H : Heap} {locs : List Loc} {cells slots : Nat} {Q : State → Prop}
variable {pc : Nat} {ls : Array Slot} {rest : List Value} {D : va_G} {cl : List vw_C} {A Z : Nat → Prop} {a : Nat} {tys : List (ClassId × FieldType)} {ws : va_W} {H0 : Heap}
theorem st_copyl {cc : ByteArray} (hexec : p.tables.exec = Jvm.exec) (hb : c.code = cc) (hml : c.maxLocals = ls.size) {own : String} {index : Nat} (hown : s.vm.findClass own = some m.cls) (hlink : (Cond.methodLink own index arraycopyName).before args s = true) (hnat : (Cond.native arraycopyName).before args s = true) (hstat : (Cond.static arraycopyName).before args s = true) (hini : (Cond.initialized "java/lang/System").before args s = true)
    (hK : va_K D cl tys s) (hP : va_P D cl ws H) (hD : va_D Z ws) (hZA : ∀ q, Z q → A q) (hS : va_S A H0 H locs) (q1 t0 t1 : Nat) {a0 : Nat} {c0 c1 : ClassId} {n0 n1 : Nat} {f g : Nat → Int64} (hc0 : H[a0]? = some (vp_cell c0 (n0, .inr (.inl f)))) (ha1 : ws[q1]? = some (a, .inl (c1, n1, .inr (.inl g)))) (ht0 : tys[t0]? = some (c0, .long)) (ht1 : tys[t1]? = some (c1, .long))
    {sp dp n : Int32} (h1 : ¬ sp < 0) (h2 : ¬ dp < 0) (h3 : ¬ n < 0) (h4 : sp.toNatClampNeg + n.toNatClampNeg ≤ n0) (h5 : dp.toNatClampNeg + n.toNatClampNeg ≤ n1)
    (hframes : 1 ≤ R.frames) (hlocals : (rest.map fun v => v.category).sum + (nativeFrameWords "java/lang/System" "arraycopy" 5 + 11) ≤ R.locals) (hdg : decode cc pc = .ok (.invokestatic index, 3))
    (kk : ∀ (H1 : Heap) (locs1 : List Loc), va_P D cl (ws.set q1 (a, .inl (c1, n1, .inr (.inl (va_cpy f g sp.toNatClampNeg dp.toNatClampNeg n.toNatClampNeg))))) H1 → va_D Z (ws.set q1 (a, .inl (c1, n1, .inr (.inl (va_cpy f g sp.toNatClampNeg dp.toNatClampNeg n.toNatClampNeg))))) → va_S A H0 H1 locs1 → H1.size = H.size → (∀ q : Nat, q ≠ a → H1[q]? = H[q]?) → W p l e R s m args below meth c H1 locs1 cells slots Q (F0 m (pc + 3) ls rest)) : W p l e R s m args below meth c H locs cells slots Q (F0 m pc ls (.int n :: .int dp :: .ref a :: .int sp :: .ref a0 :: rest)) := by
  have nn : ∀ z : Int32, ¬ z < 0 → z.toInt = (z.toNatClampNeg : Int) := by
    intro z hz
    have hz0 : (0 : Int) ≤ z.toInt := by
      have := Int32.not_lt.mp hz
      simpa using Int32.le_iff_toInt_le.mp this
    show z.toInt = ((z.toInt.toNat : Nat) : Int)
    omega
  intro T hT X
  have hc1 : H[a]? = some (vp_cell c1 (n1, .inr (.inl g))) := hP q1 _ ha1
  obtain ⟨-, k0, hk0, cm0, hkk0⟩ := (hK.2 t0 _ ht0).1 n0 (fun j => .long (f j))
  obtain ⟨-, k1, hk1, cm1, hkk1⟩ := (hK.2 t1 _ ht1).1 n1 (fun j => .long (g j))
  obtain ⟨vm', X', step⟩ := X.arraycopy hexec hown hlink hnat hstat hini (src := a0) (dst := a) (cs := vp_cell c0 (n0, .inr (.inl f))) (cd := vp_cell c1 (n1, .inr (.inl g))) (srcPos := sp) (destPos := dp) (n := n) (by rw [hT]; exact hc0) (by rw [hT]; exact hc1)
    (fun _ h => by cases h) (fun _ h => by cases h) (fun h => by cases h) (fun h => by cases h) hk0 hk1 hkk0 hkk1 (by simp [refKind]) h1 h2 h3
    (by rw [nn sp h1, nn n h3]; show ¬ _ > ((arrV c0 n0 (fun j => .long (f j))).slots.size : Int); rw [arrV_size]; omega)
    (by rw [nn dp h2, nn n h3]; show ¬ _ > ((arrV c1 n1 (fun j => .long (g j))).slots.size : Int); rw [arrV_size]; omega)
    (fun vm₁ _ i hi => by
      have e : (vp_cell c0 (n0, .inr (.inl f))).slots.getD (sp.toNatClampNeg + i) .null = .long (f (sp.toNatClampNeg + i)) := by
        show (arrV c0 n0 (fun j => .long (f j))).slots.getD _ _ = _
        rw [Array.getD_eq_getD_getElem?, arrV_read _ _ (by omega)]
        rfl
      refine ⟨?_, ?_⟩
      · rw [e]
        rfl
      · rw [e]
        exact trivial)
    (g := F0 m pc ls (.int n :: .int dp :: .ref a :: .int sp :: .ref a0 :: rest)) rfl (by rw [hml]) (rest := rest) rfl (by rw [hb]; exact hdg) hframes (by show 2 * 0 + _ + _ ≤ _; omega)
  have e1 : copied (vp_cell c0 (n0, .inr (.inl f))) (vp_cell c1 (n1, .inr (.inl g))) sp dp n = vp_cell c1 (n1, .inr (.inl (va_cpy f g sp.toNatClampNeg dp.toNatClampNeg n.toNatClampNeg))) := va_copied (fun z => .long z) c0 c1 f g h4
  rw [e1] at X' step
  have hl : a < H.size := (Array.getElem?_eq_some_iff.mp hc1).1
  have hheap : ((T.setVm vm').setCell a (vp_cell c1 (n1, .inr (.inl (va_cpy f g sp.toNatClampNeg dp.toNatClampNeg n.toNatClampNeg))))).heap = H.setIfInBounds a (vp_cell c1 (n1, .inr (.inl (va_cpy f g sp.toNatClampNeg dp.toNatClampNeg n.toNatClampNeg)))) := by rw [← hT]; rfl
  have oq : ∀ q : Nat, q ≠ a → (H.setIfInBounds a (vp_cell c1 (n1, .inr (.inl (va_cpy f g sp.toNatClampNeg dp.toNatClampNeg n.toNatClampNeg)))))[q]? = H[q]? := fun q hq => by simp [Array.getElem?_setIfInBounds, Ne.symm hq]
  obtain ⟨t, a1, b1⟩ := kk _ _ (hP.set hD ha1 (show (H.setIfInBounds a _)[a]? = some _ by simp [Array.getElem?_setIfInBounds, hl]) oq) (hD.set ha1) ⟨by simp; exact hS.1, fun q g1 g2 => by
      rw [oq q (fun e => g2 (by rw [e]; exact hZA _ (hD.2 q1 _ ha1)))]
      exact hS.2.1 q g1 g2, fun q hq => by
      rcases List.mem_append.mp hq with h | h
      · exact hS.2.2 q h
      · obtain ⟨z, -, hz⟩ := List.mem_map.mp h
        rw [← hz]
        exact hZA _ (hD.2 q1 _ ha1)⟩ (by simp) oq _ hheap X'
  exact ⟨t, step t a1, b1⟩
end CPL
theorem row4 {r x : Int32} {M : Nat} (hr : r = 0 ∨ ∃ j, j < M ∧ x = nI j) (hc : ¬ r = 0) (hM : M ≤ 8192) : ¬ x * 4 < 0 ∧ (x * 4).toNatClampNeg + 4 ≤ 4 * M := by
  rcases hr with h0 | ⟨j, hj, rfl⟩
  · exact absurd h0 hc
  · have e1 : nI j * 4 = nI (j * 4) := pk_mul j 4
    rw [e1, nI_clamp (by omega)]
    exact ⟨nI_pos (by omega), by omega⟩
theorem qw_157c25bbff : (Cond.methodLink R_Logic 9 yLogic_isLow) ∈ bs_W0 := bs_in (in_tables_1_3 (List.mem_of_getElem? (i := 214) rfl)) rfl
theorem qw_b530a28374 : (Cond.methodLink R_Logic 15 yLogic_isHigh) ∈ bs_W0 := bs_in (in_tables_1_3 (List.mem_of_getElem? (i := 217) rfl)) rfl
theorem qw_dd402237cf : (Cond.methodLink R_Logic 18 yLogic_isClear) ∈ bs_W0 := bs_in (in_tables_1_4 (List.mem_of_getElem? (i := 42) rfl)) rfl
theorem qw_216c0f4a68 : (Cond.methodLink R_Logic 21 yLogic_and) ∈ bs_W0 := bs_in (in_tables_1_4 (List.mem_of_getElem? (i := 32) rfl)) rfl
theorem qw_675e585d2e : (Cond.methodLink R_Logic 25 yLogic_or) ∈ bs_W0 := bs_in (in_tables_1_4 (List.mem_of_getElem? (i := 35) rfl)) rfl
theorem qw_d35acbc9a6 : (Cond.methodLink R_Logic 28 yLogic_not) ∈ bs_W0 := bs_in (in_tables_1_4 (List.mem_of_getElem? (i := 38) rfl)) rfl
theorem qw_caa7fb3dc0 : (Cond.methodLink R_Logic 32 yLogic_other) ∈ bs_W0 := bs_in (in_tables_1_4 (List.mem_of_getElem? (i := 39) rfl)) rfl
set_option maxHeartbeats 4000000 in
set_option maxRecDepth 100000 in
theorem s_jInteger_compare (l : Launch) (γ : gE) (P : Heap → Prop) (x0 : Int32) (x1 : Int32)  : PU l yjInteger_compare bjInteger_compare 2 (some .int) 0 0 [.int x0, .int x1] γ P (vp_Si (fun v : Int32 => True)) := by
  refine pu_openFI (by decide +kernel) (Nat.le_of_ble_eq_true rfl) ?_
  intro p e s m args below meth c ls Q S hC hI hE hl
  obtain ⟨hx, hb, hml, hown, hW⟩ := id S
  have hl : lv_has ls 2 [(0, .int x0), (1, .int x1)] := hl
  refine lv_iload_n hx hb djInteger_compare_0 rfl (lv_at hl 0 rfl) ?_
  refine lv_iload_n hx hb djInteger_compare_1 rfl (lv_at hl 1 rfl) ?_
  refine lv_icmp_ge (tgt := 9) hx hb djInteger_compare_2 (by decide) (fun c3 => ?_) (fun c3 => ?_)
  · refine lv_iload_n hx hb djInteger_compare_9 rfl (lv_at hl 0 rfl) ?_
    refine lv_iload_n hx hb djInteger_compare_10 rfl (lv_at hl 1 rfl) ?_
    refine lv_icmp_ne (tgt := 18) hx hb djInteger_compare_11 (by decide) (fun c4 => ?_) (fun c4 => ?_)
    · refine lv_iconst (v := 1) hx hb djInteger_compare_18 (by decide) ?_
      exact hE _ _ _ trivial djInteger_compare_19
    · refine lv_iconst (v := 0) hx hb djInteger_compare_14 (by decide) ?_
      refine lv_goto (tgt := 19) hx hb djInteger_compare_15 (by decide) ?_
      exact hE _ _ _ trivial djInteger_compare_19
  · refine lv_iconst (v := (-1)) hx hb djInteger_compare_5 (by decide) ?_
    refine lv_goto (tgt := 19) hx hb djInteger_compare_6 (by decide) ?_
    exact hE _ _ _ trivial djInteger_compare_19

set_option maxHeartbeats 4000000 in
set_option maxRecDepth 100000 in
theorem s_jLong_compare (l : Launch) (γ : gE) (P : Heap → Prop) (x0 : Int64) (x2 : Int64)  : PU l yjLong_compare bjLong_compare 4 (some .int) 0 0 [.long x0, .long x2] γ P (vp_Si (fun v : Int32 => True)) := by
  refine pu_openFI (by decide +kernel) (Nat.le_of_ble_eq_true rfl) ?_
  intro p e s m args below meth c ls Q S hC hI hE hl
  obtain ⟨hx, hb, hml, hown, hW⟩ := id S
  have hl : lv_has ls 4 [(0, .long x0), (2, .long x2)] := hl
  refine lv_lload_n hx hb djLong_compare_0 rfl (lv_at hl 0 rfl) ?_
  refine lv_lload_n hx hb djLong_compare_1 rfl (lv_at hl 1 rfl) ?_
  refine W.lcmp hx hb djLong_compare_2 ?_
  refine lv_topi (fun v5 ev5 => ?_)
  refine lv_if_ge (tgt := 10) hx hb djLong_compare_3 (by decide) (fun c6 => ?_) (fun c6 => ?_)
  · refine lv_lload_n hx hb djLong_compare_10 rfl (lv_at hl 0 rfl) ?_
    refine lv_lload_n hx hb djLong_compare_11 rfl (lv_at hl 1 rfl) ?_
    refine W.lcmp hx hb djLong_compare_12 ?_
    refine lv_topi (fun v7 ev7 => ?_)
    refine lv_if_ne (tgt := 20) hx hb djLong_compare_13 (by decide) (fun c8 => ?_) (fun c8 => ?_)
    · refine lv_iconst (v := 1) hx hb djLong_compare_20 (by decide) ?_
      exact hE _ _ _ trivial djLong_compare_21
    · refine lv_iconst (v := 0) hx hb djLong_compare_16 (by decide) ?_
      refine lv_goto (tgt := 21) hx hb djLong_compare_17 (by decide) ?_
      exact hE _ _ _ trivial djLong_compare_21
  · refine lv_iconst (v := (-1)) hx hb djLong_compare_6 (by decide) ?_
    refine lv_goto (tgt := 21) hx hb djLong_compare_7 (by decide) ?_
    exact hE _ _ _ trivial djLong_compare_21

set_option maxHeartbeats 4000000 in
set_option maxRecDepth 100000 in
theorem s_jMath_floorMod (l : Launch) (γ : gE) (P : Heap → Prop) (x0 : Int64) (x2 : Int64) (h0 : ¬ x2 = 0) : PU l yjMath_floorMod bjMath_floorMod 6 (some .long) 0 0 [.long x0, .long x2] γ P (vp_Sl (fun v : Int64 => True)) := by
  refine pu_openFJ (by decide +kernel) (Nat.le_of_ble_eq_true rfl) ?_
  intro p e s m args below meth c ls Q S hC hI hE hl
  obtain ⟨hx, hb, hml, hown, hW⟩ := id S
  have hl : lv_has ls 6 [(0, .long x0), (2, .long x2)] := hl
  refine lv_lload_n hx hb djMath_floorMod_0 rfl (lv_at hl 0 rfl) ?_
  refine lv_lload_n hx hb djMath_floorMod_1 rfl (lv_at hl 1 rfl) ?_
  refine lv_lrem hx hb djMath_floorMod_2 h0 ?_
  refine lv_topl (fun v8 ev8 => ?_)
  refine lv_lstore (lv' := [(4, .long v8), (0, .long x0), (2, .long x2)]) hx hb djMath_floorMod_3 hl (by decide) rfl (fun ls hl => ?_)
  refine lv_lload_n hx hb djMath_floorMod_5 rfl (lv_at hl 1 rfl) ?_
  refine lv_lload_n hx hb djMath_floorMod_6 rfl (lv_at hl 2 rfl) ?_
  refine lv_lxor hx hb djMath_floorMod_7 ?_
  refine lv_topl (fun v9 ev9 => ?_)
  refine lv_lconst (v := 0) hx hb djMath_floorMod_8 (by decide) ?_
  refine W.lcmp hx hb djMath_floorMod_9 ?_
  refine lv_topi (fun v10 ev10 => ?_)
  refine lv_if_ge (tgt := 25) hx hb djMath_floorMod_10 (by decide) (fun c11 => ?_) (fun c11 => ?_)
  · refine lv_lload hx hb djMath_floorMod_25 (lv_at hl 0 rfl) ?_
    exact hE _ _ _ trivial djMath_floorMod_27
  · refine lv_lload hx hb djMath_floorMod_13 (lv_at hl 0 rfl) ?_
    refine lv_lconst (v := 0) hx hb djMath_floorMod_15 (by decide) ?_
    refine W.lcmp hx hb djMath_floorMod_16 ?_
    refine lv_topi (fun v12 ev12 => ?_)
    refine lv_if_eq (tgt := 25) hx hb djMath_floorMod_17 (by decide) (fun c13 => ?_) (fun c13 => ?_)
    · refine lv_lload hx hb djMath_floorMod_25 (lv_at hl 0 rfl) ?_
      exact hE _ _ _ trivial djMath_floorMod_27
    · refine lv_lload hx hb djMath_floorMod_20 (lv_at hl 0 rfl) ?_
      refine lv_lload_n hx hb djMath_floorMod_22 rfl (lv_at hl 2 rfl) ?_
      refine lv_ladd hx hb djMath_floorMod_23 ?_
      refine lv_topl (fun v14 ev14 => ?_)
      exact hE _ _ _ trivial djMath_floorMod_24

set_option maxHeartbeats 4000000 in
set_option maxRecDepth 100000 in
theorem s_Logic_isLow (l : Launch) (γ : gE) (P : Heap → Prop) (x0 : Int32)  : PU l yLogic_isLow bLogic_isLow 1 (some .boolean) 0 0 [.int x0] γ P (vp_Si (fun v : Int32 => True)) := by
  refine pu_openZ (by decide) (Nat.le_of_ble_eq_true rfl) ?_
  intro p e s m args below meth c ls Q S hC hI hE hl
  obtain ⟨hx, hb, hml, hown, hW⟩ := id S
  have hl : lv_has ls 1 [(0, .int x0)] := hl
  have J11 : ∀ (ls : Array Slot)  (i0 : Int32), lv_has ls 1 [(0, .int i0)] → W p l e (bs_rm 0 0 0 0) s m args below meth c s.heap [] 0 0 Q (F0 m 11 ls []) := by
    intro ls  i0  hl
    refine lv_iconst (v := 1) hx hb dLogic_isLow_11 (by decide) ?_
    refine lv_goto (tgt := 16) hx hb dLogic_isLow_12 (by decide) ?_
    exact hE _ _ _ rfl trivial dLogic_isLow_16
  refine lv_iload_n hx hb dLogic_isLow_0 rfl (lv_at hl 0 rfl) ?_
  refine lv_iconst (v := 2) hx hb dLogic_isLow_1 (by decide) ?_
  refine lv_icmp_eq (tgt := 11) hx hb dLogic_isLow_2 (by decide) (fun c3 => ?_) (fun c3 => ?_)
  · exact J11 ls x0 (lv_sub hl [0] rfl)
  · refine lv_iload_n hx hb dLogic_isLow_5 rfl (lv_at hl 0 rfl) ?_
    refine lv_bipush (v := 6) hx hb dLogic_isLow_6 (by decide) ?_
    refine lv_icmp_ne (tgt := 15) hx hb dLogic_isLow_8 (by decide) (fun c4 => ?_) (fun c4 => ?_)
    · refine lv_iconst (v := 0) hx hb dLogic_isLow_15 (by decide) ?_
      exact hE _ _ _ rfl trivial dLogic_isLow_16
    · exact J11 ls x0 (lv_sub hl [0] rfl)

set_option maxHeartbeats 4000000 in
set_option maxRecDepth 100000 in
theorem s_Logic_isHigh (l : Launch) (γ : gE) (P : Heap → Prop) (x0 : Int32)  : PU l yLogic_isHigh bLogic_isHigh 1 (some .boolean) 0 0 [.int x0] γ P (vp_Si (fun v : Int32 => True)) := by
  refine pu_openZ (by decide) (Nat.le_of_ble_eq_true rfl) ?_
  intro p e s m args below meth c ls Q S hC hI hE hl
  obtain ⟨hx, hb, hml, hown, hW⟩ := id S
  have hl : lv_has ls 1 [(0, .int x0)] := hl
  have J11 : ∀ (ls : Array Slot)  (i0 : Int32), lv_has ls 1 [(0, .int i0)] → W p l e (bs_rm 0 0 0 0) s m args below meth c s.heap [] 0 0 Q (F0 m 11 ls []) := by
    intro ls  i0  hl
    refine lv_iconst (v := 1) hx hb dLogic_isHigh_11 (by decide) ?_
    refine lv_goto (tgt := 16) hx hb dLogic_isHigh_12 (by decide) ?_
    exact hE _ _ _ rfl trivial dLogic_isHigh_16
  refine lv_iload_n hx hb dLogic_isHigh_0 rfl (lv_at hl 0 rfl) ?_
  refine lv_iconst (v := 3) hx hb dLogic_isHigh_1 (by decide) ?_
  refine lv_icmp_eq (tgt := 11) hx hb dLogic_isHigh_2 (by decide) (fun c3 => ?_) (fun c3 => ?_)
  · exact J11 ls x0 (lv_sub hl [0] rfl)
  · refine lv_iload_n hx hb dLogic_isHigh_5 rfl (lv_at hl 0 rfl) ?_
    refine lv_bipush (v := 7) hx hb dLogic_isHigh_6 (by decide) ?_
    refine lv_icmp_ne (tgt := 15) hx hb dLogic_isHigh_8 (by decide) (fun c4 => ?_) (fun c4 => ?_)
    · refine lv_iconst (v := 0) hx hb dLogic_isHigh_15 (by decide) ?_
      exact hE _ _ _ rfl trivial dLogic_isHigh_16
    · exact J11 ls x0 (lv_sub hl [0] rfl)

set_option maxHeartbeats 4000000 in
set_option maxRecDepth 100000 in
theorem s_Logic_isClear (l : Launch) (γ : gE) (P : Heap → Prop) (x0 : Int32)  : PU l yLogic_isClear bLogic_isClear 1 (some .boolean) 0 0 [.int x0] γ P (vp_Si (fun v : Int32 => True)) := by
  refine pu_openZ (by decide) (Nat.le_of_ble_eq_true rfl) ?_
  intro p e s m args below meth c ls Q S hC hI hE hl
  obtain ⟨hx, hb, hml, hown, hW⟩ := id S
  have hl : lv_has ls 1 [(0, .int x0)] := hl
  have J22 : ∀ (ls : Array Slot)  (i0 : Int32), lv_has ls 1 [(0, .int i0)] → W p l e (bs_rm 0 0 0 0) s m args below meth c s.heap [] 0 0 Q (F0 m 22 ls []) := by
    intro ls  i0  hl
    refine lv_iconst (v := 1) hx hb dLogic_isClear_22 (by decide) ?_
    refine lv_goto (tgt := 27) hx hb dLogic_isClear_23 (by decide) ?_
    exact hE _ _ _ rfl trivial dLogic_isClear_27
  refine lv_iload_n hx hb dLogic_isClear_0 rfl (lv_at hl 0 rfl) ?_
  refine lv_iconst (v := 2) hx hb dLogic_isClear_1 (by decide) ?_
  refine lv_icmp_eq (tgt := 22) hx hb dLogic_isClear_2 (by decide) (fun c5 => ?_) (fun c5 => ?_)
  · exact J22 ls x0 (lv_sub hl [0] rfl)
  · refine lv_iload_n hx hb dLogic_isClear_5 rfl (lv_at hl 0 rfl) ?_
    refine lv_iconst (v := 3) hx hb dLogic_isClear_6 (by decide) ?_
    refine lv_icmp_eq (tgt := 22) hx hb dLogic_isClear_7 (by decide) (fun c6 => ?_) (fun c6 => ?_)
    · exact J22 ls x0 (lv_sub hl [0] rfl)
    · refine lv_iload_n hx hb dLogic_isClear_10 rfl (lv_at hl 0 rfl) ?_
      refine lv_bipush (v := 6) hx hb dLogic_isClear_11 (by decide) ?_
      refine lv_icmp_eq (tgt := 22) hx hb dLogic_isClear_13 (by decide) (fun c7 => ?_) (fun c7 => ?_)
      · exact J22 ls x0 (lv_sub hl [0] rfl)
      · refine lv_iload_n hx hb dLogic_isClear_16 rfl (lv_at hl 0 rfl) ?_
        refine lv_bipush (v := 7) hx hb dLogic_isClear_17 (by decide) ?_
        refine lv_icmp_ne (tgt := 26) hx hb dLogic_isClear_19 (by decide) (fun c8 => ?_) (fun c8 => ?_)
        · refine lv_iconst (v := 0) hx hb dLogic_isClear_26 (by decide) ?_
          exact hE _ _ _ rfl trivial dLogic_isClear_27
        · exact J22 ls x0 (lv_sub hl [0] rfl)

set_option maxHeartbeats 4000000 in
set_option maxRecDepth 100000 in
theorem s_Logic_not (l : Launch) (γ : gE) (P : Heap → Prop) (x0 : Int32)  : PU l yLogic_not bLogic_not 1 (some .int) 1 20 [.int x0] γ P (vp_Si (fun v : Int32 => True)) := by
  refine pu_openI (by decide) (Nat.le_of_ble_eq_true rfl) ?_
  intro p e s m args below meth c ls Q S hC hI hE hl
  obtain ⟨hx, hb, hml, hown, hW⟩ := id S
  have hl : lv_has ls 1 [(0, .int x0)] := hl
  refine lv_iload_n hx hb dLogic_not_0 rfl (lv_at hl 0 rfl) ?_
  refine lv_if_ne (tgt := 8) hx hb dLogic_not_1 (by decide) (fun c6 => ?_) (fun c6 => ?_)
  · refine lv_iload_n hx hb dLogic_not_8 rfl (lv_at hl 0 rfl) ?_
    refine pu_Si (rest := []) S hC (s_Logic_isLow l γ P x0) meLogic_isLow qw_157c25bbff ⟨Nat.le_of_ble_eq_true rfl, Nat.le_of_ble_eq_true rfl⟩ hI rfl hl.1 rfl (Nat.le_of_ble_eq_true rfl) dLogic_not_9 ⟨Nat.zero_le _, Nat.zero_le _⟩ (fun r7 hr7 => ?_)
    refine lv_if_eq (tgt := 19) hx hb dLogic_not_12 (by decide) (fun c8 => ?_) (fun c8 => ?_)
    · refine lv_iload_n hx hb dLogic_not_19 rfl (lv_at hl 0 rfl) ?_
      refine pu_Si (rest := []) S hC (s_Logic_isHigh l γ P x0) meLogic_isHigh qw_b530a28374 ⟨Nat.le_of_ble_eq_true rfl, Nat.le_of_ble_eq_true rfl⟩ hI rfl hl.1 rfl (Nat.le_of_ble_eq_true rfl) dLogic_not_20 ⟨Nat.zero_le _, Nat.zero_le _⟩ (fun r9 hr9 => ?_)
      refine lv_if_eq (tgt := 30) hx hb dLogic_not_23 (by decide) (fun c10 => ?_) (fun c10 => ?_)
      · refine lv_iconst (v := 1) hx hb dLogic_not_30 (by decide) ?_
        exact hE _ _ _ trivial dLogic_not_31
      · refine lv_iconst (v := 2) hx hb dLogic_not_26 (by decide) ?_
        refine lv_goto (tgt := 31) hx hb dLogic_not_27 (by decide) ?_
        exact hE _ _ _ trivial dLogic_not_31
    · refine lv_iconst (v := 3) hx hb dLogic_not_15 (by decide) ?_
      refine lv_goto (tgt := 31) hx hb dLogic_not_16 (by decide) ?_
      exact hE _ _ _ trivial dLogic_not_31
  · refine lv_iconst (v := 0) hx hb dLogic_not_4 (by decide) ?_
    refine lv_goto (tgt := 31) hx hb dLogic_not_5 (by decide) ?_
    exact hE _ _ _ trivial dLogic_not_31

set_option maxHeartbeats 4000000 in
set_option maxRecDepth 100000 in
theorem s_Logic_and (l : Launch) (γ : gE) (P : Heap → Prop) (x0 : Int32) (x1 : Int32)  : PU l yLogic_and bLogic_and 2 (some .int) 1 20 [.int x0, .int x1] γ P (vp_Si (fun v : Int32 => True)) := by
  refine pu_openI (by decide) (Nat.le_of_ble_eq_true rfl) ?_
  intro p e s m args below meth c ls Q S hC hI hE hl
  obtain ⟨hx, hb, hml, hown, hW⟩ := id S
  have hl : lv_has ls 2 [(0, .int x0), (1, .int x1)] := hl
  have J24 : ∀ (ls : Array Slot)  (i0 : Int32) (i1 : Int32), lv_has ls 2 [(0, .int i0), (1, .int i1)] → W p l e (bs_rm 1 0 0 20) s m args below meth c s.heap [] 0 0 Q (F0 m 24 ls []) := by
    intro ls  i0 i1  hl
    refine lv_iconst (v := 0) hx hb dLogic_and_24 (by decide) ?_
    refine lv_goto (tgt := 47) hx hb dLogic_and_25 (by decide) ?_
    exact hE _ _ _ trivial dLogic_and_47
  refine lv_iload_n hx hb dLogic_and_0 rfl (lv_at hl 0 rfl) ?_
  refine pu_Si (rest := []) S hC (s_Logic_isLow l γ P x0) meLogic_isLow qw_157c25bbff ⟨Nat.le_of_ble_eq_true rfl, Nat.le_of_ble_eq_true rfl⟩ hI rfl hl.1 rfl (Nat.le_of_ble_eq_true rfl) dLogic_and_1 ⟨Nat.zero_le _, Nat.zero_le _⟩ (fun r11 hr11 => ?_)
  refine lv_if_ne (tgt := 14) hx hb dLogic_and_4 (by decide) (fun c12 => ?_) (fun c12 => ?_)
  · refine lv_iconst (v := 2) hx hb dLogic_and_14 (by decide) ?_
    exact hE _ _ _ trivial dLogic_and_15
  · refine lv_iload_n hx hb dLogic_and_7 rfl (lv_at hl 1 rfl) ?_
    refine pu_Si (rest := []) S hC (s_Logic_isLow l γ P x1) meLogic_isLow qw_157c25bbff ⟨Nat.le_of_ble_eq_true rfl, Nat.le_of_ble_eq_true rfl⟩ hI rfl hl.1 rfl (Nat.le_of_ble_eq_true rfl) dLogic_and_8 ⟨Nat.zero_le _, Nat.zero_le _⟩ (fun r13 hr13 => ?_)
    refine lv_if_eq (tgt := 16) hx hb dLogic_and_11 (by decide) (fun c14 => ?_) (fun c14 => ?_)
    · refine lv_iload_n hx hb dLogic_and_16 rfl (lv_at hl 0 rfl) ?_
      refine lv_if_eq (tgt := 24) hx hb dLogic_and_17 (by decide) (fun c15 => ?_) (fun c15 => ?_)
      · exact J24 ls x0 x1 (lv_sub hl [0, 1] rfl)
      · refine lv_iload_n hx hb dLogic_and_20 rfl (lv_at hl 1 rfl) ?_
        refine lv_if_ne (tgt := 28) hx hb dLogic_and_21 (by decide) (fun c16 => ?_) (fun c16 => ?_)
        · refine lv_iload_n hx hb dLogic_and_28 rfl (lv_at hl 0 rfl) ?_
          refine pu_Si (rest := []) S hC (s_Logic_isHigh l γ P x0) meLogic_isHigh qw_b530a28374 ⟨Nat.le_of_ble_eq_true rfl, Nat.le_of_ble_eq_true rfl⟩ hI rfl hl.1 rfl (Nat.le_of_ble_eq_true rfl) dLogic_and_29 ⟨Nat.zero_le _, Nat.zero_le _⟩ (fun r17 hr17 => ?_)
          refine lv_if_eq (tgt := 46) hx hb dLogic_and_32 (by decide) (fun c18 => ?_) (fun c18 => ?_)
          · refine lv_iconst (v := 1) hx hb dLogic_and_46 (by decide) ?_
            exact hE _ _ _ trivial dLogic_and_47
          · refine lv_iload_n hx hb dLogic_and_35 rfl (lv_at hl 1 rfl) ?_
            refine pu_Si (rest := []) S hC (s_Logic_isHigh l γ P x1) meLogic_isHigh qw_b530a28374 ⟨Nat.le_of_ble_eq_true rfl, Nat.le_of_ble_eq_true rfl⟩ hI rfl hl.1 rfl (Nat.le_of_ble_eq_true rfl) dLogic_and_36 ⟨Nat.zero_le _, Nat.zero_le _⟩ (fun r19 hr19 => ?_)
            refine lv_if_eq (tgt := 46) hx hb dLogic_and_39 (by decide) (fun c20 => ?_) (fun c20 => ?_)
            · refine lv_iconst (v := 1) hx hb dLogic_and_46 (by decide) ?_
              exact hE _ _ _ trivial dLogic_and_47
            · refine lv_iconst (v := 3) hx hb dLogic_and_42 (by decide) ?_
              refine lv_goto (tgt := 47) hx hb dLogic_and_43 (by decide) ?_
              exact hE _ _ _ trivial dLogic_and_47
        · exact J24 ls x0 x1 (lv_sub hl [0, 1] rfl)
    · refine lv_iconst (v := 2) hx hb dLogic_and_14 (by decide) ?_
      exact hE _ _ _ trivial dLogic_and_15

set_option maxHeartbeats 4000000 in
set_option maxRecDepth 100000 in
theorem s_Logic_or (l : Launch) (γ : gE) (P : Heap → Prop) (x0 : Int32) (x1 : Int32)  : PU l yLogic_or bLogic_or 2 (some .int) 1 20 [.int x0, .int x1] γ P (vp_Si (fun v : Int32 => True)) := by
  refine pu_openI (by decide) (Nat.le_of_ble_eq_true rfl) ?_
  intro p e s m args below meth c ls Q S hC hI hE hl
  obtain ⟨hx, hb, hml, hown, hW⟩ := id S
  have hl : lv_has ls 2 [(0, .int x0), (1, .int x1)] := hl
  have J24 : ∀ (ls : Array Slot)  (i0 : Int32) (i1 : Int32), lv_has ls 2 [(0, .int i0), (1, .int i1)] → W p l e (bs_rm 1 0 0 20) s m args below meth c s.heap [] 0 0 Q (F0 m 24 ls []) := by
    intro ls  i0 i1  hl
    refine lv_iconst (v := 0) hx hb dLogic_or_24 (by decide) ?_
    refine lv_goto (tgt := 47) hx hb dLogic_or_25 (by decide) ?_
    exact hE _ _ _ trivial dLogic_or_47
  refine lv_iload_n hx hb dLogic_or_0 rfl (lv_at hl 0 rfl) ?_
  refine pu_Si (rest := []) S hC (s_Logic_isHigh l γ P x0) meLogic_isHigh qw_b530a28374 ⟨Nat.le_of_ble_eq_true rfl, Nat.le_of_ble_eq_true rfl⟩ hI rfl hl.1 rfl (Nat.le_of_ble_eq_true rfl) dLogic_or_1 ⟨Nat.zero_le _, Nat.zero_le _⟩ (fun r11 hr11 => ?_)
  refine lv_if_ne (tgt := 14) hx hb dLogic_or_4 (by decide) (fun c12 => ?_) (fun c12 => ?_)
  · refine lv_iconst (v := 3) hx hb dLogic_or_14 (by decide) ?_
    exact hE _ _ _ trivial dLogic_or_15
  · refine lv_iload_n hx hb dLogic_or_7 rfl (lv_at hl 1 rfl) ?_
    refine pu_Si (rest := []) S hC (s_Logic_isHigh l γ P x1) meLogic_isHigh qw_b530a28374 ⟨Nat.le_of_ble_eq_true rfl, Nat.le_of_ble_eq_true rfl⟩ hI rfl hl.1 rfl (Nat.le_of_ble_eq_true rfl) dLogic_or_8 ⟨Nat.zero_le _, Nat.zero_le _⟩ (fun r13 hr13 => ?_)
    refine lv_if_eq (tgt := 16) hx hb dLogic_or_11 (by decide) (fun c14 => ?_) (fun c14 => ?_)
    · refine lv_iload_n hx hb dLogic_or_16 rfl (lv_at hl 0 rfl) ?_
      refine lv_if_eq (tgt := 24) hx hb dLogic_or_17 (by decide) (fun c15 => ?_) (fun c15 => ?_)
      · exact J24 ls x0 x1 (lv_sub hl [0, 1] rfl)
      · refine lv_iload_n hx hb dLogic_or_20 rfl (lv_at hl 1 rfl) ?_
        refine lv_if_ne (tgt := 28) hx hb dLogic_or_21 (by decide) (fun c16 => ?_) (fun c16 => ?_)
        · refine lv_iload_n hx hb dLogic_or_28 rfl (lv_at hl 0 rfl) ?_
          refine pu_Si (rest := []) S hC (s_Logic_isLow l γ P x0) meLogic_isLow qw_157c25bbff ⟨Nat.le_of_ble_eq_true rfl, Nat.le_of_ble_eq_true rfl⟩ hI rfl hl.1 rfl (Nat.le_of_ble_eq_true rfl) dLogic_or_29 ⟨Nat.zero_le _, Nat.zero_le _⟩ (fun r17 hr17 => ?_)
          refine lv_if_eq (tgt := 46) hx hb dLogic_or_32 (by decide) (fun c18 => ?_) (fun c18 => ?_)
          · refine lv_iconst (v := 1) hx hb dLogic_or_46 (by decide) ?_
            exact hE _ _ _ trivial dLogic_or_47
          · refine lv_iload_n hx hb dLogic_or_35 rfl (lv_at hl 1 rfl) ?_
            refine pu_Si (rest := []) S hC (s_Logic_isLow l γ P x1) meLogic_isLow qw_157c25bbff ⟨Nat.le_of_ble_eq_true rfl, Nat.le_of_ble_eq_true rfl⟩ hI rfl hl.1 rfl (Nat.le_of_ble_eq_true rfl) dLogic_or_36 ⟨Nat.zero_le _, Nat.zero_le _⟩ (fun r19 hr19 => ?_)
            refine lv_if_eq (tgt := 46) hx hb dLogic_or_39 (by decide) (fun c20 => ?_) (fun c20 => ?_)
            · refine lv_iconst (v := 1) hx hb dLogic_or_46 (by decide) ?_
              exact hE _ _ _ trivial dLogic_or_47
            · refine lv_iconst (v := 2) hx hb dLogic_or_42 (by decide) ?_
              refine lv_goto (tgt := 47) hx hb dLogic_or_43 (by decide) ?_
              exact hE _ _ _ trivial dLogic_or_47
        · exact J24 ls x0 x1 (lv_sub hl [0, 1] rfl)
    · refine lv_iconst (v := 3) hx hb dLogic_or_14 (by decide) ?_
      exact hE _ _ _ trivial dLogic_or_15

set_option maxHeartbeats 4000000 in
set_option maxRecDepth 100000 in
theorem s_Logic_other (l : Launch) (γ : gE) (P : Heap → Prop) (x0 : Int32) (x1 : Int32)  : PU l yLogic_other bLogic_other 2 (some .int) 1 20 [.int x0, .int x1] γ P (vp_Si (fun v : Int32 => True)) := by
  refine pu_openI (by decide) (Nat.le_of_ble_eq_true rfl) ?_
  intro p e s m args below meth c ls Q S hC hI hE hl
  obtain ⟨hx, hb, hml, hown, hW⟩ := id S
  have hl : lv_has ls 2 [(0, .int x0), (1, .int x1)] := hl
  have J24 : ∀ (ls : Array Slot)  (i0 : Int32) (i1 : Int32), lv_has ls 2 [(0, .int i0), (1, .int i1)] → W p l e (bs_rm 1 0 0 20) s m args below meth c s.heap [] 0 0 Q (F0 m 24 ls []) := by
    intro ls  i0 i1  hl
    refine lv_iconst (v := 1) hx hb dLogic_other_24 (by decide) ?_
    refine lv_goto (tgt := 44) hx hb dLogic_other_25 (by decide) ?_
    exact hE _ _ _ trivial dLogic_other_44
  refine lv_iload_n hx hb dLogic_other_0 rfl (lv_at hl 0 rfl) ?_
  refine lv_if_eq (tgt := 8) hx hb dLogic_other_1 (by decide) (fun c10 => ?_) (fun c10 => ?_)
  · refine lv_iconst (v := 0) hx hb dLogic_other_8 (by decide) ?_
    exact hE _ _ _ trivial dLogic_other_9
  · refine lv_iload_n hx hb dLogic_other_4 rfl (lv_at hl 1 rfl) ?_
    refine lv_if_ne (tgt := 10) hx hb dLogic_other_5 (by decide) (fun c11 => ?_) (fun c11 => ?_)
    · refine lv_iload_n hx hb dLogic_other_10 rfl (lv_at hl 0 rfl) ?_
      refine pu_Si (rest := []) S hC (s_Logic_isClear l γ P x0) meLogic_isClear qw_dd402237cf ⟨Nat.le_of_ble_eq_true rfl, Nat.le_of_ble_eq_true rfl⟩ hI rfl hl.1 rfl (Nat.le_of_ble_eq_true rfl) dLogic_other_11 ⟨Nat.zero_le _, Nat.zero_le _⟩ (fun r12 hr12 => ?_)
      refine lv_if_eq (tgt := 24) hx hb dLogic_other_14 (by decide) (fun c13 => ?_) (fun c13 => ?_)
      · exact J24 ls x0 x1 (lv_sub hl [0, 1] rfl)
      · refine lv_iload_n hx hb dLogic_other_17 rfl (lv_at hl 1 rfl) ?_
        refine pu_Si (rest := []) S hC (s_Logic_isClear l γ P x1) meLogic_isClear qw_dd402237cf ⟨Nat.le_of_ble_eq_true rfl, Nat.le_of_ble_eq_true rfl⟩ hI rfl hl.1 rfl (Nat.le_of_ble_eq_true rfl) dLogic_other_18 ⟨Nat.zero_le _, Nat.zero_le _⟩ (fun r14 hr14 => ?_)
        refine lv_if_ne (tgt := 28) hx hb dLogic_other_21 (by decide) (fun c15 => ?_) (fun c15 => ?_)
        · refine lv_iload_n hx hb dLogic_other_28 rfl (lv_at hl 0 rfl) ?_
          refine pu_Si (rest := []) S hC (s_Logic_isHigh l γ P x0) meLogic_isHigh qw_b530a28374 ⟨Nat.le_of_ble_eq_true rfl, Nat.le_of_ble_eq_true rfl⟩ hI rfl hl.1 rfl (Nat.le_of_ble_eq_true rfl) dLogic_other_29 ⟨Nat.zero_le _, Nat.zero_le _⟩ (fun r16 hr16 => ?_)
          refine lv_iload_n hx hb dLogic_other_32 rfl (lv_at hl 1 rfl) ?_
          refine pu_Si (rest := [.int r16]) S hC (s_Logic_isHigh l γ P x1) meLogic_isHigh qw_b530a28374 ⟨Nat.le_of_ble_eq_true rfl, Nat.le_of_ble_eq_true rfl⟩ hI rfl hl.1 rfl (Nat.le_of_ble_eq_true rfl) dLogic_other_33 ⟨Nat.zero_le _, Nat.zero_le _⟩ (fun r17 hr17 => ?_)
          refine lv_icmp_eq (tgt := 43) hx hb dLogic_other_36 (by decide) (fun c18 => ?_) (fun c18 => ?_)
          · refine lv_iconst (v := 2) hx hb dLogic_other_43 (by decide) ?_
            exact hE _ _ _ trivial dLogic_other_44
          · refine lv_iconst (v := 3) hx hb dLogic_other_39 (by decide) ?_
            refine lv_goto (tgt := 44) hx hb dLogic_other_40 (by decide) ?_
            exact hE _ _ _ trivial dLogic_other_44
        · exact J24 ls x0 x1 (lv_sub hl [0, 1] rfl)
    · refine lv_iconst (v := 0) hx hb dLogic_other_8 (by decide) ?_
      exact hE _ _ _ trivial dLogic_other_9

set_option maxHeartbeats 4000000 in
set_option maxRecDepth 100000 in
theorem s_Logic_ofSigns (l : Launch) (γ : gE) (P : Heap → Prop) (x0 : Int32) (x1 : Int32) (x2 : Int32)  : PU l yLogic_ofSigns bLogic_ofSigns 3 (some .int) 2 41 [.int x0, .int x1, .int x2] γ P (vp_Si (fun v : Int32 => True)) := by
  refine pu_openI (by decide) (Nat.le_of_ble_eq_true rfl) ?_
  intro p e s m args below meth c ls Q S hC hI hE hl
  obtain ⟨hx, hb, hml, hown, hW⟩ := id S
  have hl : lv_has ls 3 [(0, .int x0), (1, .int x1), (2, .int x2)] := hl
  refine lv_iload_n hx hb dLogic_ofSigns_0 rfl (lv_at hl 0 rfl) ?_
  by_cases k15 : x0 = 0
  · subst k15
    refine lv_tableIn (tgt := 36) hx hb dLogic_ofSigns_1 (by decide) (by decide) rfl (by decide) ?_
    refine lv_iload_n hx hb dLogic_ofSigns_36 rfl (lv_at hl 1 rfl) ?_
    refine lv_iload_n hx hb dLogic_ofSigns_37 rfl (lv_at hl 2 rfl) ?_
    refine pu_Si (rest := []) S hC (s_Logic_and l γ P x1 x2) meLogic_and qw_216c0f4a68 ⟨Nat.le_of_ble_eq_true rfl, Nat.le_of_ble_eq_true rfl⟩ hI rfl hl.1 rfl (Nat.le_of_ble_eq_true rfl) dLogic_ofSigns_38 ⟨Nat.zero_le _, Nat.zero_le _⟩ (fun r16 hr16 => ?_)
    exact hE _ _ _ trivial dLogic_ofSigns_41
  by_cases k17 : x0 = 1
  · subst k17
    refine lv_tableIn (tgt := 42) hx hb dLogic_ofSigns_1 (by decide) (by decide) rfl (by decide) ?_
    refine lv_iload_n hx hb dLogic_ofSigns_42 rfl (lv_at hl 1 rfl) ?_
    refine lv_iload_n hx hb dLogic_ofSigns_43 rfl (lv_at hl 2 rfl) ?_
    refine pu_Si (rest := []) S hC (s_Logic_or l γ P x1 x2) meLogic_or qw_675e585d2e ⟨Nat.le_of_ble_eq_true rfl, Nat.le_of_ble_eq_true rfl⟩ hI rfl hl.1 rfl (Nat.le_of_ble_eq_true rfl) dLogic_ofSigns_44 ⟨Nat.zero_le _, Nat.zero_le _⟩ (fun r18 hr18 => ?_)
    exact hE _ _ _ trivial dLogic_ofSigns_47
  by_cases k19 : x0 = 2
  · subst k19
    refine lv_tableIn (tgt := 48) hx hb dLogic_ofSigns_1 (by decide) (by decide) rfl (by decide) ?_
    refine lv_iload_n hx hb dLogic_ofSigns_48 rfl (lv_at hl 1 rfl) ?_
    refine lv_iload_n hx hb dLogic_ofSigns_49 rfl (lv_at hl 2 rfl) ?_
    refine pu_Si (rest := []) S hC (s_Logic_and l γ P x1 x2) meLogic_and qw_216c0f4a68 ⟨Nat.le_of_ble_eq_true rfl, Nat.le_of_ble_eq_true rfl⟩ hI rfl hl.1 rfl (Nat.le_of_ble_eq_true rfl) dLogic_ofSigns_50 ⟨Nat.zero_le _, Nat.zero_le _⟩ (fun r20 hr20 => ?_)
    refine pu_Si (rest := []) S hC (s_Logic_not l γ P r20) meLogic_not qw_d35acbc9a6 ⟨Nat.le_of_ble_eq_true rfl, Nat.le_of_ble_eq_true rfl⟩ hI rfl hl.1 rfl (Nat.le_of_ble_eq_true rfl) dLogic_ofSigns_53 ⟨Nat.zero_le _, Nat.zero_le _⟩ (fun r21 hr21 => ?_)
    exact hE _ _ _ trivial dLogic_ofSigns_56
  by_cases k22 : x0 = 3
  · subst k22
    refine lv_tableIn (tgt := 57) hx hb dLogic_ofSigns_1 (by decide) (by decide) rfl (by decide) ?_
    refine lv_iload_n hx hb dLogic_ofSigns_57 rfl (lv_at hl 1 rfl) ?_
    refine lv_iload_n hx hb dLogic_ofSigns_58 rfl (lv_at hl 2 rfl) ?_
    refine pu_Si (rest := []) S hC (s_Logic_or l γ P x1 x2) meLogic_or qw_675e585d2e ⟨Nat.le_of_ble_eq_true rfl, Nat.le_of_ble_eq_true rfl⟩ hI rfl hl.1 rfl (Nat.le_of_ble_eq_true rfl) dLogic_ofSigns_59 ⟨Nat.zero_le _, Nat.zero_le _⟩ (fun r23 hr23 => ?_)
    refine pu_Si (rest := []) S hC (s_Logic_not l γ P r23) meLogic_not qw_d35acbc9a6 ⟨Nat.le_of_ble_eq_true rfl, Nat.le_of_ble_eq_true rfl⟩ hI rfl hl.1 rfl (Nat.le_of_ble_eq_true rfl) dLogic_ofSigns_62 ⟨Nat.zero_le _, Nat.zero_le _⟩ (fun r24 hr24 => ?_)
    exact hE _ _ _ trivial dLogic_ofSigns_65
  by_cases k25 : x0 = 4
  · subst k25
    refine lv_tableIn (tgt := 66) hx hb dLogic_ofSigns_1 (by decide) (by decide) rfl (by decide) ?_
    refine lv_iload_n hx hb dLogic_ofSigns_66 rfl (lv_at hl 1 rfl) ?_
    refine lv_iload_n hx hb dLogic_ofSigns_67 rfl (lv_at hl 2 rfl) ?_
    refine pu_Si (rest := []) S hC (s_Logic_other l γ P x1 x2) meLogic_other qw_caa7fb3dc0 ⟨Nat.le_of_ble_eq_true rfl, Nat.le_of_ble_eq_true rfl⟩ hI rfl hl.1 rfl (Nat.le_of_ble_eq_true rfl) dLogic_ofSigns_68 ⟨Nat.zero_le _, Nat.zero_le _⟩ (fun r26 hr26 => ?_)
    exact hE _ _ _ trivial dLogic_ofSigns_71
  refine lv_tableOut (tgt := 72) hx hb dLogic_ofSigns_1 (by have qk15 := lv_neT (a := 0) k15 (by decide); have qk17 := lv_neT (a := 1) k17 (by decide); have qk19 := lv_neT (a := 2) k19 (by decide); have qk22 := lv_neT (a := 3) k22 (by decide); have qk25 := lv_neT (a := 4) k25 (by decide); omega) (by decide) ?_
  refine lv_iload_n hx hb dLogic_ofSigns_72 rfl (lv_at hl 1 rfl) ?_
  refine lv_iload_n hx hb dLogic_ofSigns_73 rfl (lv_at hl 2 rfl) ?_
  refine pu_Si (rest := []) S hC (s_Logic_other l γ P x1 x2) meLogic_other qw_caa7fb3dc0 ⟨Nat.le_of_ble_eq_true rfl, Nat.le_of_ble_eq_true rfl⟩ hI rfl hl.1 rfl (Nat.le_of_ble_eq_true rfl) dLogic_ofSigns_74 ⟨Nat.zero_le _, Nat.zero_le _⟩ (fun r27 hr27 => ?_)
  refine pu_Si (rest := []) S hC (s_Logic_not l γ P r27) meLogic_not qw_d35acbc9a6 ⟨Nat.le_of_ble_eq_true rfl, Nat.le_of_ble_eq_true rfl⟩ hI rfl hl.1 rfl (Nat.le_of_ble_eq_true rfl) dLogic_ofSigns_77 ⟨Nat.zero_le _, Nat.zero_le _⟩ (fun r28 hr28 => ?_)
  exact hE _ _ _ trivial dLogic_ofSigns_80

set_option maxHeartbeats 4000000 in
set_option maxRecDepth 100000 in
theorem s_Logic_ofTruths (l : Launch) (γ : gE) (P : Heap → Prop) (x0 : Int32) (x1 : Int32) (x2 : Int32)  : PU l yLogic_ofTruths bLogic_ofTruths 3 (some .boolean) 0 0 [.int x0, .int x1, .int x2] γ P (vp_Si (fun v : Int32 => True)) := by
  refine pu_openZ (by decide) (Nat.le_of_ble_eq_true rfl) ?_
  intro p e s m args below meth c ls Q S hC hI hE hl
  obtain ⟨hx, hb, hml, hown, hW⟩ := id S
  have hl : lv_has ls 3 [(0, .int x0), (1, .int x1), (2, .int x2)] := hl
  have J72 : ∀ (ls : Array Slot)  (i0 : Int32) (i1 : Int32) (i2 : Int32), lv_has ls 3 [(0, .int i0), (1, .int i1), (2, .int i2)] → W p l e (bs_rm 0 0 0 0) s m args below meth c s.heap [] 0 0 Q (F0 m 72 ls []) := by
    intro ls  i0 i1 i2  hl
    refine lv_iconst (v := 1) hx hb dLogic_ofTruths_72 (by decide) ?_
    refine lv_goto (tgt := 77) hx hb dLogic_ofTruths_73 (by decide) ?_
    exact hE _ _ _ rfl trivial dLogic_ofTruths_77
  have J58 : ∀ (ls : Array Slot)  (i0 : Int32) (i1 : Int32) (i2 : Int32), lv_has ls 3 [(0, .int i0), (1, .int i1), (2, .int i2)] → W p l e (bs_rm 0 0 0 0) s m args below meth c s.heap [] 0 0 Q (F0 m 58 ls []) := by
    intro ls  i0 i1 i2  hl
    refine lv_iconst (v := 1) hx hb dLogic_ofTruths_58 (by decide) ?_
    refine lv_goto (tgt := 63) hx hb dLogic_ofTruths_59 (by decide) ?_
    exact hE _ _ _ rfl trivial dLogic_ofTruths_63
  refine lv_iload_n hx hb dLogic_ofTruths_0 rfl (lv_at hl 0 rfl) ?_
  by_cases k16 : x0 = 0
  · subst k16
    refine lv_tableIn (tgt := 36) hx hb dLogic_ofTruths_1 (by decide) (by decide) rfl (by decide) ?_
    refine lv_iload_n hx hb dLogic_ofTruths_36 rfl (lv_at hl 1 rfl) ?_
    refine lv_if_eq (tgt := 48) hx hb dLogic_ofTruths_37 (by decide) (fun c17 => ?_) (fun c17 => ?_)
    · refine lv_iconst (v := 0) hx hb dLogic_ofTruths_48 (by decide) ?_
      exact hE _ _ _ rfl trivial dLogic_ofTruths_49
    · refine lv_iload_n hx hb dLogic_ofTruths_40 rfl (lv_at hl 2 rfl) ?_
      refine lv_if_eq (tgt := 48) hx hb dLogic_ofTruths_41 (by decide) (fun c18 => ?_) (fun c18 => ?_)
      · refine lv_iconst (v := 0) hx hb dLogic_ofTruths_48 (by decide) ?_
        exact hE _ _ _ rfl trivial dLogic_ofTruths_49
      · refine lv_iconst (v := 1) hx hb dLogic_ofTruths_44 (by decide) ?_
        refine lv_goto (tgt := 49) hx hb dLogic_ofTruths_45 (by decide) ?_
        exact hE _ _ _ rfl trivial dLogic_ofTruths_49
  by_cases k19 : x0 = 1
  · subst k19
    refine lv_tableIn (tgt := 50) hx hb dLogic_ofTruths_1 (by decide) (by decide) rfl (by decide) ?_
    refine lv_iload_n hx hb dLogic_ofTruths_50 rfl (lv_at hl 1 rfl) ?_
    refine lv_if_ne (tgt := 58) hx hb dLogic_ofTruths_51 (by decide) (fun c20 => ?_) (fun c20 => ?_)
    · exact J58 ls 1 x1 x2 (lv_sub hl [0, 1, 2] rfl)
    · refine lv_iload_n hx hb dLogic_ofTruths_54 rfl (lv_at hl 2 rfl) ?_
      refine lv_if_eq (tgt := 62) hx hb dLogic_ofTruths_55 (by decide) (fun c21 => ?_) (fun c21 => ?_)
      · refine lv_iconst (v := 0) hx hb dLogic_ofTruths_62 (by decide) ?_
        exact hE _ _ _ rfl trivial dLogic_ofTruths_63
      · exact J58 ls 1 x1 x2 (lv_sub hl [0, 1, 2] rfl)
  by_cases k22 : x0 = 2
  · subst k22
    refine lv_tableIn (tgt := 64) hx hb dLogic_ofTruths_1 (by decide) (by decide) rfl (by decide) ?_
    refine lv_iload_n hx hb dLogic_ofTruths_64 rfl (lv_at hl 1 rfl) ?_
    refine lv_if_eq (tgt := 72) hx hb dLogic_ofTruths_65 (by decide) (fun c23 => ?_) (fun c23 => ?_)
    · exact J72 ls 2 x1 x2 (lv_sub hl [0, 1, 2] rfl)
    · refine lv_iload_n hx hb dLogic_ofTruths_68 rfl (lv_at hl 2 rfl) ?_
      refine lv_if_ne (tgt := 76) hx hb dLogic_ofTruths_69 (by decide) (fun c24 => ?_) (fun c24 => ?_)
      · refine lv_iconst (v := 0) hx hb dLogic_ofTruths_76 (by decide) ?_
        exact hE _ _ _ rfl trivial dLogic_ofTruths_77
      · exact J72 ls 2 x1 x2 (lv_sub hl [0, 1, 2] rfl)
  by_cases k25 : x0 = 3
  · subst k25
    refine lv_tableIn (tgt := 78) hx hb dLogic_ofTruths_1 (by decide) (by decide) rfl (by decide) ?_
    refine lv_iload_n hx hb dLogic_ofTruths_78 rfl (lv_at hl 1 rfl) ?_
    refine lv_if_ne (tgt := 90) hx hb dLogic_ofTruths_79 (by decide) (fun c26 => ?_) (fun c26 => ?_)
    · refine lv_iconst (v := 0) hx hb dLogic_ofTruths_90 (by decide) ?_
      exact hE _ _ _ rfl trivial dLogic_ofTruths_91
    · refine lv_iload_n hx hb dLogic_ofTruths_82 rfl (lv_at hl 2 rfl) ?_
      refine lv_if_ne (tgt := 90) hx hb dLogic_ofTruths_83 (by decide) (fun c27 => ?_) (fun c27 => ?_)
      · refine lv_iconst (v := 0) hx hb dLogic_ofTruths_90 (by decide) ?_
        exact hE _ _ _ rfl trivial dLogic_ofTruths_91
      · refine lv_iconst (v := 1) hx hb dLogic_ofTruths_86 (by decide) ?_
        refine lv_goto (tgt := 91) hx hb dLogic_ofTruths_87 (by decide) ?_
        exact hE _ _ _ rfl trivial dLogic_ofTruths_91
  by_cases k28 : x0 = 4
  · subst k28
    refine lv_tableIn (tgt := 92) hx hb dLogic_ofTruths_1 (by decide) (by decide) rfl (by decide) ?_
    refine lv_iload_n hx hb dLogic_ofTruths_92 rfl (lv_at hl 1 rfl) ?_
    refine lv_iload_n hx hb dLogic_ofTruths_93 rfl (lv_at hl 2 rfl) ?_
    refine lv_icmp_eq (tgt := 101) hx hb dLogic_ofTruths_94 (by decide) (fun c29 => ?_) (fun c29 => ?_)
    · refine lv_iconst (v := 0) hx hb dLogic_ofTruths_101 (by decide) ?_
      exact hE _ _ _ rfl trivial dLogic_ofTruths_102
    · refine lv_iconst (v := 1) hx hb dLogic_ofTruths_97 (by decide) ?_
      refine lv_goto (tgt := 102) hx hb dLogic_ofTruths_98 (by decide) ?_
      exact hE _ _ _ rfl trivial dLogic_ofTruths_102
  refine lv_tableOut (tgt := 103) hx hb dLogic_ofTruths_1 (by have qk16 := lv_neT (a := 0) k16 (by decide); have qk19 := lv_neT (a := 1) k19 (by decide); have qk22 := lv_neT (a := 2) k22 (by decide); have qk25 := lv_neT (a := 3) k25 (by decide); have qk28 := lv_neT (a := 4) k28 (by decide); omega) (by decide) ?_
  refine lv_iload_n hx hb dLogic_ofTruths_103 rfl (lv_at hl 1 rfl) ?_
  refine lv_iload_n hx hb dLogic_ofTruths_104 rfl (lv_at hl 2 rfl) ?_
  refine lv_icmp_ne (tgt := 112) hx hb dLogic_ofTruths_105 (by decide) (fun c30 => ?_) (fun c30 => ?_)
  · refine lv_iconst (v := 0) hx hb dLogic_ofTruths_112 (by decide) ?_
    exact hE _ _ _ rfl trivial dLogic_ofTruths_113
  · refine lv_iconst (v := 1) hx hb dLogic_ofTruths_108 (by decide) ?_
    refine lv_goto (tgt := 113) hx hb dLogic_ofTruths_109 (by decide) ?_
    exact hE _ _ _ rfl trivial dLogic_ofTruths_113

set_option maxHeartbeats 4000000 in
set_option maxRecDepth 100000 in
theorem s_Trees_bearsName (l : Launch) (γ : gE) (P : Heap → Prop) (x0 : Int32)  : PU l yTrees_bearsName bTrees_bearsName 1 (some .boolean) 0 0 [.int x0] γ P (vp_Si (fun v : Int32 => (v = 1 ∧ BN x0) ∨ (v = 0 ∧ ¬ BN x0))) := by
  refine pu_openZ (by decide) (Nat.le_of_ble_eq_true rfl) ?_
  intro p e s m args below meth c ls Q S hC hI hE hl
  obtain ⟨hx, hb, hml, hown, hW⟩ := id S
  have hl : lv_has ls 1 [(0, .int x0)] := hl
  have J29 : ∀ (ls : Array Slot)  (i0 : Int32), (BN x0) → lv_has ls 1 [(0, .int i0)] → W p l e (bs_rm 0 0 0 0) s m args below meth c s.heap [] 0 0 Q (F0 m 29 ls []) := by
    intro ls  i0 h29 hl
    refine lv_iconst (v := 1) hx hb dTrees_bearsName_29 (by decide) ?_
    refine lv_goto (tgt := 34) hx hb dTrees_bearsName_30 (by decide) ?_
    exact hE _ _ _ rfl (by first | exact Or.inl ⟨rfl, h29⟩ | exact Or.inr ⟨rfl, fun h9 => by rcases h9 with h9 | h9 | h9 | h9; exact n1 h9; exact n2 h9; exact n3 h9; exact absurd (e0.trans h9) (by assumption)⟩) dTrees_bearsName_34
  have J23 : ∀ (ls : Array Slot)  (i0 : Int32), (i0 = x0) → (¬ x0 = 1) → (¬ x0 = 10) → (¬ (¬ x0 < 22 ∧ x0 ≤ 25)) → lv_has ls 1 [(0, .int i0)] → W p l e (bs_rm 0 0 0 0) s m args below meth c s.heap [] 0 0 Q (F0 m 23 ls []) := by
    intro ls  i0 e0 n1 n2 n3 hl
    refine lv_iload_n hx hb dTrees_bearsName_23 rfl (lv_at hl 0 rfl) ?_
    refine lv_bipush (v := 53) hx hb dTrees_bearsName_24 (by decide) ?_
    refine lv_icmp_ne (tgt := 33) hx hb dTrees_bearsName_26 (by decide) (fun c6 => ?_) (fun c6 => ?_)
    · refine lv_iconst (v := 0) hx hb dTrees_bearsName_33 (by decide) ?_
      exact hE _ _ _ rfl (by first | exact Or.inl ⟨rfl, h29⟩ | exact Or.inr ⟨rfl, fun h9 => by rcases h9 with h9 | h9 | h9 | h9; exact n1 h9; exact n2 h9; exact n3 h9; exact absurd (e0.trans h9) (by assumption)⟩) dTrees_bearsName_34
    · exact J29 ls i0 (by first | exact Or.inl (by assumption) | exact Or.inr (Or.inl (by assumption)) | exact Or.inr (Or.inr (Or.inl ⟨by assumption, by assumption⟩)) | exact Or.inr (Or.inr (Or.inr (by rw [← e0]; assumption)))) (lv_sub hl [0] rfl)
  refine lv_iload_n hx hb dTrees_bearsName_0 rfl (lv_at hl 0 rfl) ?_
  refine lv_iconst (v := 1) hx hb dTrees_bearsName_1 (by decide) ?_
  refine lv_icmp_eq (tgt := 29) hx hb dTrees_bearsName_2 (by decide) (fun c7 => ?_) (fun c7 => ?_)
  · exact J29 ls x0 (by first | exact Or.inl (by assumption) | exact Or.inr (Or.inl (by assumption)) | exact Or.inr (Or.inr (Or.inl ⟨by assumption, by assumption⟩)) | exact Or.inr (Or.inr (Or.inr (by rw [← e0]; assumption)))) (lv_sub hl [0] rfl)
  · refine lv_iload_n hx hb dTrees_bearsName_5 rfl (lv_at hl 0 rfl) ?_
    refine lv_bipush (v := 10) hx hb dTrees_bearsName_6 (by decide) ?_
    refine lv_icmp_eq (tgt := 29) hx hb dTrees_bearsName_8 (by decide) (fun c8 => ?_) (fun c8 => ?_)
    · exact J29 ls x0 (by first | exact Or.inl (by assumption) | exact Or.inr (Or.inl (by assumption)) | exact Or.inr (Or.inr (Or.inl ⟨by assumption, by assumption⟩)) | exact Or.inr (Or.inr (Or.inr (by rw [← e0]; assumption)))) (lv_sub hl [0] rfl)
    · refine lv_iload_n hx hb dTrees_bearsName_11 rfl (lv_at hl 0 rfl) ?_
      refine lv_bipush (v := 22) hx hb dTrees_bearsName_12 (by decide) ?_
      refine lv_icmp_lt (tgt := 23) hx hb dTrees_bearsName_14 (by decide) (fun c9 => ?_) (fun c9 => ?_)
      · exact J23 ls x0 rfl (by assumption) (by assumption) (by first | exact (fun h9 => h9.1 (by assumption)) | exact (fun h9 => absurd h9.2 (by assumption))) (lv_sub hl [0] rfl)
      · refine lv_iload_n hx hb dTrees_bearsName_17 rfl (lv_at hl 0 rfl) ?_
        refine lv_bipush (v := 25) hx hb dTrees_bearsName_18 (by decide) ?_
        refine lv_icmp_le (tgt := 29) hx hb dTrees_bearsName_20 (by decide) (fun c10 => ?_) (fun c10 => ?_)
        · exact J29 ls x0 (by first | exact Or.inl (by assumption) | exact Or.inr (Or.inl (by assumption)) | exact Or.inr (Or.inr (Or.inl ⟨by assumption, by assumption⟩)) | exact Or.inr (Or.inr (Or.inr (by rw [← e0]; assumption)))) (lv_sub hl [0] rfl)
        · exact J23 ls x0 rfl (by assumption) (by assumption) (by first | exact (fun h9 => h9.1 (by assumption)) | exact (fun h9 => absurd h9.2 (by assumption))) (lv_sub hl [0] rfl)
