theorem dMeanings_init_0 : decode bMeanings_init 0 = .ok (.aload_n 0, 1) := by decide +kernel
theorem dMeanings_init_1 : decode bMeanings_init 1 = .ok (.invokespecial 3, 3) := by decide +kernel
theorem dMeanings_init_4 : decode bMeanings_init 4 = .ok (.aload_n 0, 1) := by decide +kernel
theorem dMeanings_init_5 : decode bMeanings_init 5 = .ok (.aload_n 1, 1) := by decide +kernel
theorem dMeanings_init_6 : decode bMeanings_init 6 = .ok (.putfield 9, 3) := by decide +kernel
theorem dMeanings_init_9 : decode bMeanings_init 9 = .ok (.aload_n 0, 1) := by decide +kernel
theorem dMeanings_init_10 : decode bMeanings_init 10 = .ok (.aload_n 2, 1) := by decide +kernel
theorem dMeanings_init_11 : decode bMeanings_init 11 = .ok (.putfield 15, 3) := by decide +kernel
theorem dMeanings_init_14 : decode bMeanings_init 14 = .ok (.aload_n 0, 1) := by decide +kernel
theorem dMeanings_init_15 : decode bMeanings_init 15 = .ok (.aload_n 3, 1) := by decide +kernel
theorem dMeanings_init_16 : decode bMeanings_init 16 = .ok (.putfield 19, 3) := by decide +kernel
theorem dMeanings_init_19 : decode bMeanings_init 19 = .ok (.aload_n 0, 1) := by decide +kernel
theorem dMeanings_init_20 : decode bMeanings_init 20 = .ok (.aload 4, 2) := by decide +kernel
theorem dMeanings_init_22 : decode bMeanings_init 22 = .ok (.putfield 23, 3) := by decide +kernel
theorem dMeanings_init_25 : decode bMeanings_init 25 = .ok (.aload_n 0, 1) := by decide +kernel
theorem dMeanings_init_26 : decode bMeanings_init 26 = .ok (.aload 5, 2) := by decide +kernel
theorem dMeanings_init_28 : decode bMeanings_init 28 = .ok (.putfield 27, 3) := by decide +kernel
theorem dMeanings_init_31 : decode bMeanings_init 31 = .ok (.return_, 1) := by decide +kernel
theorem dMeanings_name_0 : decode bMeanings_name 0 = .ok (.aload_n 0, 1) := by decide +kernel
theorem dMeanings_name_1 : decode bMeanings_name 1 = .ok (.getfield 9, 3) := by decide +kernel
theorem dMeanings_name_4 : decode bMeanings_name 4 = .ok (.iload_n 1, 1) := by decide +kernel
theorem dMeanings_name_5 : decode bMeanings_name 5 = .ok (.invokevirtual 31, 3) := by decide +kernel
theorem dMeanings_name_8 : decode bMeanings_name 8 = .ok (.ifCond .eq 6, 3) := by decide +kernel
theorem dMeanings_name_11 : decode bMeanings_name 11 = .ok (.bipush 11, 2) := by decide +kernel
theorem dMeanings_name_13 : decode bMeanings_name 13 = .ok (.ireturn, 1) := by decide +kernel
theorem dMeanings_name_14 : decode bMeanings_name 14 = .ok (.aload_n 0, 1) := by decide +kernel
theorem dMeanings_name_15 : decode bMeanings_name 15 = .ok (.getfield 15, 3) := by decide +kernel
theorem dMeanings_name_18 : decode bMeanings_name 18 = .ok (.aload_n 0, 1) := by decide +kernel
theorem dMeanings_name_19 : decode bMeanings_name 19 = .ok (.getfield 9, 3) := by decide +kernel
theorem dMeanings_name_22 : decode bMeanings_name 22 = .ok (.iload_n 1, 1) := by decide +kernel
theorem dMeanings_name_23 : decode bMeanings_name 23 = .ok (.invokevirtual 37, 3) := by decide +kernel
theorem dMeanings_name_26 : decode bMeanings_name 26 = .ok (.invokevirtual 40, 3) := by decide +kernel
theorem dMeanings_name_29 : decode bMeanings_name 29 = .ok (.istore_n 2, 1) := by decide +kernel
theorem dMeanings_name_30 : decode bMeanings_name 30 = .ok (.iload_n 2, 1) := by decide +kernel
theorem dMeanings_name_31 : decode bMeanings_name 31 = .ok (.iconst (-1), 1) := by decide +kernel
theorem dMeanings_name_32 : decode bMeanings_name 32 = .ok (.if_icmp .ne 5, 3) := by decide +kernel
theorem dMeanings_name_35 : decode bMeanings_name 35 = .ok (.iconst 1, 1) := by decide +kernel
theorem dMeanings_name_36 : decode bMeanings_name 36 = .ok (.ireturn, 1) := by decide +kernel
theorem dMeanings_name_37 : decode bMeanings_name 37 = .ok (.aload_n 0, 1) := by decide +kernel
theorem dMeanings_name_38 : decode bMeanings_name 38 = .ok (.getfield 15, 3) := by decide +kernel
theorem dMeanings_name_41 : decode bMeanings_name 41 = .ok (.iload_n 2, 1) := by decide +kernel
theorem dMeanings_name_42 : decode bMeanings_name 42 = .ok (.invokevirtual 45, 3) := by decide +kernel
theorem dMeanings_name_45 : decode bMeanings_name 45 = .ok (.istore_n 3, 1) := by decide +kernel
theorem dMeanings_name_46 : decode bMeanings_name 46 = .ok (.aload_n 0, 1) := by decide +kernel
theorem dMeanings_name_47 : decode bMeanings_name 47 = .ok (.getfield 15, 3) := by decide +kernel
theorem dMeanings_name_50 : decode bMeanings_name 50 = .ok (.iload_n 2, 1) := by decide +kernel
theorem dMeanings_name_51 : decode bMeanings_name 51 = .ok (.invokevirtual 48, 3) := by decide +kernel
theorem dMeanings_name_54 : decode bMeanings_name 54 = .ok (.tableswitch 61 2 4 #[26, 34, 51], 26) := by decide +kernel
theorem dMeanings_name_80 : decode bMeanings_name 80 = .ok (.aload_n 0, 1) := by decide +kernel
theorem dMeanings_name_81 : decode bMeanings_name 81 = .ok (.iload_n 1, 1) := by decide +kernel
theorem dMeanings_name_82 : decode bMeanings_name 82 = .ok (.iload_n 3, 1) := by decide +kernel
theorem dMeanings_name_83 : decode bMeanings_name 83 = .ok (.invokevirtual 51, 3) := by decide +kernel
theorem dMeanings_name_86 : decode bMeanings_name 86 = .ok (.iconst 0, 1) := by decide +kernel
theorem dMeanings_name_87 : decode bMeanings_name 87 = .ok (.ireturn, 1) := by decide +kernel
theorem dMeanings_name_88 : decode bMeanings_name 88 = .ok (.aload_n 0, 1) := by decide +kernel
theorem dMeanings_name_89 : decode bMeanings_name 89 = .ok (.iload_n 1, 1) := by decide +kernel
theorem dMeanings_name_90 : decode bMeanings_name 90 = .ok (.iconst 4, 1) := by decide +kernel
theorem dMeanings_name_91 : decode bMeanings_name 91 = .ok (.iload_n 3, 1) := by decide +kernel
theorem dMeanings_name_92 : decode bMeanings_name 92 = .ok (.aload_n 0, 1) := by decide +kernel
theorem dMeanings_name_93 : decode bMeanings_name 93 = .ok (.getfield 15, 3) := by decide +kernel
theorem dMeanings_name_96 : decode bMeanings_name 96 = .ok (.iload_n 2, 1) := by decide +kernel
theorem dMeanings_name_97 : decode bMeanings_name 97 = .ok (.invokevirtual 55, 3) := by decide +kernel
theorem dMeanings_name_100 : decode bMeanings_name 100 = .ok (.invokevirtual 58, 3) := by decide +kernel
theorem dMeanings_name_103 : decode bMeanings_name 103 = .ok (.iconst 0, 1) := by decide +kernel
theorem dMeanings_name_104 : decode bMeanings_name 104 = .ok (.ireturn, 1) := by decide +kernel
theorem dMeanings_name_105 : decode bMeanings_name 105 = .ok (.aload_n 0, 1) := by decide +kernel
theorem dMeanings_name_106 : decode bMeanings_name 106 = .ok (.iload_n 1, 1) := by decide +kernel
theorem dMeanings_name_107 : decode bMeanings_name 107 = .ok (.iconst 1, 1) := by decide +kernel
theorem dMeanings_name_108 : decode bMeanings_name 108 = .ok (.iconst 0, 1) := by decide +kernel
theorem dMeanings_name_109 : decode bMeanings_name 109 = .ok (.iload_n 3, 1) := by decide +kernel
theorem dMeanings_name_110 : decode bMeanings_name 110 = .ok (.invokevirtual 58, 3) := by decide +kernel
theorem dMeanings_name_113 : decode bMeanings_name 113 = .ok (.iconst 0, 1) := by decide +kernel
theorem dMeanings_name_114 : decode bMeanings_name 114 = .ok (.ireturn, 1) := by decide +kernel
theorem dMeanings_name_115 : decode bMeanings_name 115 = .ok (.iconst 2, 1) := by decide +kernel
theorem dMeanings_name_116 : decode bMeanings_name 116 = .ok (.ireturn, 1) := by decide +kernel
theorem dMeanings_noteObject_0 : decode bMeanings_noteObject 0 = .ok (.aload_n 0, 1) := by decide +kernel
theorem dMeanings_noteObject_1 : decode bMeanings_noteObject 1 = .ok (.getfield 23, 3) := by decide +kernel
theorem dMeanings_noteObject_4 : decode bMeanings_noteObject 4 = .ok (.iload_n 2, 1) := by decide +kernel
theorem dMeanings_noteObject_5 : decode bMeanings_noteObject 5 = .ok (.invokevirtual 62, 3) := by decide +kernel
theorem dMeanings_noteObject_8 : decode bMeanings_noteObject 8 = .ok (.istore_n 3, 1) := by decide +kernel
theorem dMeanings_noteObject_9 : decode bMeanings_noteObject 9 = .ok (.aload_n 0, 1) := by decide +kernel
theorem dMeanings_noteObject_10 : decode bMeanings_noteObject 10 = .ok (.getfield 27, 3) := by decide +kernel
theorem dMeanings_noteObject_13 : decode bMeanings_noteObject 13 = .ok (.iload_n 1, 1) := by decide +kernel
theorem dMeanings_noteObject_14 : decode bMeanings_noteObject 14 = .ok (.aload_n 0, 1) := by decide +kernel
theorem dMeanings_noteObject_15 : decode bMeanings_noteObject 15 = .ok (.getfield 19, 3) := by decide +kernel
theorem dMeanings_noteObject_18 : decode bMeanings_noteObject 18 = .ok (.iload_n 3, 1) := by decide +kernel
theorem dMeanings_noteObject_19 : decode bMeanings_noteObject 19 = .ok (.invokevirtual 67, 3) := by decide +kernel
theorem dMeanings_noteObject_22 : decode bMeanings_noteObject 22 = .ok (.aload_n 0, 1) := by decide +kernel
theorem dMeanings_noteObject_23 : decode bMeanings_noteObject 23 = .ok (.getfield 19, 3) := by decide +kernel
theorem dMeanings_noteObject_26 : decode bMeanings_noteObject 26 = .ok (.iload_n 3, 1) := by decide +kernel
theorem dMeanings_noteObject_27 : decode bMeanings_noteObject 27 = .ok (.invokevirtual 72, 3) := by decide +kernel
theorem dMeanings_noteObject_30 : decode bMeanings_noteObject 30 = .ok (.aload_n 0, 1) := by decide +kernel
theorem dMeanings_noteObject_31 : decode bMeanings_noteObject 31 = .ok (.iload_n 2, 1) := by decide +kernel
theorem dMeanings_noteObject_32 : decode bMeanings_noteObject 32 = .ok (.invokevirtual 75, 3) := by decide +kernel
theorem dMeanings_noteObject_35 : decode bMeanings_noteObject 35 = .ok (.invokevirtual 79, 3) := by decide +kernel
theorem dMeanings_noteObject_38 : decode bMeanings_noteObject 38 = .ok (.aload_n 0, 1) := by decide +kernel
theorem dMeanings_noteObject_39 : decode bMeanings_noteObject 39 = .ok (.getfield 27, 3) := by decide +kernel
theorem dMeanings_noteObject_42 : decode bMeanings_noteObject 42 = .ok (.iload_n 1, 1) := by decide +kernel
theorem dMeanings_noteObject_43 : decode bMeanings_noteObject 43 = .ok (.iload_n 2, 1) := by decide +kernel
theorem dMeanings_noteObject_44 : decode bMeanings_noteObject 44 = .ok (.invokevirtual 85, 3) := by decide +kernel
theorem dMeanings_noteObject_47 : decode bMeanings_noteObject 47 = .ok (.aload_n 0, 1) := by decide +kernel
theorem dMeanings_noteObject_48 : decode bMeanings_noteObject 48 = .ok (.getfield 27, 3) := by decide +kernel
theorem dMeanings_noteObject_51 : decode bMeanings_noteObject 51 = .ok (.iload_n 1, 1) := by decide +kernel
theorem dMeanings_noteObject_52 : decode bMeanings_noteObject 52 = .ok (.aload_n 0, 1) := by decide +kernel
theorem dMeanings_noteObject_53 : decode bMeanings_noteObject 53 = .ok (.getfield 23, 3) := by decide +kernel
theorem dMeanings_noteObject_56 : decode bMeanings_noteObject 56 = .ok (.iload_n 2, 1) := by decide +kernel
theorem dMeanings_noteObject_57 : decode bMeanings_noteObject 57 = .ok (.invokevirtual 88, 3) := by decide +kernel
theorem dMeanings_noteObject_60 : decode bMeanings_noteObject 60 = .ok (.invokevirtual 89, 3) := by decide +kernel
theorem dMeanings_noteObject_63 : decode bMeanings_noteObject 63 = .ok (.aload_n 0, 1) := by decide +kernel
theorem dMeanings_noteObject_64 : decode bMeanings_noteObject 64 = .ok (.getfield 27, 3) := by decide +kernel
theorem dMeanings_noteObject_67 : decode bMeanings_noteObject 67 = .ok (.getfield 92, 3) := by decide +kernel
theorem dMeanings_noteObject_70 : decode bMeanings_noteObject 70 = .ok (.iload_n 1, 1) := by decide +kernel
theorem dMeanings_noteObject_71 : decode bMeanings_noteObject 71 = .ok (.aload_n 0, 1) := by decide +kernel
theorem dMeanings_noteObject_72 : decode bMeanings_noteObject 72 = .ok (.getfield 23, 3) := by decide +kernel
theorem dMeanings_noteObject_75 : decode bMeanings_noteObject 75 = .ok (.getfield 96, 3) := by decide +kernel
theorem dMeanings_noteObject_78 : decode bMeanings_noteObject 78 = .ok (.iload_n 2, 1) := by decide +kernel
theorem dMeanings_noteObject_79 : decode bMeanings_noteObject 79 = .ok (.invokevirtual 97, 3) := by decide +kernel
theorem dMeanings_noteObject_82 : decode bMeanings_noteObject 82 = .ok (.return_, 1) := by decide +kernel
theorem dMeanings_noteValue_0 : decode bMeanings_noteValue 0 = .ok (.aload_n 0, 1) := by decide +kernel
theorem dMeanings_noteValue_1 : decode bMeanings_noteValue 1 = .ok (.getfield 27, 3) := by decide +kernel
theorem dMeanings_noteValue_4 : decode bMeanings_noteValue 4 = .ok (.iload_n 1, 1) := by decide +kernel
theorem dMeanings_noteValue_5 : decode bMeanings_noteValue 5 = .ok (.iload_n 2, 1) := by decide +kernel
theorem dMeanings_noteValue_6 : decode bMeanings_noteValue 6 = .ok (.iload_n 3, 1) := by decide +kernel
theorem dMeanings_noteValue_7 : decode bMeanings_noteValue 7 = .ok (.iconst 1, 1) := by decide +kernel
theorem dMeanings_noteValue_8 : decode bMeanings_noteValue 8 = .ok (.invokevirtual 79, 3) := by decide +kernel
theorem dMeanings_noteValue_11 : decode bMeanings_noteValue 11 = .ok (.aload_n 0, 1) := by decide +kernel
theorem dMeanings_noteValue_12 : decode bMeanings_noteValue 12 = .ok (.getfield 27, 3) := by decide +kernel
theorem dMeanings_noteValue_15 : decode bMeanings_noteValue 15 = .ok (.iload_n 1, 1) := by decide +kernel
theorem dMeanings_noteValue_16 : decode bMeanings_noteValue 16 = .ok (.sipush 2000, 3) := by decide +kernel
theorem dMeanings_noteValue_19 : decode bMeanings_noteValue 19 = .ok (.invokevirtual 85, 3) := by decide +kernel
theorem dMeanings_noteValue_22 : decode bMeanings_noteValue 22 = .ok (.aload_n 0, 1) := by decide +kernel
theorem dMeanings_noteValue_23 : decode bMeanings_noteValue 23 = .ok (.getfield 27, 3) := by decide +kernel
theorem dMeanings_noteValue_26 : decode bMeanings_noteValue 26 = .ok (.iload_n 1, 1) := by decide +kernel
theorem dMeanings_noteValue_27 : decode bMeanings_noteValue 27 = .ok (.iload 4, 2) := by decide +kernel
theorem dMeanings_noteValue_29 : decode bMeanings_noteValue 29 = .ok (.invokevirtual 89, 3) := by decide +kernel
theorem dMeanings_noteValue_32 : decode bMeanings_noteValue 32 = .ok (.return_, 1) := by decide +kernel
theorem dMeanings_isConstant_0 : decode bMeanings_isConstant 0 = .ok (.aload_n 0, 1) := by decide +kernel
theorem dMeanings_isConstant_1 : decode bMeanings_isConstant 1 = .ok (.getfield 23, 3) := by decide +kernel
theorem dMeanings_isConstant_4 : decode bMeanings_isConstant 4 = .ok (.iload_n 1, 1) := by decide +kernel
theorem dMeanings_isConstant_5 : decode bMeanings_isConstant 5 = .ok (.invokevirtual 103, 3) := by decide +kernel
theorem dMeanings_isConstant_8 : decode bMeanings_isConstant 8 = .ok (.ifCond .ne 7, 3) := by decide +kernel
theorem dMeanings_isConstant_11 : decode bMeanings_isConstant 11 = .ok (.iconst 1, 1) := by decide +kernel
theorem dMeanings_isConstant_12 : decode bMeanings_isConstant 12 = .ok (.goto 4, 3) := by decide +kernel
theorem dMeanings_isConstant_15 : decode bMeanings_isConstant 15 = .ok (.iconst 0, 1) := by decide +kernel
theorem dMeanings_isConstant_16 : decode bMeanings_isConstant 16 = .ok (.ireturn, 1) := by decide +kernel
theorem dMeanings_isRow_0 : decode bMeanings_isRow 0 = .ok (.aload_n 0, 1) := by decide +kernel
theorem dMeanings_isRow_1 : decode bMeanings_isRow 1 = .ok (.getfield 19, 3) := by decide +kernel
theorem dMeanings_isRow_4 : decode bMeanings_isRow 4 = .ok (.aload_n 0, 1) := by decide +kernel
theorem dMeanings_isRow_5 : decode bMeanings_isRow 5 = .ok (.getfield 23, 3) := by decide +kernel
theorem dMeanings_isRow_8 : decode bMeanings_isRow 8 = .ok (.iload_n 1, 1) := by decide +kernel
theorem dMeanings_isRow_9 : decode bMeanings_isRow 9 = .ok (.invokevirtual 62, 3) := by decide +kernel
theorem dMeanings_isRow_12 : decode bMeanings_isRow 12 = .ok (.invokevirtual 67, 3) := by decide +kernel
theorem dMeanings_isRow_15 : decode bMeanings_isRow 15 = .ok (.iconst 3, 1) := by decide +kernel
theorem dMeanings_isRow_16 : decode bMeanings_isRow 16 = .ok (.if_icmp .ne 7, 3) := by decide +kernel
theorem dMeanings_isRow_19 : decode bMeanings_isRow 19 = .ok (.iconst 1, 1) := by decide +kernel
theorem dMeanings_isRow_20 : decode bMeanings_isRow 20 = .ok (.goto 4, 3) := by decide +kernel
theorem dMeanings_isRow_23 : decode bMeanings_isRow 23 = .ok (.iconst 0, 1) := by decide +kernel
theorem dMeanings_isRow_24 : decode bMeanings_isRow 24 = .ok (.ireturn, 1) := by decide +kernel
theorem dMeanings_objectAt_0 : decode bMeanings_objectAt 0 = .ok (.aload_n 0, 1) := by decide +kernel
theorem dMeanings_objectAt_1 : decode bMeanings_objectAt 1 = .ok (.getfield 15, 3) := by decide +kernel
theorem dMeanings_objectAt_4 : decode bMeanings_objectAt 4 = .ok (.aload_n 0, 1) := by decide +kernel
theorem dMeanings_objectAt_5 : decode bMeanings_objectAt 5 = .ok (.getfield 9, 3) := by decide +kernel
theorem dMeanings_objectAt_8 : decode bMeanings_objectAt 8 = .ok (.iload_n 1, 1) := by decide +kernel
theorem dMeanings_objectAt_9 : decode bMeanings_objectAt 9 = .ok (.invokevirtual 37, 3) := by decide +kernel
theorem dMeanings_objectAt_12 : decode bMeanings_objectAt 12 = .ok (.invokevirtual 40, 3) := by decide +kernel
theorem dMeanings_objectAt_15 : decode bMeanings_objectAt 15 = .ok (.istore_n 2, 1) := by decide +kernel
theorem dMeanings_objectAt_16 : decode bMeanings_objectAt 16 = .ok (.aload_n 0, 1) := by decide +kernel
theorem dMeanings_objectAt_17 : decode bMeanings_objectAt 17 = .ok (.getfield 15, 3) := by decide +kernel
theorem dMeanings_objectAt_20 : decode bMeanings_objectAt 20 = .ok (.iload_n 2, 1) := by decide +kernel
theorem dMeanings_objectAt_21 : decode bMeanings_objectAt 21 = .ok (.invokevirtual 48, 3) := by decide +kernel
theorem dMeanings_objectAt_24 : decode bMeanings_objectAt 24 = .ok (.iconst 2, 1) := by decide +kernel
theorem dMeanings_objectAt_25 : decode bMeanings_objectAt 25 = .ok (.if_icmp .ne 14, 3) := by decide +kernel
theorem dMeanings_objectAt_28 : decode bMeanings_objectAt 28 = .ok (.aload_n 0, 1) := by decide +kernel
theorem dMeanings_objectAt_29 : decode bMeanings_objectAt 29 = .ok (.getfield 15, 3) := by decide +kernel
theorem dMeanings_objectAt_32 : decode bMeanings_objectAt 32 = .ok (.iload_n 2, 1) := by decide +kernel
theorem dMeanings_objectAt_33 : decode bMeanings_objectAt 33 = .ok (.invokevirtual 45, 3) := by decide +kernel
theorem dMeanings_objectAt_36 : decode bMeanings_objectAt 36 = .ok (.goto 4, 3) := by decide +kernel
theorem dMeanings_objectAt_39 : decode bMeanings_objectAt 39 = .ok (.iconst (-1), 1) := by decide +kernel
theorem dMeanings_objectAt_40 : decode bMeanings_objectAt 40 = .ok (.ireturn, 1) := by decide +kernel
theorem dMeanings_isUnknown_0 : decode bMeanings_isUnknown 0 = .ok (.aload_n 0, 1) := by decide +kernel
theorem dMeanings_isUnknown_1 : decode bMeanings_isUnknown 1 = .ok (.getfield 15, 3) := by decide +kernel
theorem dMeanings_isUnknown_4 : decode bMeanings_isUnknown 4 = .ok (.aload_n 0, 1) := by decide +kernel
theorem dMeanings_isUnknown_5 : decode bMeanings_isUnknown 5 = .ok (.getfield 9, 3) := by decide +kernel
theorem dMeanings_isUnknown_8 : decode bMeanings_isUnknown 8 = .ok (.iload_n 1, 1) := by decide +kernel
theorem dMeanings_isUnknown_9 : decode bMeanings_isUnknown 9 = .ok (.invokevirtual 37, 3) := by decide +kernel
theorem dMeanings_isUnknown_12 : decode bMeanings_isUnknown 12 = .ok (.invokevirtual 40, 3) := by decide +kernel
theorem dMeanings_isUnknown_15 : decode bMeanings_isUnknown 15 = .ok (.iconst (-1), 1) := by decide +kernel
theorem dMeanings_isUnknown_16 : decode bMeanings_isUnknown 16 = .ok (.if_icmp .ne 7, 3) := by decide +kernel
theorem dMeanings_isUnknown_19 : decode bMeanings_isUnknown 19 = .ok (.iconst 1, 1) := by decide +kernel
theorem dMeanings_isUnknown_20 : decode bMeanings_isUnknown 20 = .ok (.goto 4, 3) := by decide +kernel
theorem dMeanings_isUnknown_23 : decode bMeanings_isUnknown 23 = .ok (.iconst 0, 1) := by decide +kernel
theorem dMeanings_isUnknown_24 : decode bMeanings_isUnknown 24 = .ok (.ireturn, 1) := by decide +kernel
theorem dMeanings_apply_0 : decode bMeanings_apply 0 = .ok (.aload_n 0, 1) := by decide +kernel
theorem dMeanings_apply_1 : decode bMeanings_apply 1 = .ok (.getfield 15, 3) := by decide +kernel
theorem dMeanings_apply_4 : decode bMeanings_apply 4 = .ok (.aload_n 0, 1) := by decide +kernel
theorem dMeanings_apply_5 : decode bMeanings_apply 5 = .ok (.getfield 9, 3) := by decide +kernel
theorem dMeanings_apply_8 : decode bMeanings_apply 8 = .ok (.iload_n 1, 1) := by decide +kernel
theorem dMeanings_apply_9 : decode bMeanings_apply 9 = .ok (.invokevirtual 37, 3) := by decide +kernel
theorem dMeanings_apply_12 : decode bMeanings_apply 12 = .ok (.invokevirtual 40, 3) := by decide +kernel
theorem dMeanings_apply_15 : decode bMeanings_apply 15 = .ok (.istore_n 2, 1) := by decide +kernel
theorem dMeanings_apply_16 : decode bMeanings_apply 16 = .ok (.iload_n 2, 1) := by decide +kernel
theorem dMeanings_apply_17 : decode bMeanings_apply 17 = .ok (.iconst (-1), 1) := by decide +kernel
theorem dMeanings_apply_18 : decode bMeanings_apply 18 = .ok (.if_icmp .ne 5, 3) := by decide +kernel
theorem dMeanings_apply_21 : decode bMeanings_apply 21 = .ok (.iconst 1, 1) := by decide +kernel
theorem dMeanings_apply_22 : decode bMeanings_apply 22 = .ok (.ireturn, 1) := by decide +kernel
theorem dMeanings_apply_23 : decode bMeanings_apply 23 = .ok (.aload_n 0, 1) := by decide +kernel
theorem dMeanings_apply_24 : decode bMeanings_apply 24 = .ok (.getfield 15, 3) := by decide +kernel
theorem dMeanings_apply_27 : decode bMeanings_apply 27 = .ok (.iload_n 2, 1) := by decide +kernel
theorem dMeanings_apply_28 : decode bMeanings_apply 28 = .ok (.invokevirtual 48, 3) := by decide +kernel
theorem dMeanings_apply_31 : decode bMeanings_apply 31 = .ok (.iconst 5, 1) := by decide +kernel
theorem dMeanings_apply_32 : decode bMeanings_apply 32 = .ok (.if_icmp .ne 17, 3) := by decide +kernel
theorem dMeanings_apply_35 : decode bMeanings_apply 35 = .ok (.aload_n 0, 1) := by decide +kernel
theorem dMeanings_apply_36 : decode bMeanings_apply 36 = .ok (.iload_n 1, 1) := by decide +kernel
theorem dMeanings_apply_37 : decode bMeanings_apply 37 = .ok (.aload_n 0, 1) := by decide +kernel
theorem dMeanings_apply_38 : decode bMeanings_apply 38 = .ok (.getfield 15, 3) := by decide +kernel
theorem dMeanings_apply_41 : decode bMeanings_apply 41 = .ok (.iload_n 2, 1) := by decide +kernel
theorem dMeanings_apply_42 : decode bMeanings_apply 42 = .ok (.invokevirtual 45, 3) := by decide +kernel
theorem dMeanings_apply_45 : decode bMeanings_apply 45 = .ok (.invokevirtual 106, 3) := by decide +kernel
theorem dMeanings_apply_48 : decode bMeanings_apply 48 = .ok (.ireturn, 1) := by decide +kernel
theorem dMeanings_apply_49 : decode bMeanings_apply 49 = .ok (.aload_n 0, 1) := by decide +kernel
theorem dMeanings_apply_50 : decode bMeanings_apply 50 = .ok (.iload_n 1, 1) := by decide +kernel
theorem dMeanings_apply_51 : decode bMeanings_apply 51 = .ok (.invokevirtual 110, 3) := by decide +kernel
theorem dMeanings_apply_54 : decode bMeanings_apply 54 = .ok (.istore_n 3, 1) := by decide +kernel
theorem dMeanings_apply_55 : decode bMeanings_apply 55 = .ok (.iload_n 3, 1) := by decide +kernel
theorem dMeanings_apply_56 : decode bMeanings_apply 56 = .ok (.iconst (-1), 1) := by decide +kernel
theorem dMeanings_apply_57 : decode bMeanings_apply 57 = .ok (.if_icmp .eq 11, 3) := by decide +kernel
theorem dMeanings_apply_60 : decode bMeanings_apply 60 = .ok (.aload_n 0, 1) := by decide +kernel
theorem dMeanings_apply_61 : decode bMeanings_apply 61 = .ok (.iload_n 3, 1) := by decide +kernel
theorem dMeanings_apply_62 : decode bMeanings_apply 62 = .ok (.invokevirtual 113, 3) := by decide +kernel
theorem dMeanings_apply_65 : decode bMeanings_apply 65 = .ok (.ifCond .ne 5, 3) := by decide +kernel
theorem dMeanings_apply_68 : decode bMeanings_apply 68 = .ok (.iconst 2, 1) := by decide +kernel
theorem dMeanings_apply_69 : decode bMeanings_apply 69 = .ok (.ireturn, 1) := by decide +kernel
theorem dMeanings_apply_70 : decode bMeanings_apply 70 = .ok (.aload_n 0, 1) := by decide +kernel
theorem dMeanings_apply_71 : decode bMeanings_apply 71 = .ok (.getfield 9, 3) := by decide +kernel
theorem dMeanings_apply_74 : decode bMeanings_apply 74 = .ok (.iload_n 1, 1) := by decide +kernel
theorem dMeanings_apply_75 : decode bMeanings_apply 75 = .ok (.invokevirtual 31, 3) := by decide +kernel
theorem dMeanings_apply_78 : decode bMeanings_apply 78 = .ok (.iconst 1, 1) := by decide +kernel
theorem dMeanings_apply_79 : decode bMeanings_apply 79 = .ok (.if_icmp .ne 15, 3) := by decide +kernel
theorem dMeanings_apply_82 : decode bMeanings_apply 82 = .ok (.aload_n 0, 1) := by decide +kernel
theorem dMeanings_apply_83 : decode bMeanings_apply 83 = .ok (.iload_n 1, 1) := by decide +kernel
theorem dMeanings_apply_84 : decode bMeanings_apply 84 = .ok (.iload_n 3, 1) := by decide +kernel
theorem dMeanings_apply_85 : decode bMeanings_apply 85 = .ok (.iload_n 1, 1) := by decide +kernel
theorem dMeanings_apply_86 : decode bMeanings_apply 86 = .ok (.iconst 1, 1) := by decide +kernel
theorem dMeanings_apply_87 : decode bMeanings_apply 87 = .ok (.isub, 1) := by decide +kernel
theorem dMeanings_apply_88 : decode bMeanings_apply 88 = .ok (.invokevirtual 116, 3) := by decide +kernel
theorem dMeanings_apply_91 : decode bMeanings_apply 91 = .ok (.goto 5, 3) := by decide +kernel
theorem dMeanings_apply_94 : decode bMeanings_apply 94 = .ok (.bipush 11, 2) := by decide +kernel
theorem dMeanings_apply_96 : decode bMeanings_apply 96 = .ok (.ireturn, 1) := by decide +kernel
theorem dMeanings_element_0 : decode bMeanings_element 0 = .ok (.aload_n 0, 1) := by decide +kernel
theorem dMeanings_element_1 : decode bMeanings_element 1 = .ok (.getfield 27, 3) := by decide +kernel
theorem dMeanings_element_4 : decode bMeanings_element 4 = .ok (.iload_n 3, 1) := by decide +kernel
theorem dMeanings_element_5 : decode bMeanings_element 5 = .ok (.invokevirtual 120, 3) := by decide +kernel
theorem dMeanings_element_8 : decode bMeanings_element 8 = .ok (.iconst 2, 1) := by decide +kernel
theorem dMeanings_element_9 : decode bMeanings_element 9 = .ok (.if_icmp .eq 5, 3) := by decide +kernel
theorem dMeanings_element_12 : decode bMeanings_element 12 = .ok (.iconst 3, 1) := by decide +kernel
theorem dMeanings_element_13 : decode bMeanings_element 13 = .ok (.ireturn, 1) := by decide +kernel
theorem dMeanings_element_14 : decode bMeanings_element 14 = .ok (.aload_n 0, 1) := by decide +kernel
theorem dMeanings_element_15 : decode bMeanings_element 15 = .ok (.getfield 27, 3) := by decide +kernel
theorem dMeanings_element_18 : decode bMeanings_element 18 = .ok (.iload_n 1, 1) := by decide +kernel
theorem dMeanings_element_19 : decode bMeanings_element 19 = .ok (.iconst 0, 1) := by decide +kernel
theorem dMeanings_element_20 : decode bMeanings_element 20 = .ok (.iconst 0, 1) := by decide +kernel
theorem dMeanings_element_21 : decode bMeanings_element 21 = .ok (.aload_n 0, 1) := by decide +kernel
theorem dMeanings_element_22 : decode bMeanings_element 22 = .ok (.iload_n 2, 1) := by decide +kernel
theorem dMeanings_element_23 : decode bMeanings_element 23 = .ok (.invokevirtual 75, 3) := by decide +kernel
theorem dMeanings_element_26 : decode bMeanings_element 26 = .ok (.ifCond .eq 18, 3) := by decide +kernel
theorem dMeanings_element_29 : decode bMeanings_element 29 = .ok (.aload_n 0, 1) := by decide +kernel
theorem dMeanings_element_30 : decode bMeanings_element 30 = .ok (.getfield 27, 3) := by decide +kernel
theorem dMeanings_element_33 : decode bMeanings_element 33 = .ok (.iload_n 3, 1) := by decide +kernel
theorem dMeanings_element_34 : decode bMeanings_element 34 = .ok (.invokevirtual 121, 3) := by decide +kernel
theorem dMeanings_element_37 : decode bMeanings_element 37 = .ok (.ifCond .eq 7, 3) := by decide +kernel
theorem dMeanings_element_40 : decode bMeanings_element 40 = .ok (.iconst 1, 1) := by decide +kernel
theorem dMeanings_element_41 : decode bMeanings_element 41 = .ok (.goto 4, 3) := by decide +kernel
theorem dMeanings_element_44 : decode bMeanings_element 44 = .ok (.iconst 0, 1) := by decide +kernel
theorem dMeanings_element_45 : decode bMeanings_element 45 = .ok (.invokevirtual 79, 3) := by decide +kernel
theorem dMeanings_element_48 : decode bMeanings_element 48 = .ok (.aload_n 0, 1) := by decide +kernel
theorem dMeanings_element_49 : decode bMeanings_element 49 = .ok (.getfield 27, 3) := by decide +kernel
theorem dMeanings_element_52 : decode bMeanings_element 52 = .ok (.iload_n 1, 1) := by decide +kernel
theorem dMeanings_element_53 : decode bMeanings_element 53 = .ok (.iload_n 2, 1) := by decide +kernel
theorem dMeanings_element_54 : decode bMeanings_element 54 = .ok (.invokevirtual 85, 3) := by decide +kernel
theorem dMeanings_element_57 : decode bMeanings_element 57 = .ok (.aload_n 0, 1) := by decide +kernel
theorem dMeanings_element_58 : decode bMeanings_element 58 = .ok (.getfield 27, 3) := by decide +kernel
theorem dMeanings_element_61 : decode bMeanings_element 61 = .ok (.iload_n 3, 1) := by decide +kernel
theorem dMeanings_element_62 : decode bMeanings_element 62 = .ok (.invokevirtual 121, 3) := by decide +kernel
theorem dMeanings_element_65 : decode bMeanings_element 65 = .ok (.ifCond .ne 5, 3) := by decide +kernel
theorem dMeanings_element_68 : decode bMeanings_element 68 = .ok (.iconst 0, 1) := by decide +kernel
theorem dMeanings_element_69 : decode bMeanings_element 69 = .ok (.ireturn, 1) := by decide +kernel
theorem dMeanings_element_70 : decode bMeanings_element 70 = .ok (.aload_n 0, 1) := by decide +kernel
theorem dMeanings_element_71 : decode bMeanings_element 71 = .ok (.getfield 19, 3) := by decide +kernel
theorem dMeanings_element_74 : decode bMeanings_element 74 = .ok (.aload_n 0, 1) := by decide +kernel
theorem dMeanings_element_75 : decode bMeanings_element 75 = .ok (.getfield 23, 3) := by decide +kernel
theorem dMeanings_element_78 : decode bMeanings_element 78 = .ok (.iload_n 2, 1) := by decide +kernel
theorem dMeanings_element_79 : decode bMeanings_element 79 = .ok (.invokevirtual 62, 3) := by decide +kernel
theorem dMeanings_element_82 : decode bMeanings_element 82 = .ok (.aload_n 0, 1) := by decide +kernel
theorem dMeanings_element_83 : decode bMeanings_element 83 = .ok (.getfield 27, 3) := by decide +kernel
theorem dMeanings_element_86 : decode bMeanings_element 86 = .ok (.iload_n 3, 1) := by decide +kernel
theorem dMeanings_element_87 : decode bMeanings_element 87 = .ok (.invokevirtual 124, 3) := by decide +kernel
theorem dMeanings_element_90 : decode bMeanings_element 90 = .ok (.invokevirtual 125, 3) := by decide +kernel
theorem dMeanings_element_93 : decode bMeanings_element 93 = .ok (.istore 4, 2) := by decide +kernel
theorem dMeanings_element_95 : decode bMeanings_element 95 = .ok (.iload 4, 2) := by decide +kernel
theorem dMeanings_element_97 : decode bMeanings_element 97 = .ok (.iconst (-1), 1) := by decide +kernel
theorem dMeanings_element_98 : decode bMeanings_element 98 = .ok (.if_icmp .ne 6, 3) := by decide +kernel
theorem dMeanings_element_101 : decode bMeanings_element 101 = .ok (.bipush 6, 2) := by decide +kernel
theorem dMeanings_element_103 : decode bMeanings_element 103 = .ok (.ireturn, 1) := by decide +kernel
theorem dMeanings_element_104 : decode bMeanings_element 104 = .ok (.aload_n 0, 1) := by decide +kernel
theorem dMeanings_element_105 : decode bMeanings_element 105 = .ok (.getfield 27, 3) := by decide +kernel
theorem dMeanings_element_108 : decode bMeanings_element 108 = .ok (.iload_n 1, 1) := by decide +kernel
theorem dMeanings_element_109 : decode bMeanings_element 109 = .ok (.aload_n 0, 1) := by decide +kernel
theorem dMeanings_element_110 : decode bMeanings_element 110 = .ok (.getfield 23, 3) := by decide +kernel
theorem dMeanings_element_113 : decode bMeanings_element 113 = .ok (.getfield 96, 3) := by decide +kernel
theorem dMeanings_element_116 : decode bMeanings_element 116 = .ok (.iload_n 2, 1) := by decide +kernel
theorem dMeanings_element_117 : decode bMeanings_element 117 = .ok (.iload 4, 2) := by decide +kernel
theorem dMeanings_element_119 : decode bMeanings_element 119 = .ok (.invokevirtual 128, 3) := by decide +kernel
theorem dMeanings_element_122 : decode bMeanings_element 122 = .ok (.invokevirtual 89, 3) := by decide +kernel
theorem dMeanings_element_125 : decode bMeanings_element 125 = .ok (.iconst 0, 1) := by decide +kernel
theorem dMeanings_element_126 : decode bMeanings_element 126 = .ok (.ireturn, 1) := by decide +kernel
theorem dMeanings_applyFunction_0 : decode bMeanings_applyFunction 0 = .ok (.aload_n 0, 1) := by decide +kernel
theorem dMeanings_applyFunction_1 : decode bMeanings_applyFunction 1 = .ok (.getfield 27, 3) := by decide +kernel
theorem dMeanings_applyFunction_4 : decode bMeanings_applyFunction 4 = .ok (.iload_n 1, 1) := by decide +kernel
theorem dMeanings_applyFunction_5 : decode bMeanings_applyFunction 5 = .ok (.sipush 3000, 3) := by decide +kernel
theorem dMeanings_applyFunction_8 : decode bMeanings_applyFunction 8 = .ok (.invokevirtual 85, 3) := by decide +kernel
theorem dMeanings_applyFunction_11 : decode bMeanings_applyFunction 11 = .ok (.aload_n 0, 1) := by decide +kernel
theorem dMeanings_applyFunction_12 : decode bMeanings_applyFunction 12 = .ok (.getfield 9, 3) := by decide +kernel
theorem dMeanings_applyFunction_15 : decode bMeanings_applyFunction 15 = .ok (.iload_n 1, 1) := by decide +kernel
theorem dMeanings_applyFunction_16 : decode bMeanings_applyFunction 16 = .ok (.invokevirtual 31, 3) := by decide +kernel
theorem dMeanings_applyFunction_19 : decode bMeanings_applyFunction 19 = .ok (.iload_n 2, 1) := by decide +kernel
theorem dMeanings_applyFunction_20 : decode bMeanings_applyFunction 20 = .ok (.bipush 11, 2) := by decide +kernel
theorem dMeanings_applyFunction_22 : decode bMeanings_applyFunction 22 = .ok (.if_icmp .ne 7, 3) := by decide +kernel
theorem dMeanings_applyFunction_25 : decode bMeanings_applyFunction 25 = .ok (.iconst 2, 1) := by decide +kernel
theorem dMeanings_applyFunction_26 : decode bMeanings_applyFunction 26 = .ok (.goto 4, 3) := by decide +kernel
theorem dMeanings_applyFunction_29 : decode bMeanings_applyFunction 29 = .ok (.iconst 1, 1) := by decide +kernel
theorem dMeanings_applyFunction_30 : decode bMeanings_applyFunction 30 = .ok (.if_icmp .eq 6, 3) := by decide +kernel
theorem dMeanings_applyFunction_33 : decode bMeanings_applyFunction 33 = .ok (.bipush 11, 2) := by decide +kernel
theorem dMeanings_applyFunction_35 : decode bMeanings_applyFunction 35 = .ok (.ireturn, 1) := by decide +kernel
theorem dMeanings_applyFunction_36 : decode bMeanings_applyFunction 36 = .ok (.iload_n 2, 1) := by decide +kernel
theorem dMeanings_applyFunction_37 : decode bMeanings_applyFunction 37 = .ok (.lookupswitch 53 #[(10, 27), (11, 36)], 27) := by decide +kernel
theorem dMeanings_applyFunction_64 : decode bMeanings_applyFunction 64 = .ok (.aload_n 0, 1) := by decide +kernel
theorem dMeanings_applyFunction_65 : decode bMeanings_applyFunction 65 = .ok (.iload_n 1, 1) := by decide +kernel
theorem dMeanings_applyFunction_66 : decode bMeanings_applyFunction 66 = .ok (.iload_n 1, 1) := by decide +kernel
theorem dMeanings_applyFunction_67 : decode bMeanings_applyFunction 67 = .ok (.iconst 1, 1) := by decide +kernel
theorem dMeanings_applyFunction_68 : decode bMeanings_applyFunction 68 = .ok (.isub, 1) := by decide +kernel
theorem dMeanings_applyFunction_69 : decode bMeanings_applyFunction 69 = .ok (.invokevirtual 131, 3) := by decide +kernel
theorem dMeanings_applyFunction_72 : decode bMeanings_applyFunction 72 = .ok (.ireturn, 1) := by decide +kernel
theorem dMeanings_applyFunction_73 : decode bMeanings_applyFunction 73 = .ok (.aload_n 0, 1) := by decide +kernel
theorem dMeanings_applyFunction_74 : decode bMeanings_applyFunction 74 = .ok (.iload_n 1, 1) := by decide +kernel
theorem dMeanings_applyFunction_75 : decode bMeanings_applyFunction 75 = .ok (.aload_n 0, 1) := by decide +kernel
theorem dMeanings_applyFunction_76 : decode bMeanings_applyFunction 76 = .ok (.getfield 9, 3) := by decide +kernel
theorem dMeanings_applyFunction_79 : decode bMeanings_applyFunction 79 = .ok (.iload_n 1, 1) := by decide +kernel
theorem dMeanings_applyFunction_80 : decode bMeanings_applyFunction 80 = .ok (.invokevirtual 134, 3) := by decide +kernel
theorem dMeanings_applyFunction_83 : decode bMeanings_applyFunction 83 = .ok (.iload_n 1, 1) := by decide +kernel
theorem dMeanings_applyFunction_84 : decode bMeanings_applyFunction 84 = .ok (.iconst 1, 1) := by decide +kernel
theorem dMeanings_applyFunction_85 : decode bMeanings_applyFunction 85 = .ok (.isub, 1) := by decide +kernel
theorem dMeanings_applyFunction_86 : decode bMeanings_applyFunction 86 = .ok (.invokevirtual 137, 3) := by decide +kernel
theorem dMeanings_applyFunction_89 : decode bMeanings_applyFunction 89 = .ok (.ireturn, 1) := by decide +kernel
theorem dMeanings_applyFunction_90 : decode bMeanings_applyFunction 90 = .ok (.aload_n 0, 1) := by decide +kernel
theorem dMeanings_applyFunction_91 : decode bMeanings_applyFunction 91 = .ok (.iload_n 1, 1) := by decide +kernel
theorem dMeanings_applyFunction_92 : decode bMeanings_applyFunction 92 = .ok (.iload_n 1, 1) := by decide +kernel
theorem dMeanings_applyFunction_93 : decode bMeanings_applyFunction 93 = .ok (.iconst 1, 1) := by decide +kernel
theorem dMeanings_applyFunction_94 : decode bMeanings_applyFunction 94 = .ok (.isub, 1) := by decide +kernel
theorem dMeanings_applyFunction_95 : decode bMeanings_applyFunction 95 = .ok (.invokevirtual 140, 3) := by decide +kernel
theorem dMeanings_applyFunction_98 : decode bMeanings_applyFunction 98 = .ok (.ireturn, 1) := by decide +kernel
theorem dMeanings_edge_0 : decode bMeanings_edge 0 = .ok (.aload_n 0, 1) := by decide +kernel
theorem dMeanings_edge_1 : decode bMeanings_edge 1 = .ok (.getfield 9, 3) := by decide +kernel
theorem dMeanings_edge_4 : decode bMeanings_edge 4 = .ok (.iload_n 2, 1) := by decide +kernel
theorem dMeanings_edge_5 : decode bMeanings_edge 5 = .ok (.invokevirtual 143, 3) := by decide +kernel
theorem dMeanings_edge_8 : decode bMeanings_edge 8 = .ok (.iconst 1, 1) := by decide +kernel
theorem dMeanings_edge_9 : decode bMeanings_edge 9 = .ok (.if_icmp .eq 6, 3) := by decide +kernel
theorem dMeanings_edge_12 : decode bMeanings_edge 12 = .ok (.bipush 11, 2) := by decide +kernel
theorem dMeanings_edge_14 : decode bMeanings_edge 14 = .ok (.ireturn, 1) := by decide +kernel
theorem dMeanings_edge_15 : decode bMeanings_edge 15 = .ok (.aload_n 0, 1) := by decide +kernel
theorem dMeanings_edge_16 : decode bMeanings_edge 16 = .ok (.getfield 23, 3) := by decide +kernel
theorem dMeanings_edge_19 : decode bMeanings_edge 19 = .ok (.aload_n 0, 1) := by decide +kernel
theorem dMeanings_edge_20 : decode bMeanings_edge 20 = .ok (.getfield 27, 3) := by decide +kernel
theorem dMeanings_edge_23 : decode bMeanings_edge 23 = .ok (.iload_n 2, 1) := by decide +kernel
theorem dMeanings_edge_24 : decode bMeanings_edge 24 = .ok (.invokevirtual 146, 3) := by decide +kernel
theorem dMeanings_edge_27 : decode bMeanings_edge 27 = .ok (.invokevirtual 103, 3) := by decide +kernel
theorem dMeanings_edge_30 : decode bMeanings_edge 30 = .ok (.iconst 1, 1) := by decide +kernel
theorem dMeanings_edge_31 : decode bMeanings_edge 31 = .ok (.if_icmp .eq 5, 3) := by decide +kernel
theorem dMeanings_edge_34 : decode bMeanings_edge 34 = .ok (.iconst 2, 1) := by decide +kernel
theorem dMeanings_edge_35 : decode bMeanings_edge 35 = .ok (.ireturn, 1) := by decide +kernel
theorem dMeanings_edge_36 : decode bMeanings_edge 36 = .ok (.aload_n 0, 1) := by decide +kernel
theorem dMeanings_edge_37 : decode bMeanings_edge 37 = .ok (.getfield 27, 3) := by decide +kernel
theorem dMeanings_edge_40 : decode bMeanings_edge 40 = .ok (.iload_n 2, 1) := by decide +kernel
theorem dMeanings_edge_41 : decode bMeanings_edge 41 = .ok (.invokevirtual 120, 3) := by decide +kernel
theorem dMeanings_edge_44 : decode bMeanings_edge 44 = .ok (.ifCond .eq 5, 3) := by decide +kernel
theorem dMeanings_edge_47 : decode bMeanings_edge 47 = .ok (.iconst 3, 1) := by decide +kernel
theorem dMeanings_edge_48 : decode bMeanings_edge 48 = .ok (.ireturn, 1) := by decide +kernel
theorem dMeanings_edge_49 : decode bMeanings_edge 49 = .ok (.aload_n 0, 1) := by decide +kernel
theorem dMeanings_edge_50 : decode bMeanings_edge 50 = .ok (.getfield 27, 3) := by decide +kernel
theorem dMeanings_edge_53 : decode bMeanings_edge 53 = .ok (.iload_n 1, 1) := by decide +kernel
theorem dMeanings_edge_54 : decode bMeanings_edge 54 = .ok (.iconst 1, 1) := by decide +kernel
theorem dMeanings_edge_55 : decode bMeanings_edge 55 = .ok (.iconst 0, 1) := by decide +kernel
theorem dMeanings_edge_56 : decode bMeanings_edge 56 = .ok (.iconst 0, 1) := by decide +kernel
theorem dMeanings_edge_57 : decode bMeanings_edge 57 = .ok (.invokevirtual 79, 3) := by decide +kernel
theorem dMeanings_edge_60 : decode bMeanings_edge 60 = .ok (.iconst 0, 1) := by decide +kernel
theorem dMeanings_edge_61 : decode bMeanings_edge 61 = .ok (.ireturn, 1) := by decide +kernel
theorem dMeanings_numberOfRow_0 : decode bMeanings_numberOfRow 0 = .ok (.aload_n 0, 1) := by decide +kernel
theorem dMeanings_numberOfRow_1 : decode bMeanings_numberOfRow 1 = .ok (.getfield 27, 3) := by decide +kernel
theorem dMeanings_numberOfRow_4 : decode bMeanings_numberOfRow 4 = .ok (.iload_n 2, 1) := by decide +kernel
theorem dMeanings_numberOfRow_5 : decode bMeanings_numberOfRow 5 = .ok (.invokevirtual 120, 3) := by decide +kernel
theorem dMeanings_numberOfRow_8 : decode bMeanings_numberOfRow 8 = .ok (.iconst 3, 1) := by decide +kernel
theorem dMeanings_numberOfRow_9 : decode bMeanings_numberOfRow 9 = .ok (.if_icmp .eq 5, 3) := by decide +kernel
theorem dMeanings_numberOfRow_12 : decode bMeanings_numberOfRow 12 = .ok (.iconst 3, 1) := by decide +kernel
theorem dMeanings_numberOfRow_13 : decode bMeanings_numberOfRow 13 = .ok (.ireturn, 1) := by decide +kernel
theorem dMeanings_numberOfRow_14 : decode bMeanings_numberOfRow 14 = .ok (.aload_n 0, 1) := by decide +kernel
theorem dMeanings_numberOfRow_15 : decode bMeanings_numberOfRow 15 = .ok (.getfield 27, 3) := by decide +kernel
theorem dMeanings_numberOfRow_18 : decode bMeanings_numberOfRow 18 = .ok (.iload_n 1, 1) := by decide +kernel
theorem dMeanings_numberOfRow_19 : decode bMeanings_numberOfRow 19 = .ok (.iconst 2, 1) := by decide +kernel
theorem dMeanings_numberOfRow_20 : decode bMeanings_numberOfRow 20 = .ok (.iconst 0, 1) := by decide +kernel
theorem dMeanings_numberOfRow_21 : decode bMeanings_numberOfRow 21 = .ok (.aload_n 0, 1) := by decide +kernel
theorem dMeanings_numberOfRow_22 : decode bMeanings_numberOfRow 22 = .ok (.getfield 27, 3) := by decide +kernel
theorem dMeanings_numberOfRow_25 : decode bMeanings_numberOfRow 25 = .ok (.iload_n 2, 1) := by decide +kernel
theorem dMeanings_numberOfRow_26 : decode bMeanings_numberOfRow 26 = .ok (.invokevirtual 121, 3) := by decide +kernel
theorem dMeanings_numberOfRow_29 : decode bMeanings_numberOfRow 29 = .ok (.invokevirtual 79, 3) := by decide +kernel
theorem dMeanings_numberOfRow_32 : decode bMeanings_numberOfRow 32 = .ok (.aload_n 0, 1) := by decide +kernel
theorem dMeanings_numberOfRow_33 : decode bMeanings_numberOfRow 33 = .ok (.getfield 27, 3) := by decide +kernel
theorem dMeanings_numberOfRow_36 : decode bMeanings_numberOfRow 36 = .ok (.iload_n 2, 1) := by decide +kernel
theorem dMeanings_numberOfRow_37 : decode bMeanings_numberOfRow 37 = .ok (.invokevirtual 121, 3) := by decide +kernel
theorem dMeanings_numberOfRow_40 : decode bMeanings_numberOfRow 40 = .ok (.ifCond .ne 5, 3) := by decide +kernel
theorem dMeanings_numberOfRow_43 : decode bMeanings_numberOfRow 43 = .ok (.iconst 0, 1) := by decide +kernel
theorem dMeanings_numberOfRow_44 : decode bMeanings_numberOfRow 44 = .ok (.ireturn, 1) := by decide +kernel
theorem dMeanings_numberOfRow_45 : decode bMeanings_numberOfRow 45 = .ok (.aload_n 0, 1) := by decide +kernel
theorem dMeanings_numberOfRow_46 : decode bMeanings_numberOfRow 46 = .ok (.getfield 27, 3) := by decide +kernel
theorem dMeanings_numberOfRow_49 : decode bMeanings_numberOfRow 49 = .ok (.iload_n 2, 1) := by decide +kernel
theorem dMeanings_numberOfRow_50 : decode bMeanings_numberOfRow 50 = .ok (.invokevirtual 149, 3) := by decide +kernel
theorem dMeanings_numberOfRow_53 : decode bMeanings_numberOfRow 53 = .ok (.istore_n 3, 1) := by decide +kernel
theorem dMeanings_numberOfRow_54 : decode bMeanings_numberOfRow 54 = .ok (.aload_n 0, 1) := by decide +kernel
theorem dMeanings_numberOfRow_55 : decode bMeanings_numberOfRow 55 = .ok (.getfield 27, 3) := by decide +kernel
theorem dMeanings_numberOfRow_58 : decode bMeanings_numberOfRow 58 = .ok (.getfield 92, 3) := by decide +kernel
theorem dMeanings_numberOfRow_61 : decode bMeanings_numberOfRow 61 = .ok (.iload_n 2, 1) := by decide +kernel
theorem dMeanings_numberOfRow_62 : decode bMeanings_numberOfRow 62 = .ok (.iload_n 3, 1) := by decide +kernel
theorem dMeanings_numberOfRow_63 : decode bMeanings_numberOfRow 63 = .ok (.invokevirtual 150, 3) := by decide +kernel
theorem dMeanings_numberOfRow_66 : decode bMeanings_numberOfRow 66 = .ok (.lstore 4, 2) := by decide +kernel
theorem dMeanings_numberOfRow_68 : decode bMeanings_numberOfRow 68 = .ok (.aload_n 0, 1) := by decide +kernel
theorem dMeanings_numberOfRow_69 : decode bMeanings_numberOfRow 69 = .ok (.getfield 27, 3) := by decide +kernel
theorem dMeanings_numberOfRow_72 : decode bMeanings_numberOfRow 72 = .ok (.getfield 92, 3) := by decide +kernel
theorem dMeanings_numberOfRow_75 : decode bMeanings_numberOfRow 75 = .ok (.iload_n 2, 1) := by decide +kernel
theorem dMeanings_numberOfRow_76 : decode bMeanings_numberOfRow 76 = .ok (.iload_n 3, 1) := by decide +kernel
theorem dMeanings_numberOfRow_77 : decode bMeanings_numberOfRow 77 = .ok (.invokevirtual 154, 3) := by decide +kernel
theorem dMeanings_numberOfRow_80 : decode bMeanings_numberOfRow 80 = .ok (.ifCond .eq 19, 3) := by decide +kernel
theorem dMeanings_numberOfRow_83 : decode bMeanings_numberOfRow 83 = .ok (.lload 4, 2) := by decide +kernel
theorem dMeanings_numberOfRow_85 : decode bMeanings_numberOfRow 85 = .ok (.lconst 0, 1) := by decide +kernel
theorem dMeanings_numberOfRow_86 : decode bMeanings_numberOfRow 86 = .ok (.lcmp, 1) := by decide +kernel
theorem dMeanings_numberOfRow_87 : decode bMeanings_numberOfRow 87 = .ok (.ifCond .lt 12, 3) := by decide +kernel
theorem dMeanings_numberOfRow_90 : decode bMeanings_numberOfRow 90 = .ok (.lload 4, 2) := by decide +kernel
theorem dMeanings_numberOfRow_92 : decode bMeanings_numberOfRow 92 = .ok (.ldc2_w 158, 3) := by decide +kernel
theorem dMeanings_numberOfRow_95 : decode bMeanings_numberOfRow 95 = .ok (.lcmp, 1) := by decide +kernel
theorem dMeanings_numberOfRow_96 : decode bMeanings_numberOfRow 96 = .ok (.ifCond .le 6, 3) := by decide +kernel
theorem dMeanings_numberOfRow_99 : decode bMeanings_numberOfRow 99 = .ok (.bipush 9, 2) := by decide +kernel
theorem dMeanings_numberOfRow_101 : decode bMeanings_numberOfRow 101 = .ok (.ireturn, 1) := by decide +kernel
theorem dMeanings_numberOfRow_102 : decode bMeanings_numberOfRow 102 = .ok (.aload_n 0, 1) := by decide +kernel
theorem dMeanings_numberOfRow_103 : decode bMeanings_numberOfRow 103 = .ok (.getfield 27, 3) := by decide +kernel
theorem dMeanings_numberOfRow_106 : decode bMeanings_numberOfRow 106 = .ok (.iload_n 1, 1) := by decide +kernel
theorem dMeanings_numberOfRow_107 : decode bMeanings_numberOfRow 107 = .ok (.lload 4, 2) := by decide +kernel
theorem dMeanings_numberOfRow_109 : decode bMeanings_numberOfRow 109 = .ok (.l2i, 1) := by decide +kernel
theorem dMeanings_numberOfRow_110 : decode bMeanings_numberOfRow 110 = .ok (.invokevirtual 89, 3) := by decide +kernel
theorem dMeanings_numberOfRow_113 : decode bMeanings_numberOfRow 113 = .ok (.iconst 0, 1) := by decide +kernel
theorem dMeanings_numberOfRow_114 : decode bMeanings_numberOfRow 114 = .ok (.ireturn, 1) := by decide +kernel
theorem dMeanings_bits_0 : decode bMeanings_bits 0 = .ok (.aload_n 0, 1) := by decide +kernel
theorem dMeanings_bits_1 : decode bMeanings_bits 1 = .ok (.getfield 27, 3) := by decide +kernel
theorem dMeanings_bits_4 : decode bMeanings_bits 4 = .ok (.iload_n 2, 1) := by decide +kernel
theorem dMeanings_bits_5 : decode bMeanings_bits 5 = .ok (.invokevirtual 120, 3) := by decide +kernel
theorem dMeanings_bits_8 : decode bMeanings_bits 8 = .ok (.iconst 2, 1) := by decide +kernel
theorem dMeanings_bits_9 : decode bMeanings_bits 9 = .ok (.if_icmp .ne 26, 3) := by decide +kernel
theorem dMeanings_bits_12 : decode bMeanings_bits 12 = .ok (.aload_n 0, 1) := by decide +kernel
theorem dMeanings_bits_13 : decode bMeanings_bits 13 = .ok (.getfield 27, 3) := by decide +kernel
theorem dMeanings_bits_16 : decode bMeanings_bits 16 = .ok (.iload_n 3, 1) := by decide +kernel
theorem dMeanings_bits_17 : decode bMeanings_bits 17 = .ok (.invokevirtual 120, 3) := by decide +kernel
theorem dMeanings_bits_20 : decode bMeanings_bits 20 = .ok (.iconst 2, 1) := by decide +kernel
theorem dMeanings_bits_21 : decode bMeanings_bits 21 = .ok (.if_icmp .ne 14, 3) := by decide +kernel
theorem dMeanings_bits_24 : decode bMeanings_bits 24 = .ok (.aload_n 0, 1) := by decide +kernel
theorem dMeanings_bits_25 : decode bMeanings_bits 25 = .ok (.getfield 27, 3) := by decide +kernel
theorem dMeanings_bits_28 : decode bMeanings_bits 28 = .ok (.iload_n 3, 1) := by decide +kernel
theorem dMeanings_bits_29 : decode bMeanings_bits 29 = .ok (.invokevirtual 121, 3) := by decide +kernel
theorem dMeanings_bits_32 : decode bMeanings_bits 32 = .ok (.ifCond .ne 5, 3) := by decide +kernel
theorem dMeanings_bits_35 : decode bMeanings_bits 35 = .ok (.iconst 3, 1) := by decide +kernel
theorem dMeanings_bits_36 : decode bMeanings_bits 36 = .ok (.ireturn, 1) := by decide +kernel
theorem dMeanings_bits_37 : decode bMeanings_bits 37 = .ok (.aload_n 0, 1) := by decide +kernel
theorem dMeanings_bits_38 : decode bMeanings_bits 38 = .ok (.getfield 27, 3) := by decide +kernel
theorem dMeanings_bits_41 : decode bMeanings_bits 41 = .ok (.iload_n 3, 1) := by decide +kernel
theorem dMeanings_bits_42 : decode bMeanings_bits 42 = .ok (.invokevirtual 124, 3) := by decide +kernel
theorem dMeanings_bits_45 : decode bMeanings_bits 45 = .ok (.istore 4, 2) := by decide +kernel
theorem dMeanings_bits_47 : decode bMeanings_bits 47 = .ok (.iload 4, 2) := by decide +kernel
theorem dMeanings_bits_49 : decode bMeanings_bits 49 = .ok (.iconst 1, 1) := by decide +kernel
theorem dMeanings_bits_50 : decode bMeanings_bits 50 = .ok (.if_icmp .lt 14, 3) := by decide +kernel
theorem dMeanings_bits_53 : decode bMeanings_bits 53 = .ok (.iload 4, 2) := by decide +kernel
theorem dMeanings_bits_55 : decode bMeanings_bits 55 = .ok (.bipush 64, 2) := by decide +kernel
theorem dMeanings_bits_57 : decode bMeanings_bits 57 = .ok (.if_icmp .gt 7, 3) := by decide +kernel
theorem dMeanings_bits_60 : decode bMeanings_bits 60 = .ok (.iconst 1, 1) := by decide +kernel
theorem dMeanings_bits_61 : decode bMeanings_bits 61 = .ok (.goto 4, 3) := by decide +kernel
theorem dMeanings_bits_64 : decode bMeanings_bits 64 = .ok (.iconst 0, 1) := by decide +kernel
theorem dMeanings_bits_65 : decode bMeanings_bits 65 = .ok (.istore 5, 2) := by decide +kernel
theorem dMeanings_bits_67 : decode bMeanings_bits 67 = .ok (.aload_n 0, 1) := by decide +kernel
theorem dMeanings_bits_68 : decode bMeanings_bits 68 = .ok (.getfield 27, 3) := by decide +kernel
theorem dMeanings_bits_71 : decode bMeanings_bits 71 = .ok (.iload_n 1, 1) := by decide +kernel
theorem dMeanings_bits_72 : decode bMeanings_bits 72 = .ok (.iconst 3, 1) := by decide +kernel
theorem dMeanings_bits_73 : decode bMeanings_bits 73 = .ok (.iload 5, 2) := by decide +kernel
theorem dMeanings_bits_75 : decode bMeanings_bits 75 = .ok (.ifCond .eq 8, 3) := by decide +kernel
theorem dMeanings_bits_78 : decode bMeanings_bits 78 = .ok (.iload 4, 2) := by decide +kernel
theorem dMeanings_bits_80 : decode bMeanings_bits 80 = .ok (.goto 4, 3) := by decide +kernel
theorem dMeanings_bits_83 : decode bMeanings_bits 83 = .ok (.iconst 0, 1) := by decide +kernel
theorem dMeanings_bits_84 : decode bMeanings_bits 84 = .ok (.aload_n 0, 1) := by decide +kernel
theorem dMeanings_bits_85 : decode bMeanings_bits 85 = .ok (.getfield 27, 3) := by decide +kernel
theorem dMeanings_bits_88 : decode bMeanings_bits 88 = .ok (.iload_n 2, 1) := by decide +kernel
theorem dMeanings_bits_89 : decode bMeanings_bits 89 = .ok (.invokevirtual 121, 3) := by decide +kernel
theorem dMeanings_bits_92 : decode bMeanings_bits 92 = .ok (.invokevirtual 79, 3) := by decide +kernel
theorem dMeanings_bits_95 : decode bMeanings_bits 95 = .ok (.iload 5, 2) := by decide +kernel
theorem dMeanings_bits_97 : decode bMeanings_bits 97 = .ok (.ifCond .ne 5, 3) := by decide +kernel
theorem dMeanings_bits_100 : decode bMeanings_bits 100 = .ok (.iconst 4, 1) := by decide +kernel
theorem dMeanings_bits_101 : decode bMeanings_bits 101 = .ok (.ireturn, 1) := by decide +kernel
theorem dMeanings_bits_102 : decode bMeanings_bits 102 = .ok (.aload_n 0, 1) := by decide +kernel
theorem dMeanings_bits_103 : decode bMeanings_bits 103 = .ok (.getfield 27, 3) := by decide +kernel
theorem dMeanings_bits_106 : decode bMeanings_bits 106 = .ok (.iload_n 2, 1) := by decide +kernel
theorem dMeanings_bits_107 : decode bMeanings_bits 107 = .ok (.invokevirtual 121, 3) := by decide +kernel
theorem dMeanings_bits_110 : decode bMeanings_bits 110 = .ok (.ifCond .eq 25, 3) := by decide +kernel
theorem dMeanings_bits_113 : decode bMeanings_bits 113 = .ok (.aload_n 0, 1) := by decide +kernel
theorem dMeanings_bits_114 : decode bMeanings_bits 114 = .ok (.getfield 27, 3) := by decide +kernel
theorem dMeanings_bits_117 : decode bMeanings_bits 117 = .ok (.getfield 92, 3) := by decide +kernel
theorem dMeanings_bits_120 : decode bMeanings_bits 120 = .ok (.iload_n 1, 1) := by decide +kernel
theorem dMeanings_bits_121 : decode bMeanings_bits 121 = .ok (.iload 4, 2) := by decide +kernel
theorem dMeanings_bits_123 : decode bMeanings_bits 123 = .ok (.aload_n 0, 1) := by decide +kernel
theorem dMeanings_bits_124 : decode bMeanings_bits 124 = .ok (.getfield 27, 3) := by decide +kernel
theorem dMeanings_bits_127 : decode bMeanings_bits 127 = .ok (.iload_n 2, 1) := by decide +kernel
theorem dMeanings_bits_128 : decode bMeanings_bits 128 = .ok (.invokevirtual 124, 3) := by decide +kernel
theorem dMeanings_bits_131 : decode bMeanings_bits 131 = .ok (.i2l, 1) := by decide +kernel
theorem dMeanings_bits_132 : decode bMeanings_bits 132 = .ok (.invokevirtual 160, 3) := by decide +kernel
theorem dMeanings_bits_135 : decode bMeanings_bits 135 = .ok (.iconst 0, 1) := by decide +kernel
theorem dMeanings_bits_136 : decode bMeanings_bits 136 = .ok (.ireturn, 1) := by decide +kernel
theorem dMeanings_slice_0 : decode bMeanings_slice 0 = .ok (.aload_n 0, 1) := by decide +kernel
theorem dMeanings_slice_1 : decode bMeanings_slice 1 = .ok (.getfield 9, 3) := by decide +kernel
theorem dMeanings_slice_4 : decode bMeanings_slice 4 = .ok (.iload_n 1, 1) := by decide +kernel
theorem dMeanings_slice_5 : decode bMeanings_slice 5 = .ok (.invokevirtual 31, 3) := by decide +kernel
theorem dMeanings_slice_8 : decode bMeanings_slice 8 = .ok (.iconst 2, 1) := by decide +kernel
theorem dMeanings_slice_9 : decode bMeanings_slice 9 = .ok (.if_icmp .eq 6, 3) := by decide +kernel
theorem dMeanings_slice_12 : decode bMeanings_slice 12 = .ok (.bipush 11, 2) := by decide +kernel
theorem dMeanings_slice_14 : decode bMeanings_slice 14 = .ok (.ireturn, 1) := by decide +kernel
theorem dMeanings_slice_15 : decode bMeanings_slice 15 = .ok (.aload_n 0, 1) := by decide +kernel
theorem dMeanings_slice_16 : decode bMeanings_slice 16 = .ok (.iload_n 1, 1) := by decide +kernel
theorem dMeanings_slice_17 : decode bMeanings_slice 17 = .ok (.invokevirtual 164, 3) := by decide +kernel
theorem dMeanings_slice_20 : decode bMeanings_slice 20 = .ok (.ifCond .eq 5, 3) := by decide +kernel
theorem dMeanings_slice_23 : decode bMeanings_slice 23 = .ok (.iconst 1, 1) := by decide +kernel
theorem dMeanings_slice_24 : decode bMeanings_slice 24 = .ok (.ireturn, 1) := by decide +kernel
theorem dMeanings_slice_25 : decode bMeanings_slice 25 = .ok (.aload_n 0, 1) := by decide +kernel
theorem dMeanings_slice_26 : decode bMeanings_slice 26 = .ok (.iload_n 1, 1) := by decide +kernel
theorem dMeanings_slice_27 : decode bMeanings_slice 27 = .ok (.invokevirtual 110, 3) := by decide +kernel
theorem dMeanings_slice_30 : decode bMeanings_slice 30 = .ok (.istore_n 2, 1) := by decide +kernel
theorem dMeanings_slice_31 : decode bMeanings_slice 31 = .ok (.iload_n 2, 1) := by decide +kernel
theorem dMeanings_slice_32 : decode bMeanings_slice 32 = .ok (.iconst (-1), 1) := by decide +kernel
theorem dMeanings_slice_33 : decode bMeanings_slice 33 = .ok (.if_icmp .eq 11, 3) := by decide +kernel
theorem dMeanings_slice_36 : decode bMeanings_slice 36 = .ok (.aload_n 0, 1) := by decide +kernel
theorem dMeanings_slice_37 : decode bMeanings_slice 37 = .ok (.iload_n 2, 1) := by decide +kernel
theorem dMeanings_slice_38 : decode bMeanings_slice 38 = .ok (.invokevirtual 113, 3) := by decide +kernel
theorem dMeanings_slice_41 : decode bMeanings_slice 41 = .ok (.ifCond .ne 5, 3) := by decide +kernel
theorem dMeanings_slice_44 : decode bMeanings_slice 44 = .ok (.iconst 2, 1) := by decide +kernel
theorem dMeanings_slice_45 : decode bMeanings_slice 45 = .ok (.ireturn, 1) := by decide +kernel
theorem dMeanings_slice_46 : decode bMeanings_slice 46 = .ok (.iload_n 1, 1) := by decide +kernel
theorem dMeanings_slice_47 : decode bMeanings_slice 47 = .ok (.iconst 1, 1) := by decide +kernel
theorem dMeanings_slice_48 : decode bMeanings_slice 48 = .ok (.isub, 1) := by decide +kernel
theorem dMeanings_slice_49 : decode bMeanings_slice 49 = .ok (.istore_n 3, 1) := by decide +kernel
theorem dMeanings_slice_50 : decode bMeanings_slice 50 = .ok (.aload_n 0, 1) := by decide +kernel
theorem dMeanings_slice_51 : decode bMeanings_slice 51 = .ok (.getfield 9, 3) := by decide +kernel
theorem dMeanings_slice_54 : decode bMeanings_slice 54 = .ok (.iload_n 1, 1) := by decide +kernel
theorem dMeanings_slice_55 : decode bMeanings_slice 55 = .ok (.invokevirtual 134, 3) := by decide +kernel
theorem dMeanings_slice_58 : decode bMeanings_slice 58 = .ok (.istore 4, 2) := by decide +kernel
theorem dMeanings_slice_60 : decode bMeanings_slice 60 = .ok (.aload_n 0, 1) := by decide +kernel
theorem dMeanings_slice_61 : decode bMeanings_slice 61 = .ok (.getfield 27, 3) := by decide +kernel
theorem dMeanings_slice_64 : decode bMeanings_slice 64 = .ok (.iload 4, 2) := by decide +kernel
theorem dMeanings_slice_66 : decode bMeanings_slice 66 = .ok (.invokevirtual 120, 3) := by decide +kernel
theorem dMeanings_slice_69 : decode bMeanings_slice 69 = .ok (.iconst 2, 1) := by decide +kernel
theorem dMeanings_slice_70 : decode bMeanings_slice 70 = .ok (.if_icmp .ne 15, 3) := by decide +kernel
theorem dMeanings_slice_73 : decode bMeanings_slice 73 = .ok (.aload_n 0, 1) := by decide +kernel
theorem dMeanings_slice_74 : decode bMeanings_slice 74 = .ok (.getfield 27, 3) := by decide +kernel
theorem dMeanings_slice_77 : decode bMeanings_slice 77 = .ok (.iload_n 3, 1) := by decide +kernel
theorem dMeanings_slice_78 : decode bMeanings_slice 78 = .ok (.invokevirtual 120, 3) := by decide +kernel
theorem dMeanings_slice_81 : decode bMeanings_slice 81 = .ok (.iconst 2, 1) := by decide +kernel
theorem dMeanings_slice_82 : decode bMeanings_slice 82 = .ok (.if_icmp .eq 5, 3) := by decide +kernel
theorem dMeanings_slice_85 : decode bMeanings_slice 85 = .ok (.iconst 3, 1) := by decide +kernel
theorem dMeanings_slice_86 : decode bMeanings_slice 86 = .ok (.ireturn, 1) := by decide +kernel
theorem dMeanings_slice_87 : decode bMeanings_slice 87 = .ok (.aload_n 0, 1) := by decide +kernel
theorem dMeanings_slice_88 : decode bMeanings_slice 88 = .ok (.getfield 27, 3) := by decide +kernel
theorem dMeanings_slice_91 : decode bMeanings_slice 91 = .ok (.iload_n 1, 1) := by decide +kernel
theorem dMeanings_slice_92 : decode bMeanings_slice 92 = .ok (.iconst 3, 1) := by decide +kernel
theorem dMeanings_slice_93 : decode bMeanings_slice 93 = .ok (.iconst 0, 1) := by decide +kernel
theorem dMeanings_slice_94 : decode bMeanings_slice 94 = .ok (.aload_n 0, 1) := by decide +kernel
theorem dMeanings_slice_95 : decode bMeanings_slice 95 = .ok (.iload_n 2, 1) := by decide +kernel
theorem dMeanings_slice_96 : decode bMeanings_slice 96 = .ok (.invokevirtual 75, 3) := by decide +kernel
theorem dMeanings_slice_99 : decode bMeanings_slice 99 = .ok (.ifCond .eq 30, 3) := by decide +kernel
theorem dMeanings_slice_102 : decode bMeanings_slice 102 = .ok (.aload_n 0, 1) := by decide +kernel
theorem dMeanings_slice_103 : decode bMeanings_slice 103 = .ok (.getfield 27, 3) := by decide +kernel
theorem dMeanings_slice_106 : decode bMeanings_slice 106 = .ok (.iload 4, 2) := by decide +kernel
theorem dMeanings_slice_108 : decode bMeanings_slice 108 = .ok (.invokevirtual 121, 3) := by decide +kernel
theorem dMeanings_slice_111 : decode bMeanings_slice 111 = .ok (.ifCond .eq 18, 3) := by decide +kernel
theorem dMeanings_slice_114 : decode bMeanings_slice 114 = .ok (.aload_n 0, 1) := by decide +kernel
theorem dMeanings_slice_115 : decode bMeanings_slice 115 = .ok (.getfield 27, 3) := by decide +kernel
theorem dMeanings_slice_118 : decode bMeanings_slice 118 = .ok (.iload_n 3, 1) := by decide +kernel
theorem dMeanings_slice_119 : decode bMeanings_slice 119 = .ok (.invokevirtual 121, 3) := by decide +kernel
theorem dMeanings_slice_122 : decode bMeanings_slice 122 = .ok (.ifCond .eq 7, 3) := by decide +kernel
theorem dMeanings_slice_125 : decode bMeanings_slice 125 = .ok (.iconst 1, 1) := by decide +kernel
theorem dMeanings_slice_126 : decode bMeanings_slice 126 = .ok (.goto 4, 3) := by decide +kernel
theorem dMeanings_slice_129 : decode bMeanings_slice 129 = .ok (.iconst 0, 1) := by decide +kernel
theorem dMeanings_slice_130 : decode bMeanings_slice 130 = .ok (.invokevirtual 79, 3) := by decide +kernel
theorem dMeanings_slice_133 : decode bMeanings_slice 133 = .ok (.aload_n 0, 1) := by decide +kernel
theorem dMeanings_slice_134 : decode bMeanings_slice 134 = .ok (.getfield 27, 3) := by decide +kernel
theorem dMeanings_slice_137 : decode bMeanings_slice 137 = .ok (.iload_n 1, 1) := by decide +kernel
theorem dMeanings_slice_138 : decode bMeanings_slice 138 = .ok (.iload_n 2, 1) := by decide +kernel
theorem dMeanings_slice_139 : decode bMeanings_slice 139 = .ok (.invokevirtual 85, 3) := by decide +kernel
theorem dMeanings_slice_142 : decode bMeanings_slice 142 = .ok (.aload_n 0, 1) := by decide +kernel
theorem dMeanings_slice_143 : decode bMeanings_slice 143 = .ok (.getfield 27, 3) := by decide +kernel
theorem dMeanings_slice_146 : decode bMeanings_slice 146 = .ok (.iload 4, 2) := by decide +kernel
theorem dMeanings_slice_148 : decode bMeanings_slice 148 = .ok (.invokevirtual 121, 3) := by decide +kernel
theorem dMeanings_slice_151 : decode bMeanings_slice 151 = .ok (.ifCond .eq 14, 3) := by decide +kernel
theorem dMeanings_slice_154 : decode bMeanings_slice 154 = .ok (.aload_n 0, 1) := by decide +kernel
theorem dMeanings_slice_155 : decode bMeanings_slice 155 = .ok (.getfield 27, 3) := by decide +kernel
theorem dMeanings_slice_158 : decode bMeanings_slice 158 = .ok (.iload_n 3, 1) := by decide +kernel
theorem dMeanings_slice_159 : decode bMeanings_slice 159 = .ok (.invokevirtual 121, 3) := by decide +kernel
theorem dMeanings_slice_162 : decode bMeanings_slice 162 = .ok (.ifCond .ne 5, 3) := by decide +kernel
theorem dMeanings_slice_165 : decode bMeanings_slice 165 = .ok (.iconst 5, 1) := by decide +kernel
theorem dMeanings_slice_166 : decode bMeanings_slice 166 = .ok (.ireturn, 1) := by decide +kernel
theorem dMeanings_slice_167 : decode bMeanings_slice 167 = .ok (.aload_n 0, 1) := by decide +kernel
theorem dMeanings_slice_168 : decode bMeanings_slice 168 = .ok (.iload_n 1, 1) := by decide +kernel
theorem dMeanings_slice_169 : decode bMeanings_slice 169 = .ok (.iload_n 2, 1) := by decide +kernel
theorem dMeanings_slice_170 : decode bMeanings_slice 170 = .ok (.aload_n 0, 1) := by decide +kernel
theorem dMeanings_slice_171 : decode bMeanings_slice 171 = .ok (.getfield 27, 3) := by decide +kernel
theorem dMeanings_slice_174 : decode bMeanings_slice 174 = .ok (.iload 4, 2) := by decide +kernel
theorem dMeanings_slice_176 : decode bMeanings_slice 176 = .ok (.invokevirtual 124, 3) := by decide +kernel
theorem dMeanings_slice_179 : decode bMeanings_slice 179 = .ok (.aload_n 0, 1) := by decide +kernel
theorem dMeanings_slice_180 : decode bMeanings_slice 180 = .ok (.getfield 27, 3) := by decide +kernel
theorem dMeanings_slice_183 : decode bMeanings_slice 183 = .ok (.iload_n 3, 1) := by decide +kernel
theorem dMeanings_slice_184 : decode bMeanings_slice 184 = .ok (.invokevirtual 124, 3) := by decide +kernel
theorem dMeanings_slice_187 : decode bMeanings_slice 187 = .ok (.invokevirtual 167, 3) := by decide +kernel
theorem dMeanings_slice_190 : decode bMeanings_slice 190 = .ok (.ireturn, 1) := by decide +kernel
theorem dMeanings_cut_0 : decode bMeanings_cut 0 = .ok (.aload_n 0, 1) := by decide +kernel
theorem dMeanings_cut_1 : decode bMeanings_cut 1 = .ok (.getfield 23, 3) := by decide +kernel
theorem dMeanings_cut_4 : decode bMeanings_cut 4 = .ok (.iload_n 2, 1) := by decide +kernel
theorem dMeanings_cut_5 : decode bMeanings_cut 5 = .ok (.invokevirtual 62, 3) := by decide +kernel
theorem dMeanings_cut_8 : decode bMeanings_cut 8 = .ok (.istore 5, 2) := by decide +kernel
theorem dMeanings_cut_10 : decode bMeanings_cut 10 = .ok (.aload_n 0, 1) := by decide +kernel
theorem dMeanings_cut_11 : decode bMeanings_cut 11 = .ok (.getfield 19, 3) := by decide +kernel
theorem dMeanings_cut_14 : decode bMeanings_cut 14 = .ok (.iload 5, 2) := by decide +kernel
theorem dMeanings_cut_16 : decode bMeanings_cut 16 = .ok (.iload_n 3, 1) := by decide +kernel
theorem dMeanings_cut_17 : decode bMeanings_cut 17 = .ok (.invokevirtual 125, 3) := by decide +kernel
theorem dMeanings_cut_20 : decode bMeanings_cut 20 = .ok (.istore 6, 2) := by decide +kernel
theorem dMeanings_cut_22 : decode bMeanings_cut 22 = .ok (.aload_n 0, 1) := by decide +kernel
theorem dMeanings_cut_23 : decode bMeanings_cut 23 = .ok (.getfield 19, 3) := by decide +kernel
theorem dMeanings_cut_26 : decode bMeanings_cut 26 = .ok (.iload 5, 2) := by decide +kernel
theorem dMeanings_cut_28 : decode bMeanings_cut 28 = .ok (.iload 4, 2) := by decide +kernel
theorem dMeanings_cut_30 : decode bMeanings_cut 30 = .ok (.invokevirtual 125, 3) := by decide +kernel
theorem dMeanings_cut_33 : decode bMeanings_cut 33 = .ok (.istore 7, 2) := by decide +kernel
theorem dMeanings_cut_35 : decode bMeanings_cut 35 = .ok (.aload_n 0, 1) := by decide +kernel
theorem dMeanings_cut_36 : decode bMeanings_cut 36 = .ok (.getfield 19, 3) := by decide +kernel
theorem dMeanings_cut_39 : decode bMeanings_cut 39 = .ok (.iload 5, 2) := by decide +kernel
theorem dMeanings_cut_41 : decode bMeanings_cut 41 = .ok (.invokevirtual 171, 3) := by decide +kernel
theorem dMeanings_cut_44 : decode bMeanings_cut 44 = .ok (.aload_n 0, 1) := by decide +kernel
theorem dMeanings_cut_45 : decode bMeanings_cut 45 = .ok (.getfield 9, 3) := by decide +kernel
theorem dMeanings_cut_48 : decode bMeanings_cut 48 = .ok (.iload_n 1, 1) := by decide +kernel
theorem dMeanings_cut_49 : decode bMeanings_cut 49 = .ok (.invokevirtual 143, 3) := by decide +kernel
theorem dMeanings_cut_52 : decode bMeanings_cut 52 = .ok (.bipush 24, 2) := by decide +kernel
theorem dMeanings_cut_54 : decode bMeanings_cut 54 = .ok (.if_icmp .ne 7, 3) := by decide +kernel
theorem dMeanings_cut_57 : decode bMeanings_cut 57 = .ok (.iconst 1, 1) := by decide +kernel
theorem dMeanings_cut_58 : decode bMeanings_cut 58 = .ok (.goto 4, 3) := by decide +kernel
theorem dMeanings_cut_61 : decode bMeanings_cut 61 = .ok (.iconst 0, 1) := by decide +kernel
theorem dMeanings_cut_62 : decode bMeanings_cut 62 = .ok (.if_icmp .ne 7, 3) := by decide +kernel
theorem dMeanings_cut_65 : decode bMeanings_cut 65 = .ok (.iconst 1, 1) := by decide +kernel
theorem dMeanings_cut_66 : decode bMeanings_cut 66 = .ok (.goto 4, 3) := by decide +kernel
theorem dMeanings_cut_69 : decode bMeanings_cut 69 = .ok (.iconst 0, 1) := by decide +kernel
theorem dMeanings_cut_70 : decode bMeanings_cut 70 = .ok (.istore 8, 2) := by decide +kernel
theorem dMeanings_cut_72 : decode bMeanings_cut 72 = .ok (.iload 8, 2) := by decide +kernel
theorem dMeanings_cut_74 : decode bMeanings_cut 74 = .ok (.ifCond .eq 22, 3) := by decide +kernel
theorem dMeanings_cut_77 : decode bMeanings_cut 77 = .ok (.iload 6, 2) := by decide +kernel
theorem dMeanings_cut_79 : decode bMeanings_cut 79 = .ok (.iconst (-1), 1) := by decide +kernel
theorem dMeanings_cut_80 : decode bMeanings_cut 80 = .ok (.if_icmp .eq 16, 3) := by decide +kernel
theorem dMeanings_cut_83 : decode bMeanings_cut 83 = .ok (.iload 7, 2) := by decide +kernel
theorem dMeanings_cut_85 : decode bMeanings_cut 85 = .ok (.iconst (-1), 1) := by decide +kernel
theorem dMeanings_cut_86 : decode bMeanings_cut 86 = .ok (.if_icmp .eq 10, 3) := by decide +kernel
theorem dMeanings_cut_89 : decode bMeanings_cut 89 = .ok (.iload 6, 2) := by decide +kernel
theorem dMeanings_cut_91 : decode bMeanings_cut 91 = .ok (.iload 7, 2) := by decide +kernel
theorem dMeanings_cut_93 : decode bMeanings_cut 93 = .ok (.if_icmp .ge 6, 3) := by decide +kernel
theorem dMeanings_cut_96 : decode bMeanings_cut 96 = .ok (.bipush 6, 2) := by decide +kernel
theorem dMeanings_cut_98 : decode bMeanings_cut 98 = .ok (.ireturn, 1) := by decide +kernel
theorem dMeanings_cut_99 : decode bMeanings_cut 99 = .ok (.iload 6, 2) := by decide +kernel
theorem dMeanings_cut_101 : decode bMeanings_cut 101 = .ok (.iload 7, 2) := by decide +kernel
theorem dMeanings_cut_103 : decode bMeanings_cut 103 = .ok (.isub, 1) := by decide +kernel
theorem dMeanings_cut_104 : decode bMeanings_cut 104 = .ok (.iconst 1, 1) := by decide +kernel
theorem dMeanings_cut_105 : decode bMeanings_cut 105 = .ok (.iadd, 1) := by decide +kernel
theorem dMeanings_cut_106 : decode bMeanings_cut 106 = .ok (.istore 9, 2) := by decide +kernel
theorem dMeanings_cut_108 : decode bMeanings_cut 108 = .ok (.aload_n 0, 1) := by decide +kernel
theorem dMeanings_cut_109 : decode bMeanings_cut 109 = .ok (.getfield 27, 3) := by decide +kernel
theorem dMeanings_cut_112 : decode bMeanings_cut 112 = .ok (.iload_n 1, 1) := by decide +kernel
theorem dMeanings_cut_113 : decode bMeanings_cut 113 = .ok (.iconst 3, 1) := by decide +kernel
theorem dMeanings_cut_114 : decode bMeanings_cut 114 = .ok (.iload 9, 2) := by decide +kernel
theorem dMeanings_cut_116 : decode bMeanings_cut 116 = .ok (.aload_n 0, 1) := by decide +kernel
theorem dMeanings_cut_117 : decode bMeanings_cut 117 = .ok (.iload_n 2, 1) := by decide +kernel
theorem dMeanings_cut_118 : decode bMeanings_cut 118 = .ok (.invokevirtual 75, 3) := by decide +kernel
theorem dMeanings_cut_121 : decode bMeanings_cut 121 = .ok (.invokevirtual 79, 3) := by decide +kernel
theorem dMeanings_cut_124 : decode bMeanings_cut 124 = .ok (.iconst 0, 1) := by decide +kernel
theorem dMeanings_cut_125 : decode bMeanings_cut 125 = .ok (.istore 10, 2) := by decide +kernel
theorem dMeanings_cut_127 : decode bMeanings_cut 127 = .ok (.iload 10, 2) := by decide +kernel
theorem dMeanings_cut_129 : decode bMeanings_cut 129 = .ok (.iload 9, 2) := by decide +kernel
theorem dMeanings_cut_131 : decode bMeanings_cut 131 = .ok (.if_icmp .ge 38, 3) := by decide +kernel
theorem dMeanings_cut_134 : decode bMeanings_cut 134 = .ok (.aload_n 0, 1) := by decide +kernel
theorem dMeanings_cut_135 : decode bMeanings_cut 135 = .ok (.getfield 27, 3) := by decide +kernel
theorem dMeanings_cut_138 : decode bMeanings_cut 138 = .ok (.getfield 92, 3) := by decide +kernel
theorem dMeanings_cut_141 : decode bMeanings_cut 141 = .ok (.iload_n 1, 1) := by decide +kernel
theorem dMeanings_cut_142 : decode bMeanings_cut 142 = .ok (.iload 10, 2) := by decide +kernel
theorem dMeanings_cut_144 : decode bMeanings_cut 144 = .ok (.aload_n 0, 1) := by decide +kernel
theorem dMeanings_cut_145 : decode bMeanings_cut 145 = .ok (.getfield 23, 3) := by decide +kernel
theorem dMeanings_cut_148 : decode bMeanings_cut 148 = .ok (.getfield 96, 3) := by decide +kernel
theorem dMeanings_cut_151 : decode bMeanings_cut 151 = .ok (.iload_n 2, 1) := by decide +kernel
theorem dMeanings_cut_152 : decode bMeanings_cut 152 = .ok (.iload 7, 2) := by decide +kernel
theorem dMeanings_cut_154 : decode bMeanings_cut 154 = .ok (.iload 10, 2) := by decide +kernel
theorem dMeanings_cut_156 : decode bMeanings_cut 156 = .ok (.iadd, 1) := by decide +kernel
theorem dMeanings_cut_157 : decode bMeanings_cut 157 = .ok (.invokevirtual 128, 3) := by decide +kernel
theorem dMeanings_cut_160 : decode bMeanings_cut 160 = .ok (.invokevirtual 174, 3) := by decide +kernel
theorem dMeanings_cut_163 : decode bMeanings_cut 163 = .ok (.iinc 10 1, 3) := by decide +kernel
theorem dMeanings_cut_166 : decode bMeanings_cut 166 = .ok (.goto (-39), 3) := by decide +kernel
theorem dMeanings_cut_169 : decode bMeanings_cut 169 = .ok (.iconst 0, 1) := by decide +kernel
theorem dMeanings_cut_170 : decode bMeanings_cut 170 = .ok (.ireturn, 1) := by decide +kernel
theorem dMeanings_attribute_0 : decode bMeanings_attribute 0 = .ok (.iload_n 1, 1) := by decide +kernel
theorem dMeanings_attribute_1 : decode bMeanings_attribute 1 = .ok (.iconst 1, 1) := by decide +kernel
theorem dMeanings_attribute_2 : decode bMeanings_attribute 2 = .ok (.isub, 1) := by decide +kernel
theorem dMeanings_attribute_3 : decode bMeanings_attribute 3 = .ok (.istore_n 2, 1) := by decide +kernel
theorem dMeanings_attribute_4 : decode bMeanings_attribute 4 = .ok (.aload_n 0, 1) := by decide +kernel
theorem dMeanings_attribute_5 : decode bMeanings_attribute 5 = .ok (.getfield 9, 3) := by decide +kernel
theorem dMeanings_attribute_8 : decode bMeanings_attribute 8 = .ok (.iload_n 2, 1) := by decide +kernel
theorem dMeanings_attribute_9 : decode bMeanings_attribute 9 = .ok (.invokevirtual 37, 3) := by decide +kernel
theorem dMeanings_attribute_12 : decode bMeanings_attribute 12 = .ok (.istore_n 3, 1) := by decide +kernel
theorem dMeanings_attribute_13 : decode bMeanings_attribute 13 = .ok (.aload_n 0, 1) := by decide +kernel
theorem dMeanings_attribute_14 : decode bMeanings_attribute 14 = .ok (.getfield 9, 3) := by decide +kernel
theorem dMeanings_attribute_17 : decode bMeanings_attribute 17 = .ok (.iload_n 1, 1) := by decide +kernel
theorem dMeanings_attribute_18 : decode bMeanings_attribute 18 = .ok (.invokevirtual 31, 3) := by decide +kernel
theorem dMeanings_attribute_21 : decode bMeanings_attribute 21 = .ok (.iconst 1, 1) := by decide +kernel
theorem dMeanings_attribute_22 : decode bMeanings_attribute 22 = .ok (.if_icmp .ne 38, 3) := by decide +kernel
theorem dMeanings_attribute_25 : decode bMeanings_attribute 25 = .ok (.aload_n 0, 1) := by decide +kernel
theorem dMeanings_attribute_26 : decode bMeanings_attribute 26 = .ok (.getfield 9, 3) := by decide +kernel
theorem dMeanings_attribute_29 : decode bMeanings_attribute 29 = .ok (.iload_n 2, 1) := by decide +kernel
theorem dMeanings_attribute_30 : decode bMeanings_attribute 30 = .ok (.invokevirtual 143, 3) := by decide +kernel
theorem dMeanings_attribute_33 : decode bMeanings_attribute 33 = .ok (.iconst 1, 1) := by decide +kernel
theorem dMeanings_attribute_34 : decode bMeanings_attribute 34 = .ok (.if_icmp .ne 26, 3) := by decide +kernel
theorem dMeanings_attribute_37 : decode bMeanings_attribute 37 = .ok (.aload_n 0, 1) := by decide +kernel
theorem dMeanings_attribute_38 : decode bMeanings_attribute 38 = .ok (.getfield 9, 3) := by decide +kernel
theorem dMeanings_attribute_41 : decode bMeanings_attribute 41 = .ok (.iload_n 2, 1) := by decide +kernel
theorem dMeanings_attribute_42 : decode bMeanings_attribute 42 = .ok (.invokevirtual 31, 3) := by decide +kernel
theorem dMeanings_attribute_45 : decode bMeanings_attribute 45 = .ok (.ifCond .ne 15, 3) := by decide +kernel
theorem dMeanings_attribute_48 : decode bMeanings_attribute 48 = .ok (.iload_n 3, 1) := by decide +kernel
theorem dMeanings_attribute_49 : decode bMeanings_attribute 49 = .ok (.bipush 15, 2) := by decide +kernel
theorem dMeanings_attribute_51 : decode bMeanings_attribute 51 = .ok (.if_icmp .lt 9, 3) := by decide +kernel
theorem dMeanings_attribute_54 : decode bMeanings_attribute 54 = .ok (.iload_n 3, 1) := by decide +kernel
theorem dMeanings_attribute_55 : decode bMeanings_attribute 55 = .ok (.bipush 22, 2) := by decide +kernel
theorem dMeanings_attribute_57 : decode bMeanings_attribute 57 = .ok (.if_icmp .le 6, 3) := by decide +kernel
theorem dMeanings_attribute_60 : decode bMeanings_attribute 60 = .ok (.bipush 11, 2) := by decide +kernel
theorem dMeanings_attribute_62 : decode bMeanings_attribute 62 = .ok (.ireturn, 1) := by decide +kernel
theorem dMeanings_attribute_63 : decode bMeanings_attribute 63 = .ok (.aload_n 0, 1) := by decide +kernel
theorem dMeanings_attribute_64 : decode bMeanings_attribute 64 = .ok (.iload_n 1, 1) := by decide +kernel
theorem dMeanings_attribute_65 : decode bMeanings_attribute 65 = .ok (.invokevirtual 164, 3) := by decide +kernel
theorem dMeanings_attribute_68 : decode bMeanings_attribute 68 = .ok (.ifCond .eq 5, 3) := by decide +kernel
theorem dMeanings_attribute_71 : decode bMeanings_attribute 71 = .ok (.iconst 1, 1) := by decide +kernel
theorem dMeanings_attribute_72 : decode bMeanings_attribute 72 = .ok (.ireturn, 1) := by decide +kernel
theorem dMeanings_attribute_73 : decode bMeanings_attribute 73 = .ok (.aload_n 0, 1) := by decide +kernel
theorem dMeanings_attribute_74 : decode bMeanings_attribute 74 = .ok (.iload_n 1, 1) := by decide +kernel
theorem dMeanings_attribute_75 : decode bMeanings_attribute 75 = .ok (.invokevirtual 110, 3) := by decide +kernel
theorem dMeanings_attribute_78 : decode bMeanings_attribute 78 = .ok (.istore 4, 2) := by decide +kernel
theorem dMeanings_attribute_80 : decode bMeanings_attribute 80 = .ok (.iload 4, 2) := by decide +kernel
theorem dMeanings_attribute_82 : decode bMeanings_attribute 82 = .ok (.iconst (-1), 1) := by decide +kernel
theorem dMeanings_attribute_83 : decode bMeanings_attribute 83 = .ok (.if_icmp .eq 22, 3) := by decide +kernel
theorem dMeanings_attribute_86 : decode bMeanings_attribute 86 = .ok (.iload_n 3, 1) := by decide +kernel
theorem dMeanings_attribute_87 : decode bMeanings_attribute 87 = .ok (.bipush 17, 2) := by decide +kernel
theorem dMeanings_attribute_89 : decode bMeanings_attribute 89 = .ok (.if_icmp .gt 18, 3) := by decide +kernel
theorem dMeanings_attribute_92 : decode bMeanings_attribute 92 = .ok (.aload_n 0, 1) := by decide +kernel
theorem dMeanings_attribute_93 : decode bMeanings_attribute 93 = .ok (.getfield 23, 3) := by decide +kernel
theorem dMeanings_attribute_96 : decode bMeanings_attribute 96 = .ok (.iload 4, 2) := by decide +kernel
theorem dMeanings_attribute_98 : decode bMeanings_attribute 98 = .ok (.invokevirtual 103, 3) := by decide +kernel
theorem dMeanings_attribute_101 : decode bMeanings_attribute 101 = .ok (.iconst 1, 1) := by decide +kernel
theorem dMeanings_attribute_102 : decode bMeanings_attribute 102 = .ok (.if_icmp .eq 5, 3) := by decide +kernel
theorem dMeanings_attribute_105 : decode bMeanings_attribute 105 = .ok (.iconst 2, 1) := by decide +kernel
theorem dMeanings_attribute_106 : decode bMeanings_attribute 106 = .ok (.ireturn, 1) := by decide +kernel
theorem dMeanings_attribute_107 : decode bMeanings_attribute 107 = .ok (.iload_n 3, 1) := by decide +kernel
theorem dMeanings_attribute_108 : decode bMeanings_attribute 108 = .ok (.bipush 18, 2) := by decide +kernel
theorem dMeanings_attribute_110 : decode bMeanings_attribute 110 = .ok (.if_icmp .lt 14, 3) := by decide +kernel
theorem dMeanings_attribute_113 : decode bMeanings_attribute 113 = .ok (.aload_n 0, 1) := by decide +kernel
theorem dMeanings_attribute_114 : decode bMeanings_attribute 114 = .ok (.iload 4, 2) := by decide +kernel
theorem dMeanings_attribute_116 : decode bMeanings_attribute 116 = .ok (.invokevirtual 113, 3) := by decide +kernel
theorem dMeanings_attribute_119 : decode bMeanings_attribute 119 = .ok (.ifCond .ne 5, 3) := by decide +kernel
theorem dMeanings_attribute_122 : decode bMeanings_attribute 122 = .ok (.iconst 3, 1) := by decide +kernel
theorem dMeanings_attribute_123 : decode bMeanings_attribute 123 = .ok (.ireturn, 1) := by decide +kernel
theorem dMeanings_attribute_124 : decode bMeanings_attribute 124 = .ok (.aload_n 0, 1) := by decide +kernel
theorem dMeanings_attribute_125 : decode bMeanings_attribute 125 = .ok (.iload_n 1, 1) := by decide +kernel
theorem dMeanings_attribute_126 : decode bMeanings_attribute 126 = .ok (.iload_n 3, 1) := by decide +kernel
theorem dMeanings_attribute_127 : decode bMeanings_attribute 127 = .ok (.aload_n 0, 1) := by decide +kernel
theorem dMeanings_attribute_128 : decode bMeanings_attribute 128 = .ok (.getfield 23, 3) := by decide +kernel
theorem dMeanings_attribute_131 : decode bMeanings_attribute 131 = .ok (.iload 4, 2) := by decide +kernel
theorem dMeanings_attribute_133 : decode bMeanings_attribute 133 = .ok (.invokevirtual 62, 3) := by decide +kernel
theorem dMeanings_attribute_136 : decode bMeanings_attribute 136 = .ok (.invokevirtual 178, 3) := by decide +kernel
theorem dMeanings_attribute_139 : decode bMeanings_attribute 139 = .ok (.aload_n 0, 1) := by decide +kernel
theorem dMeanings_attribute_140 : decode bMeanings_attribute 140 = .ok (.getfield 27, 3) := by decide +kernel
theorem dMeanings_attribute_143 : decode bMeanings_attribute 143 = .ok (.iload_n 1, 1) := by decide +kernel
theorem dMeanings_attribute_144 : decode bMeanings_attribute 144 = .ok (.iload 4, 2) := by decide +kernel
theorem dMeanings_attribute_146 : decode bMeanings_attribute 146 = .ok (.invokevirtual 85, 3) := by decide +kernel
theorem dMeanings_attribute_149 : decode bMeanings_attribute 149 = .ok (.iconst 0, 1) := by decide +kernel
theorem dMeanings_attribute_150 : decode bMeanings_attribute 150 = .ok (.ireturn, 1) := by decide +kernel
theorem dMeanings_noteAttribute_0 : decode bMeanings_noteAttribute 0 = .ok (.iload_n 2, 1) := by decide +kernel
theorem dMeanings_noteAttribute_1 : decode bMeanings_noteAttribute 1 = .ok (.bipush 18, 2) := by decide +kernel
theorem dMeanings_noteAttribute_3 : decode bMeanings_noteAttribute 3 = .ok (.if_icmp .lt 31, 3) := by decide +kernel
theorem dMeanings_noteAttribute_6 : decode bMeanings_noteAttribute 6 = .ok (.aload_n 0, 1) := by decide +kernel
theorem dMeanings_noteAttribute_7 : decode bMeanings_noteAttribute 7 = .ok (.getfield 27, 3) := by decide +kernel
theorem dMeanings_noteAttribute_10 : decode bMeanings_noteAttribute 10 = .ok (.iload_n 1, 1) := by decide +kernel
theorem dMeanings_noteAttribute_11 : decode bMeanings_noteAttribute 11 = .ok (.iconst 2, 1) := by decide +kernel
theorem dMeanings_noteAttribute_12 : decode bMeanings_noteAttribute 12 = .ok (.iconst 0, 1) := by decide +kernel
theorem dMeanings_noteAttribute_13 : decode bMeanings_noteAttribute 13 = .ok (.iconst 1, 1) := by decide +kernel
theorem dMeanings_noteAttribute_14 : decode bMeanings_noteAttribute 14 = .ok (.invokevirtual 79, 3) := by decide +kernel
theorem dMeanings_noteAttribute_17 : decode bMeanings_noteAttribute 17 = .ok (.aload_n 0, 1) := by decide +kernel
theorem dMeanings_noteAttribute_18 : decode bMeanings_noteAttribute 18 = .ok (.getfield 27, 3) := by decide +kernel
theorem dMeanings_noteAttribute_21 : decode bMeanings_noteAttribute 21 = .ok (.iload_n 1, 1) := by decide +kernel
theorem dMeanings_noteAttribute_22 : decode bMeanings_noteAttribute 22 = .ok (.aload_n 0, 1) := by decide +kernel
theorem dMeanings_noteAttribute_23 : decode bMeanings_noteAttribute 23 = .ok (.iload_n 2, 1) := by decide +kernel
theorem dMeanings_noteAttribute_24 : decode bMeanings_noteAttribute 24 = .ok (.iload_n 3, 1) := by decide +kernel
theorem dMeanings_noteAttribute_25 : decode bMeanings_noteAttribute 25 = .ok (.invokevirtual 181, 3) := by decide +kernel
theorem dMeanings_noteAttribute_28 : decode bMeanings_noteAttribute 28 = .ok (.invokevirtual 89, 3) := by decide +kernel
theorem dMeanings_noteAttribute_31 : decode bMeanings_noteAttribute 31 = .ok (.goto 48, 3) := by decide +kernel
theorem dMeanings_noteAttribute_34 : decode bMeanings_noteAttribute 34 = .ok (.iload_n 2, 1) := by decide +kernel
theorem dMeanings_noteAttribute_35 : decode bMeanings_noteAttribute 35 = .ok (.bipush 17, 2) := by decide +kernel
theorem dMeanings_noteAttribute_37 : decode bMeanings_noteAttribute 37 = .ok (.if_icmp .ne 31, 3) := by decide +kernel
theorem dMeanings_noteAttribute_40 : decode bMeanings_noteAttribute 40 = .ok (.aload_n 0, 1) := by decide +kernel
theorem dMeanings_noteAttribute_41 : decode bMeanings_noteAttribute 41 = .ok (.getfield 27, 3) := by decide +kernel
theorem dMeanings_noteAttribute_44 : decode bMeanings_noteAttribute 44 = .ok (.iload_n 1, 1) := by decide +kernel
theorem dMeanings_noteAttribute_45 : decode bMeanings_noteAttribute 45 = .ok (.aload_n 0, 1) := by decide +kernel
theorem dMeanings_noteAttribute_46 : decode bMeanings_noteAttribute 46 = .ok (.getfield 19, 3) := by decide +kernel
theorem dMeanings_noteAttribute_49 : decode bMeanings_noteAttribute 49 = .ok (.iload_n 3, 1) := by decide +kernel
theorem dMeanings_noteAttribute_50 : decode bMeanings_noteAttribute 50 = .ok (.invokevirtual 67, 3) := by decide +kernel
theorem dMeanings_noteAttribute_53 : decode bMeanings_noteAttribute 53 = .ok (.aload_n 0, 1) := by decide +kernel
theorem dMeanings_noteAttribute_54 : decode bMeanings_noteAttribute 54 = .ok (.getfield 19, 3) := by decide +kernel
theorem dMeanings_noteAttribute_57 : decode bMeanings_noteAttribute 57 = .ok (.iload_n 3, 1) := by decide +kernel
theorem dMeanings_noteAttribute_58 : decode bMeanings_noteAttribute 58 = .ok (.invokevirtual 72, 3) := by decide +kernel
theorem dMeanings_noteAttribute_61 : decode bMeanings_noteAttribute 61 = .ok (.iconst 0, 1) := by decide +kernel
theorem dMeanings_noteAttribute_62 : decode bMeanings_noteAttribute 62 = .ok (.invokevirtual 79, 3) := by decide +kernel
theorem dMeanings_noteAttribute_65 : decode bMeanings_noteAttribute 65 = .ok (.goto 14, 3) := by decide +kernel
theorem dMeanings_noteAttribute_68 : decode bMeanings_noteAttribute 68 = .ok (.aload_n 0, 1) := by decide +kernel
theorem dMeanings_noteAttribute_69 : decode bMeanings_noteAttribute 69 = .ok (.getfield 27, 3) := by decide +kernel
theorem dMeanings_noteAttribute_72 : decode bMeanings_noteAttribute 72 = .ok (.iload_n 1, 1) := by decide +kernel
theorem dMeanings_noteAttribute_73 : decode bMeanings_noteAttribute 73 = .ok (.iconst 1, 1) := by decide +kernel
theorem dMeanings_noteAttribute_74 : decode bMeanings_noteAttribute 74 = .ok (.iconst 0, 1) := by decide +kernel
theorem dMeanings_noteAttribute_75 : decode bMeanings_noteAttribute 75 = .ok (.iconst 0, 1) := by decide +kernel
theorem dMeanings_noteAttribute_76 : decode bMeanings_noteAttribute 76 = .ok (.invokevirtual 79, 3) := by decide +kernel
theorem dMeanings_noteAttribute_79 : decode bMeanings_noteAttribute 79 = .ok (.return_, 1) := by decide +kernel
theorem dMeanings_boundOf_0 : decode bMeanings_boundOf 0 = .ok (.aload_n 0, 1) := by decide +kernel
theorem dMeanings_boundOf_1 : decode bMeanings_boundOf 1 = .ok (.getfield 19, 3) := by decide +kernel
theorem dMeanings_boundOf_4 : decode bMeanings_boundOf 4 = .ok (.iload_n 2, 1) := by decide +kernel
theorem dMeanings_boundOf_5 : decode bMeanings_boundOf 5 = .ok (.invokevirtual 184, 3) := by decide +kernel
theorem dMeanings_boundOf_8 : decode bMeanings_boundOf 8 = .ok (.istore_n 3, 1) := by decide +kernel
theorem dMeanings_boundOf_9 : decode bMeanings_boundOf 9 = .ok (.aload_n 0, 1) := by decide +kernel
theorem dMeanings_boundOf_10 : decode bMeanings_boundOf 10 = .ok (.getfield 19, 3) := by decide +kernel
theorem dMeanings_boundOf_13 : decode bMeanings_boundOf 13 = .ok (.iload_n 2, 1) := by decide +kernel
theorem dMeanings_boundOf_14 : decode bMeanings_boundOf 14 = .ok (.invokevirtual 187, 3) := by decide +kernel
theorem dMeanings_boundOf_17 : decode bMeanings_boundOf 17 = .ok (.istore 4, 2) := by decide +kernel
theorem dMeanings_boundOf_19 : decode bMeanings_boundOf 19 = .ok (.iload_n 1, 1) := by decide +kernel
theorem dMeanings_boundOf_20 : decode bMeanings_boundOf 20 = .ok (.tableswitch 51 19 22 #[32, 34, 37, 44], 32) := by decide +kernel
theorem dMeanings_boundOf_52 : decode bMeanings_boundOf 52 = .ok (.iload_n 3, 1) := by decide +kernel
theorem dMeanings_boundOf_53 : decode bMeanings_boundOf 53 = .ok (.ireturn, 1) := by decide +kernel
theorem dMeanings_boundOf_54 : decode bMeanings_boundOf 54 = .ok (.iload 4, 2) := by decide +kernel
theorem dMeanings_boundOf_56 : decode bMeanings_boundOf 56 = .ok (.ireturn, 1) := by decide +kernel
theorem dMeanings_boundOf_57 : decode bMeanings_boundOf 57 = .ok (.iload_n 3, 1) := by decide +kernel
theorem dMeanings_boundOf_58 : decode bMeanings_boundOf 58 = .ok (.iload 4, 2) := by decide +kernel
theorem dMeanings_boundOf_60 : decode bMeanings_boundOf 60 = .ok (.invokestatic 190, 3) := by decide +kernel
theorem dMeanings_boundOf_63 : decode bMeanings_boundOf 63 = .ok (.ireturn, 1) := by decide +kernel
theorem dMeanings_boundOf_64 : decode bMeanings_boundOf 64 = .ok (.iload_n 3, 1) := by decide +kernel
theorem dMeanings_boundOf_65 : decode bMeanings_boundOf 65 = .ok (.iload 4, 2) := by decide +kernel
theorem dMeanings_boundOf_67 : decode bMeanings_boundOf 67 = .ok (.invokestatic 195, 3) := by decide +kernel
theorem dMeanings_boundOf_70 : decode bMeanings_boundOf 70 = .ok (.ireturn, 1) := by decide +kernel
theorem dMeanings_boundOf_71 : decode bMeanings_boundOf 71 = .ok (.aload_n 0, 1) := by decide +kernel
theorem dMeanings_boundOf_72 : decode bMeanings_boundOf 72 = .ok (.getfield 19, 3) := by decide +kernel
theorem dMeanings_boundOf_75 : decode bMeanings_boundOf 75 = .ok (.iload_n 2, 1) := by decide +kernel
theorem dMeanings_boundOf_76 : decode bMeanings_boundOf 76 = .ok (.invokevirtual 198, 3) := by decide +kernel
theorem dMeanings_boundOf_79 : decode bMeanings_boundOf 79 = .ok (.ireturn, 1) := by decide +kernel
-- NUMBERS, more
theorem lt_nge {x y : Int32} (h : x < y) : ¬ y ≤ x := Int32.not_le.mpr h
theorem mu_dn {k : Int32} (h : -2147483648 < k.toInt) : (k + (-1)).toInt = k.toInt - 1 := by
  have h1 : k.toInt ≤ 2147483647 := by have h9 := Int32.toInt_le k; rw [show Int32.maxValue.toInt = 2147483647 by decide] at h9; exact h9
  rw [Int32.toInt_add]
  have h3 : (-1 : Int32).toInt = -1 := by decide
  rw [h3]
  exact Int.bmod_eq_of_le (by omega) (by omega)
theorem mu_le {k r : Int32} (h : ¬ r < k) (hr : r.toInt < 2147483647) : k.toInt < 2147483647 := by
  rw [Int32.lt_iff_toInt_lt] at h
  omega
theorem md_ge {k r : Int32} (h : ¬ k < r) (hr : ¬ r < 0) : ¬ k < 0 := by
  rw [Int32.lt_iff_toInt_lt] at *
  have h0 : (0 : Int32).toInt = 0 := by decide
  omega
theorem md_int {k : Int32} (h : ¬ k < 0) : -2147483648 < k.toInt := by
  rw [Int32.lt_iff_toInt_lt] at h
  have h0 : (0 : Int32).toInt = 0 := by decide
  omega
theorem in_cmp2 {x v : Int32} {n : Nat} (h0 : ¬ x < 0) (ev : v = nI n) (h1 : ¬ v ≤ x) (hn : n < 2 ^ 31) : vp_in x n := by
  subst ev
  exact in_cmp h0 h1 hn
theorem inv_15 {γ : gE} {A : Nat → Prop} {κ : Nat → Nat} {H : Heap} (hI : INV γ A κ H) : κ 15 < 2 ^ 31 := by
  obtain ⟨Z, ws, ⟨b0, f0, vf, va, rfl, h1, h2⟩, hP, hD⟩ := inv_c hI 1 (by decide) (by decide)
  omega
-- the array of hidden nodes
section HID
variable {p : Program} {l : Launch} {e : Env} {R : Room} {s : State} {m : MethodId} {args : Array Value} {below : List Frame} {meth : Method} {c : Code} {H : Heap} {locs : List Loc} {cells slots : Nat} {Q : State → Prop}
variable {cc : ByteArray} {pc : Nat} {ls : Array Slot} {rest : List Value} {A Z : Nat → Prop} {b : Nat} {H0 : Heap} {nL index : Nat} {own : String} {γ : gE} {κ : Nat → Nat}
/-- a cell's field is one thing -/
theorem of_inj {a ci j : Nat} {v w : Value} {C : String} {T : u_T} {N : Nat} (hc : vwCl[ci]? = some (C, T, N)) (hj : j < N) (h1 : OF γ H a ci j v) (h2 : OF γ H a ci j w) : v = w := by
  obtain ⟨f1, p1, e1⟩ := h1
  obtain ⟨f2, p2, e2⟩ := h2
  obtain ⟨r1, c1, x1, y1, -, -, z1⟩ := p1 0 _ rfl
  obtain ⟨r2, c2, x2, y2, -, -, z2⟩ := p2 0 _ rfl
  cases Option.some.inj (c1.symm.trans hc)
  cases Option.some.inj (c2.symm.trans hc)
  cases Option.some.inj (y1.symm.trans y2)
  have h3 := (z1 j hj).symm.trans (z2 j hj)
  simpa [vp_V, e1, e2] using h3
theorem of_8_6 (hI : INV γ A κ H) : ∃ b : Nat, OF γ H (γ.2.2.2 8) 7 6 (.ref b) := by
  obtain ⟨Z, ws, ⟨b0, f0, vf, va, rfl, h1, h2⟩, hP, hD⟩ := inv_c hI 1 (by decide) (by decide)
  exact ⟨b0, _, fun k q hq => hP 1 q (by cases k with | zero => exact hq | succ k => cases hq), rfl⟩
theorem iv_hlen (S : bs_F p s m args c cc nL own) (hC : CX γ s) (hI : INV γ A κ H) (hO : OF γ H (γ.2.2.2 8) 7 6 (.ref b)) (hdg : decode cc pc = .ok (.arraylength, 1))
    (kk : W p l e R s m args below meth c H locs cells slots Q (F0 m (pc + 1) ls (.int (nI (κ 15)) :: rest))) : W p l e R s m args below meth c H locs cells slots Q (F0 m pc ls (.ref b :: rest)) := by
  obtain ⟨Z, ws, ⟨b0, f0, vf, va, rfl, h1, h2⟩, hP, hD⟩ := inv_c hI 1 (by decide) (by decide)
  have hO2 : OF γ H (γ.2.2.2 8) 7 6 (.ref b0) := ⟨_, fun k q hq => hP 1 q (by cases k with | zero => exact hq | succ k => cases hq), rfl⟩
  cases of_inj rfl (by decide) hO hO2
  exact va_alen S.1 S.2.1 hC.1 hP 4 0 rfl rfl rfl hdg kk
theorem of_4_2 (hI : INV γ A κ H) : ∃ b : Nat, OF γ H (γ.2.2.2 4) 4 2 (.ref b) := by
  obtain ⟨Z, ws, ⟨b0, b1, b2, f0, f1, f2, rfl, h1, h2, h3⟩, hP, hD⟩ := inv_c hI 5 (by decide) (by decide)
  exact ⟨b2, _, fun k q hq => hP 0 q (by cases k with | zero => exact hq | succ k => cases hq), rfl⟩
end HID
section CPL
variable {p : Program} {l : Launch} {e : Env} {R : Room} {s : State} {m : MethodId} {args : Array Value} {below : List Frame} {meth : Method} {c : Code} {H : Heap} {locs : List Loc} {cells slots : Nat} {Q : State → Prop}
variable {pc : Nat} {ls : Array Slot} {rest : List Value} {D : va_G} {cl : List vw_C} {A Z : Nat → Prop} {a : Nat} {tys : List (ClassId × FieldType)} {ws : va_W} {H0 : Heap}
theorem st_copyl {cc : ByteArray} (hexec : p.tables.exec = Jvm.exec) (hb : c.code = cc) (hml : c.maxLocals = ls.size) {own : String} {index : Nat} (hown : s.vm.findClass own = some m.cls) (hlink : (Cond.methodLink own index arraycopyName).before args s = true) (hnat : (Cond.native arraycopyName).before args s = true) (hstat : (Cond.static arraycopyName).before args s = true) (hini : (Cond.initialized "java/lang/System").before args s = true)
    (hK : va_K D cl tys s) (hP : va_P D cl ws H) (hD : va_D Z ws) (hZA : ∀ q, Z q → A q) (hS : va_S A H0 H locs) (q1 t0 t1 : Nat) {a0 : Nat} {c0 c1 : ClassId} {n0 n1 : Nat} {f g : Nat → Int64} (hc0 : H[a0]? = some (vp_cell c0 (n0, .inr (.inl f)))) (ha1 : ws[q1]? = some (a, .inl (c1, n1, .inr (.inl g)))) (ht0 : tys[t0]? = some (c0, .long)) (ht1 : tys[t1]? = some (c1, .long))
    {sp dp n : Int32} (h1 : ¬ sp < 0) (h2 : ¬ dp < 0) (h3 : ¬ n < 0) (h4 : sp.toNatClampNeg + n.toNatClampNeg ≤ n0) (h5 : dp.toNatClampNeg + n.toNatClampNeg ≤ n1)
    (hframes : 1 ≤ R.frames) (hlocals : (rest.map fun v => v.category).sum + (nativeFrameWords "java/lang/System" "arraycopy" 5 + 11) ≤ R.locals) (hdg : decode cc pc = .ok (.invokestatic index, 3))
    (kk : ∀ (H1 : Heap) (locs1 : List Loc), va_P D cl (ws.set q1 (a, .inl (c1, n1, .inr (.inl (va_cpy f g sp.toNatClampNeg dp.toNatClampNeg n.toNatClampNeg))))) H1 → va_D Z (ws.set q1 (a, .inl (c1, n1, .inr (.inl (va_cpy f g sp.toNatClampNeg dp.toNatClampNeg n.toNatClampNeg))))) → va_S A H0 H1 locs1 → H1.size = H.size → (∀ q : Nat, q ≠ a → H1[q]? = H[q]?) → W p l e R s m args below meth c H1 locs1 cells slots Q (F0 m (pc + 3) ls rest)) : W p l e R s m args below meth c H locs cells slots Q (F0 m pc ls (.int n :: .int dp :: .ref a :: .int sp :: .ref a0 :: rest)) := by
  have nn : ∀ z : Int32, ¬ z < 0 → z.toInt = (z.toNatClampNeg : Int) := by
    intro z hz
    have hz0 : (0 : Int) ≤ z.toInt := by
      have := Int32.not_lt.mp hz
      simpa using Int32.le_iff_toInt_le.mp this
    show z.toInt = ((z.toInt.toNat : Nat) : Int)
    omega
  intro T hT X
  have hc1 : H[a]? = some (vp_cell c1 (n1, .inr (.inl g))) := hP q1 _ ha1
  obtain ⟨-, k0, hk0, cm0, hkk0⟩ := (hK.2 t0 _ ht0).1 n0 (fun j => .long (f j))
  obtain ⟨-, k1, hk1, cm1, hkk1⟩ := (hK.2 t1 _ ht1).1 n1 (fun j => .long (g j))
  obtain ⟨vm', X', step⟩ := X.arraycopy hexec hown hlink hnat hstat hini (src := a0) (dst := a) (cs := vp_cell c0 (n0, .inr (.inl f))) (cd := vp_cell c1 (n1, .inr (.inl g))) (srcPos := sp) (destPos := dp) (n := n) (by rw [hT]; exact hc0) (by rw [hT]; exact hc1)
    (fun _ h => by cases h) (fun _ h => by cases h) (fun h => by cases h) (fun h => by cases h) hk0 hk1 hkk0 hkk1 (by simp [refKind]) h1 h2 h3
    (by rw [nn sp h1, nn n h3]; show ¬ _ > ((arrV c0 n0 (fun j => .long (f j))).slots.size : Int); rw [arrV_size]; omega)
    (by rw [nn dp h2, nn n h3]; show ¬ _ > ((arrV c1 n1 (fun j => .long (g j))).slots.size : Int); rw [arrV_size]; omega)
    (fun vm₁ _ i hi => by
      have e : (vp_cell c0 (n0, .inr (.inl f))).slots.getD (sp.toNatClampNeg + i) .null = .long (f (sp.toNatClampNeg + i)) := by
        show (arrV c0 n0 (fun j => .long (f j))).slots.getD _ _ = _
        rw [Array.getD_eq_getD_getElem?, arrV_read _ _ (by omega)]
        rfl
      refine ⟨?_, ?_⟩
      · rw [e]
        rfl
      · rw [e]
        exact trivial)
    (g := F0 m pc ls (.int n :: .int dp :: .ref a :: .int sp :: .ref a0 :: rest)) rfl (by rw [hml]) (rest := rest) rfl (by rw [hb]; exact hdg) hframes (by show 2 * 0 + _ + _ ≤ _; omega)
  have e1 : copied (vp_cell c0 (n0, .inr (.inl f))) (vp_cell c1 (n1, .inr (.inl g))) sp dp n = vp_cell c1 (n1, .inr (.inl (va_cpy f g sp.toNatClampNeg dp.toNatClampNeg n.toNatClampNeg))) := va_copied (fun z => .long z) c0 c1 f g h4
  rw [e1] at X' step
  have hl : a < H.size := (Array.getElem?_eq_some_iff.mp hc1).1
  have hheap : ((T.setVm vm').setCell a (vp_cell c1 (n1, .inr (.inl (va_cpy f g sp.toNatClampNeg dp.toNatClampNeg n.toNatClampNeg))))).heap = H.setIfInBounds a (vp_cell c1 (n1, .inr (.inl (va_cpy f g sp.toNatClampNeg dp.toNatClampNeg n.toNatClampNeg)))) := by rw [← hT]; rfl
  have oq : ∀ q : Nat, q ≠ a → (H.setIfInBounds a (vp_cell c1 (n1, .inr (.inl (va_cpy f g sp.toNatClampNeg dp.toNatClampNeg n.toNatClampNeg)))))[q]? = H[q]? := fun q hq => by simp [Array.getElem?_setIfInBounds, Ne.symm hq]
  obtain ⟨t, a1, b1⟩ := kk _ _ (hP.set hD ha1 (show (H.setIfInBounds a _)[a]? = some _ by simp [Array.getElem?_setIfInBounds, hl]) oq) (hD.set ha1) ⟨by simp; exact hS.1, fun q g1 g2 => by
      rw [oq q (fun e => g2 (by rw [e]; exact hZA _ (hD.2 q1 _ ha1)))]
      exact hS.2.1 q g1 g2, fun q hq => by
      rcases List.mem_append.mp hq with h | h
      · exact hS.2.2 q h
      · obtain ⟨z, -, hz⟩ := List.mem_map.mp h
        rw [← hz]
        exact hZA _ (hD.2 q1 _ ha1)⟩ (by simp) oq _ hheap X'
  exact ⟨t, step t a1, b1⟩
end CPL
theorem row4 {r x : Int32} {M : Nat} (hr : r = 0 ∨ ∃ j, j < M ∧ x = nI j) (hc : ¬ r = 0) (hM : M ≤ 8192) : ¬ x * 4 < 0 ∧ (x * 4).toNatClampNeg + 4 ≤ 4 * M := by
  rcases hr with h0 | ⟨j, hj, rfl⟩
  · exact absurd h0 hc
  · have e1 : nI j * 4 = nI (j * 4) := pk_mul j 4
    rw [e1, nI_clamp (by omega)]
    exact ⟨nI_pos (by omega), by omega⟩
theorem qw_157c25bbff : (Cond.methodLink R_Logic 9 yLogic_isLow) ∈ bs_W0 := bs_in (in_tables_1_3 (List.mem_of_getElem? (i := 214) rfl)) rfl
theorem qw_b530a28374 : (Cond.methodLink R_Logic 15 yLogic_isHigh) ∈ bs_W0 := bs_in (in_tables_1_3 (List.mem_of_getElem? (i := 217) rfl)) rfl
theorem qw_dd402237cf : (Cond.methodLink R_Logic 18 yLogic_isClear) ∈ bs_W0 := bs_in (in_tables_1_4 (List.mem_of_getElem? (i := 42) rfl)) rfl
theorem qw_216c0f4a68 : (Cond.methodLink R_Logic 21 yLogic_and) ∈ bs_W0 := bs_in (in_tables_1_4 (List.mem_of_getElem? (i := 32) rfl)) rfl
theorem qw_675e585d2e : (Cond.methodLink R_Logic 25 yLogic_or) ∈ bs_W0 := bs_in (in_tables_1_4 (List.mem_of_getElem? (i := 35) rfl)) rfl
theorem qw_d35acbc9a6 : (Cond.methodLink R_Logic 28 yLogic_not) ∈ bs_W0 := bs_in (in_tables_1_4 (List.mem_of_getElem? (i := 38) rfl)) rfl
theorem qw_caa7fb3dc0 : (Cond.methodLink R_Logic 32 yLogic_other) ∈ bs_W0 := bs_in (in_tables_1_4 (List.mem_of_getElem? (i := 39) rfl)) rfl
theorem qw_b544f0cdd0 : (Cond.methodLink R_Looker 195 yLooker_elementsOf) ∈ bs_W0 := bs_in (in_tables_1_4 (List.mem_of_getElem? (i := 217) rfl)) rfl
theorem qw_62eac39618 : (Cond.constantLong R_Looker 199 64) ∈ bs_W0 := bs_in (in_tables_1_4 (List.mem_of_getElem? (i := 220) rfl)) rfl
theorem qw_5a22fbae04 : (Cond.methodLink R_Operators 144 yjMath_floorMod) ∈ bs_W0 := bs_in (in_tables_1_4 (List.mem_of_getElem? (i := 17) rfl)) rfl
theorem qw_adbe8dbe65 : (Cond.fieldLink R_Trees 24 R_Trees "size" "I") ∈ bs_W0 := bs_in (in_tables_1_1 (List.mem_of_getElem? (i := 42) rfl)) rfl
theorem qw_171adcdf9f : (Cond.fieldLink R_Names 33 R_Names "size" "I") ∈ bs_W0 := bs_in (in_tables_1_1 (List.mem_of_getElem? (i := 106) rfl)) rfl
theorem qw_f9da65449d : (Cond.fieldLink R_Types 24 R_Types "size" "I") ∈ bs_W0 := bs_in (in_tables_1_1 (List.mem_of_getElem? (i := 145) rfl)) rfl
theorem qw_1a9a6fdaf2 : (Cond.fieldLink R_Objects 30 R_Objects "size" "I") ∈ bs_W0 := bs_in (in_tables_1_1 (List.mem_of_getElem? (i := 181) rfl)) rfl
theorem qw_ac7df03aa7 : (Cond.fieldLink R_Looks 9 R_Looks "classes" "[I") ∈ bs_W0 := bs_in (in_tables_1_1 (List.mem_of_getElem? (i := 202) rfl)) rfl
theorem qw_05e9c8a29d : (Cond.fieldLink R_Rows 17 R_Rows "words" "[J") ∈ bs_W0 := bs_in (in_tables_1_1 (List.mem_of_getElem? (i := 171) rfl)) rfl
theorem qw_42d433c8d4 : (Cond.methodLink R_Trees 31 yTrees_has) ∈ bs_W0 := bs_in (in_tables_1_2 (List.mem_of_getElem? (i := 195) rfl)) rfl
theorem qw_ffd9ddfb57 : (Cond.fieldLink R_Trees 9 R_Trees "kinds" "[I") ∈ bs_W0 := bs_in (in_tables_1_1 (List.mem_of_getElem? (i := 38) rfl)) rfl
theorem qw_fdd50f5077 : (Cond.fieldLink R_Trees 15 R_Trees "values" "[I") ∈ bs_W0 := bs_in (in_tables_1_1 (List.mem_of_getElem? (i := 39) rfl)) rfl
theorem qw_8f9013a759 : (Cond.methodLink R_Names 56 yNames_has) ∈ bs_W0 := bs_in (in_tables_1_3 (List.mem_of_getElem? (i := 77) rfl)) rfl
theorem qw_5903ecb25d : (Cond.fieldLink R_Names 15 R_Names "sorts" "[I") ∈ bs_W0 := bs_in (in_tables_1_1 (List.mem_of_getElem? (i := 100) rfl)) rfl
theorem qw_ee1ba38ad0 : (Cond.fieldLink R_Names 18 R_Names "numbers" "[I") ∈ bs_W0 := bs_in (in_tables_1_1 (List.mem_of_getElem? (i := 101) rfl)) rfl
theorem qw_1a22e5f505 : (Cond.fieldLink R_Names 21 R_Names "parts" "[I") ∈ bs_W0 := bs_in (in_tables_1_1 (List.mem_of_getElem? (i := 102) rfl)) rfl
theorem qw_252588eab3 : (Cond.methodLink R_Types 34 yTypes_has) ∈ bs_W0 := bs_in (in_tables_1_3 (List.mem_of_getElem? (i := 105) rfl)) rfl
theorem qw_9652573c2f : (Cond.fieldLink R_Types 9 R_Types "classes" "[I") ∈ bs_W0 := bs_in (in_tables_1_1 (List.mem_of_getElem? (i := 141) rfl)) rfl
theorem qw_3e3b315a67 : (Cond.fieldLink R_Types 15 R_Types "lefts" "[I") ∈ bs_W0 := bs_in (in_tables_1_1 (List.mem_of_getElem? (i := 142) rfl)) rfl
theorem qw_dd571233a8 : (Cond.fieldLink R_Types 18 R_Types "rights" "[I") ∈ bs_W0 := bs_in (in_tables_1_1 (List.mem_of_getElem? (i := 143) rfl)) rfl
theorem qw_dded4610c2 : (Cond.fieldLink R_Types 21 R_Types "counts" "[I") ∈ bs_W0 := bs_in (in_tables_1_1 (List.mem_of_getElem? (i := 144) rfl)) rfl
theorem qw_3728bb290b : (Cond.methodLink R_Types 38 Lib.Math.abs.name) ∈ bs_W0 := bs_in (in_tables_1_3 (List.mem_of_getElem? (i := 118) rfl)) rfl
theorem qw_788fc9f3dd : (Cond.static Lib.Math.abs.name) ∈ bs_W0 := bs_in (in_tables_1_3 (List.mem_of_getElem? (i := 119) rfl)) rfl
theorem qw_0001fcaade : (Cond.initialized "java/lang/Math") ∈ bs_W0 := bs_in (in_tables_1_1 (List.mem_of_getElem? (i := 5) rfl)) rfl
theorem qw_970e918a43 : (Cond.code Lib.Math.abs.name Lib.Math.abs.code 1 (some .int)) ∈ bs_W0 := bs_in (in_tables_1_3 (List.mem_of_getElem? (i := 120) rfl)) rfl
theorem qw_2f2cb5cb5a : (Cond.methodLink R_Objects 34 yObjects_has) ∈ bs_W0 := bs_in (in_tables_1_3 (List.mem_of_getElem? (i := 97) rfl)) rfl
theorem qw_bb1fa418e1 : (Cond.fieldLink R_Objects 9 R_Objects "whats" "[I") ∈ bs_W0 := bs_in (in_tables_1_1 (List.mem_of_getElem? (i := 176) rfl)) rfl
theorem qw_541217fbcc : (Cond.fieldLink R_Objects 15 R_Objects "types" "[I") ∈ bs_W0 := bs_in (in_tables_1_1 (List.mem_of_getElem? (i := 177) rfl)) rfl
theorem qw_0ed5786ef0 : (Cond.fieldLink R_Objects 18 R_Objects "numbers" "[I") ∈ bs_W0 := bs_in (in_tables_1_1 (List.mem_of_getElem? (i := 178) rfl)) rfl
theorem qw_4e5fd4a1cd : (Cond.methodLink R_Looks 43 yLooks_has) ∈ bs_W0 := bs_in (in_tables_1_2 (List.mem_of_getElem? (i := 220) rfl)) rfl
theorem qw_7dd30c70bd : (Cond.fieldLink R_Looks 15 R_Looks "extents" "[I") ∈ bs_W0 := bs_in (in_tables_1_1 (List.mem_of_getElem? (i := 203) rfl)) rfl
theorem qw_427e012605 : (Cond.fieldLink R_Looks 18 R_Looks "meanings" "[I") ∈ bs_W0 := bs_in (in_tables_1_1 (List.mem_of_getElem? (i := 204) rfl)) rfl
theorem qw_5344cf30a3 : (Cond.fieldLink R_Looks 21 R_Looks "numbers" "[I") ∈ bs_W0 := bs_in (in_tables_1_1 (List.mem_of_getElem? (i := 205) rfl)) rfl
theorem qw_3682c3415f : (Cond.fieldLink R_Trees 21 R_Trees "firsts" "[I") ∈ bs_W0 := bs_in (in_tables_1_1 (List.mem_of_getElem? (i := 41) rfl)) rfl
theorem qw_887ccc8355 : (Cond.fieldLink R_Trees 18 R_Trees "counts" "[I") ∈ bs_W0 := bs_in (in_tables_1_1 (List.mem_of_getElem? (i := 40) rfl)) rfl
theorem qw_e019bcaac8 : (Cond.methodLink R_Trees 35 yTrees_firstOf) ∈ bs_W0 := bs_in (in_tables_1_2 (List.mem_of_getElem? (i := 191) rfl)) rfl
theorem qw_a799e12b89 : (Cond.methodLink R_Types 44 yTypes_classOf) ∈ bs_W0 := bs_in (in_tables_1_3 (List.mem_of_getElem? (i := 113) rfl)) rfl
theorem qw_f2b19d19af : (Cond.methodLink R_Types 47 yTypes_countOf) ∈ bs_W0 := bs_in (in_tables_1_3 (List.mem_of_getElem? (i := 114) rfl)) rfl
theorem qw_89684d58b5 : (Cond.methodLink R_Types 50 yTypes_goesDown) ∈ bs_W0 := bs_in (in_tables_1_4 (List.mem_of_getElem? (i := 154) rfl)) rfl
theorem qw_7f99fbf9f4 : (Cond.methodLink R_Types 53 yTypes_rightOf) ∈ bs_W0 := bs_in (in_tables_1_4 (List.mem_of_getElem? (i := 158) rfl)) rfl
theorem qw_d08a1abfac : (Cond.fieldLink R_Looks 24 R_Looks "constancies" "[I") ∈ bs_W0 := bs_in (in_tables_1_1 (List.mem_of_getElem? (i := 206) rfl)) rfl
theorem qw_ae9666db7d : (Cond.fieldLink R_Names 27 R_Names "chains" "[I") ∈ bs_W0 := bs_in (in_tables_1_1 (List.mem_of_getElem? (i := 104) rfl)) rfl
theorem qw_a8d4a716ae : (Cond.fieldLink R_Names 9 R_Names "spellings" "[I") ∈ bs_W0 := bs_in (in_tables_1_1 (List.mem_of_getElem? (i := 99) rfl)) rfl
theorem qw_ddfb92ec41 : (Cond.fieldLink R_Names 24 R_Names "outers" "[I") ∈ bs_W0 := bs_in (in_tables_1_1 (List.mem_of_getElem? (i := 103) rfl)) rfl
theorem qw_125e0af2e4 : (Cond.methodLink R_Names 60 yNames_find) ∈ bs_W0 := bs_in (in_tables_1_5 (List.mem_of_getElem? (i := 32) rfl)) rfl
theorem qw_c2f4fc63da : (Cond.fieldLink R_Names 30 R_Names "starts" "[I") ∈ bs_W0 := bs_in (in_tables_1_1 (List.mem_of_getElem? (i := 105) rfl)) rfl
theorem qw_40882965f2 : (Cond.fieldLink R_Names 37 R_Names "scopes" "I") ∈ bs_W0 := bs_in (in_tables_1_1 (List.mem_of_getElem? (i := 107) rfl)) rfl
theorem qw_f4898d707a : (Cond.methodLink R_Rows 41 yRows_get) ∈ bs_W0 := bs_in (in_tables_1_4 (List.mem_of_getElem? (i := 64) rfl)) rfl
theorem qw_643b0e6c65 : (Cond.methodLink R_Rows 44 yLogic_isClear) ∈ bs_W0 := bs_in (in_tables_1_4 (List.mem_of_getElem? (i := 65) rfl)) rfl
theorem qw_71b4d70101 : (Cond.methodLink R_Rows 49 yLogic_isHigh) ∈ bs_W0 := bs_in (in_tables_1_4 (List.mem_of_getElem? (i := 74) rfl)) rfl
theorem qw_899a0812ea : (Cond.fieldLink R_Looker 27 R_Looker "hidden" "[I") ∈ bs_W0 := bs_in (in_tables_1_2 (List.mem_of_getElem? (i := 32) rfl)) rfl
theorem qw_22d2793f25 : (Cond.fieldLink R_Looker 35 R_Looker "trees" "LTypeBook$Trees;") ∈ bs_W0 := bs_in (in_tables_1_2 (List.mem_of_getElem? (i := 26) rfl)) rfl
theorem qw_ea9162cf9a : (Cond.methodLink R_Looker 138 yTrees_valueOf) ∈ bs_W0 := bs_in (in_tables_1_3 (List.mem_of_getElem? (i := 167) rfl)) rfl
theorem qw_195048702c : (Cond.methodLink R_Looker 160 yTrees_countOf) ∈ bs_W0 := bs_in (in_tables_1_3 (List.mem_of_getElem? (i := 168) rfl)) rfl
theorem qw_77aeadf252 : (Cond.fieldLink R_Looker 12 R_Looker "seen" "LTypeBook$Looks;") ∈ bs_W0 := bs_in (in_tables_1_2 (List.mem_of_getElem? (i := 29) rfl)) rfl
theorem qw_f23e8ec7f8 : (Cond.methodLink R_Looker 101 yLooks_classOf) ∈ bs_W0 := bs_in (in_tables_1_4 (List.mem_of_getElem? (i := 211) rfl)) rfl
theorem qw_a593f61add : (Cond.methodLink R_Looker 104 yLooks_extentOf) ∈ bs_W0 := bs_in (in_tables_1_5 (List.mem_of_getElem? (i := 71) rfl)) rfl
theorem qw_abb87946e7 : (Cond.fieldLink R_Looker 43 R_Looker "types" "LTypeBook$Types;") ∈ bs_W0 := bs_in (in_tables_1_2 (List.mem_of_getElem? (i := 28) rfl)) rfl
theorem qw_80ac4113df : (Cond.methodLink R_Looker 107 yTypes_classOf) ∈ bs_W0 := bs_in (in_tables_1_5 (List.mem_of_getElem? (i := 72) rfl)) rfl
theorem qw_a6b1bdd3ae : (Cond.methodLink R_Looker 110 yTypes_extentOf) ∈ bs_W0 := bs_in (in_tables_1_5 (List.mem_of_getElem? (i := 73) rfl)) rfl
theorem qw_7e695d47da : (Cond.methodLink R_Looker 111 yLooks_numberOf) ∈ bs_W0 := bs_in (in_tables_1_4 (List.mem_of_getElem? (i := 213) rfl)) rfl
theorem qw_3ab14e380a : (Cond.methodLink R_Looker 87 yLooks_isFixed) ∈ bs_W0 := bs_in (in_tables_1_4 (List.mem_of_getElem? (i := 212) rfl)) rfl
theorem qw_6a2da56b19 : (Cond.methodLink R_Looker 114 yTypes_leftOf) ∈ bs_W0 := bs_in (in_tables_1_5 (List.mem_of_getElem? (i := 81) rfl)) rfl
theorem qw_860591b8df : (Cond.methodLink R_Looker 117 yTypes_rightOf) ∈ bs_W0 := bs_in (in_tables_1_5 (List.mem_of_getElem? (i := 82) rfl)) rfl
theorem qw_a0a252684f : (Cond.fieldLink R_Looker 31 R_Looker "at" "I") ∈ bs_W0 := bs_in (in_tables_1_2 (List.mem_of_getElem? (i := 33) rfl)) rfl
theorem qw_8a98d268f4 : (Cond.methodLink R_Looker 90 yLooker_classMisfit) ∈ bs_W0 := bs_in (in_tables_1_5 (List.mem_of_getElem? (i := 67) rfl)) rfl
theorem qw_43e62466e9 : (Cond.methodLink R_Looker 94 yLooker_earlier) ∈ bs_W0 := bs_in (in_tables_1_5 (List.mem_of_getElem? (i := 74) rfl)) rfl
theorem qw_37965fb84c : (Cond.methodLink R_Looker 97 yLooker_isOutside) ∈ bs_W0 := bs_in (in_tables_1_5 (List.mem_of_getElem? (i := 77) rfl)) rfl
theorem qw_213d2bb2ac : (Cond.fieldLink R_Looker 39 R_Looker "names" "LTypeBook$Names;") ∈ bs_W0 := bs_in (in_tables_1_2 (List.mem_of_getElem? (i := 27) rfl)) rfl
theorem qw_a4a7b18094 : (Cond.methodLink R_Looker 187 yNames_find) ∈ bs_W0 := bs_in (in_tables_1_4 (List.mem_of_getElem? (i := 209) rfl)) rfl
theorem qw_655d915bbc : (Cond.methodLink R_Looker 192 yNames_sortOf) ∈ bs_W0 := bs_in (in_tables_1_4 (List.mem_of_getElem? (i := 210) rfl)) rfl
theorem qw_f48a4a6aed : (Cond.methodLink R_Looker 80 yTrees_kindOf) ∈ bs_W0 := bs_in (in_tables_1_3 (List.mem_of_getElem? (i := 48) rfl)) rfl
theorem qw_63f3ae9b1e : (Cond.methodLink R_Looker 181 yLooker_namedTypeFault) ∈ bs_W0 := bs_in (in_tables_1_4 (List.mem_of_getElem? (i := 205) rfl)) rfl
theorem qw_844ff72d87 : (Cond.methodLink R_Looker 144 yTrees_leftOfTwo) ∈ bs_W0 := bs_in (in_tables_1_3 (List.mem_of_getElem? (i := 226) rfl)) rfl
theorem qw_dd79a0a1bc : (Cond.methodLink R_Looker 184 yLooker_boundsFault) ∈ bs_W0 := bs_in (in_tables_1_4 (List.mem_of_getElem? (i := 214) rfl)) rfl
theorem qw_108db87eb2 : (Cond.methodLink R_Looker 201 yNames_numberOf) ∈ bs_W0 := bs_in (in_tables_1_5 (List.mem_of_getElem? (i := 9) rfl)) rfl
theorem qw_9bfdade5f5 : (Cond.fieldLink R_Meanings 23 R_Meanings "objects" "LTypeBook$Objects;") ∈ bs_W0 := bs_in (in_tables_1_2 (List.mem_of_getElem? (i := 13) rfl)) rfl
theorem qw_2c7313498c : (Cond.methodLink R_Meanings 103 yObjects_whatOf) ∈ bs_W0 := bs_in (in_tables_1_3 (List.mem_of_getElem? (i := 125) rfl)) rfl
theorem qw_e2a2dba4a9 : (Cond.fieldLink R_Meanings 19 R_Meanings "types" "LTypeBook$Types;") ∈ bs_W0 := bs_in (in_tables_1_2 (List.mem_of_getElem? (i := 12) rfl)) rfl
theorem qw_bc7306873f : (Cond.methodLink R_Meanings 62 yObjects_typeOfObject) ∈ bs_W0 := bs_in (in_tables_1_3 (List.mem_of_getElem? (i := 93) rfl)) rfl
theorem qw_ac19273b21 : (Cond.methodLink R_Meanings 67 yTypes_classOf) ∈ bs_W0 := bs_in (in_tables_1_3 (List.mem_of_getElem? (i := 101) rfl)) rfl
theorem qw_2a07109efc : (Cond.fieldLink R_Meanings 15 R_Meanings "names" "LTypeBook$Names;") ∈ bs_W0 := bs_in (in_tables_1_2 (List.mem_of_getElem? (i := 11) rfl)) rfl
theorem qw_c54cffb97e : (Cond.fieldLink R_Meanings 9 R_Meanings "trees" "LTypeBook$Trees;") ∈ bs_W0 := bs_in (in_tables_1_2 (List.mem_of_getElem? (i := 10) rfl)) rfl
theorem qw_b5139988c8 : (Cond.methodLink R_Meanings 37 yTrees_valueOf) ∈ bs_W0 := bs_in (in_tables_1_3 (List.mem_of_getElem? (i := 69) rfl)) rfl
theorem qw_941b68ccbe : (Cond.methodLink R_Meanings 40 yNames_find) ∈ bs_W0 := bs_in (in_tables_1_3 (List.mem_of_getElem? (i := 73) rfl)) rfl
theorem qw_79c9b178a8 : (Cond.methodLink R_Meanings 48 yNames_sortOf) ∈ bs_W0 := bs_in (in_tables_1_3 (List.mem_of_getElem? (i := 85) rfl)) rfl
theorem qw_f03e5d487b : (Cond.methodLink R_Meanings 45 yNames_numberOf) ∈ bs_W0 := bs_in (in_tables_1_3 (List.mem_of_getElem? (i := 81) rfl)) rfl
theorem qw_33e16e4dc6 : (Cond.methodLink R_Meanings 184 yTypes_leftOf) ∈ bs_W0 := bs_in (in_tables_1_4 (List.mem_of_getElem? (i := 189) rfl)) rfl
theorem qw_8bca252105 : (Cond.methodLink R_Meanings 187 yTypes_rightOf) ∈ bs_W0 := bs_in (in_tables_1_4 (List.mem_of_getElem? (i := 193) rfl)) rfl
theorem qw_432ed99f40 : (Cond.methodLink R_Meanings 190 Lib.Math.max.name) ∈ bs_W0 := bs_in (in_tables_1_4 (List.mem_of_getElem? (i := 194) rfl)) rfl
theorem qw_7cc87a9f9b : (Cond.static Lib.Math.max.name) ∈ bs_W0 := bs_in (in_tables_1_1 (List.mem_of_getElem? (i := 81) rfl)) rfl
theorem qw_6b973c1ba4 : (Cond.code Lib.Math.max.name Lib.Math.max.code 2 (some .int)) ∈ bs_W0 := bs_in (in_tables_1_1 (List.mem_of_getElem? (i := 82) rfl)) rfl
theorem qw_883a959cdb : (Cond.methodLink R_Meanings 195 Lib.Math.min.name) ∈ bs_W0 := bs_in (in_tables_1_4 (List.mem_of_getElem? (i := 195) rfl)) rfl
theorem qw_1a05fe5770 : (Cond.static Lib.Math.min.name) ∈ bs_W0 := bs_in (in_tables_1_1 (List.mem_of_getElem? (i := 94) rfl)) rfl
theorem qw_5e99ca5e66 : (Cond.code Lib.Math.min.name Lib.Math.min.code 2 (some .int)) ∈ bs_W0 := bs_in (in_tables_1_1 (List.mem_of_getElem? (i := 95) rfl)) rfl
theorem qw_fae60a97b0 : (Cond.methodLink R_Meanings 198 yTypes_countOf) ∈ bs_W0 := bs_in (in_tables_1_4 (List.mem_of_getElem? (i := 196) rfl)) rfl
theorem qw_46160f6e07 : (Cond.fieldLink R_Operators 9 R_Operators "seen" "LTypeBook$Looks;") ∈ bs_W0 := bs_in (in_tables_1_2 (List.mem_of_getElem? (i := 0) rfl)) rfl
theorem qw_2e1b0e0eff : (Cond.methodLink R_Operators 15 yLooks_classOf) ∈ bs_W0 := bs_in (in_tables_1_3 (List.mem_of_getElem? (i := 189) rfl)) rfl
theorem qw_b0051a6c7a : (Cond.methodLink R_Operators 21 yLooks_extentOf) ∈ bs_W0 := bs_in (in_tables_1_3 (List.mem_of_getElem? (i := 193) rfl)) rfl
theorem qw_c3b3c98375 : (Cond.methodLink R_Operators 101 yOperators_widthOf) ∈ bs_W0 := bs_in (in_tables_1_4 (List.mem_of_getElem? (i := 6) rfl)) rfl
theorem qw_0526218670 : (Cond.methodLink R_Operators 98 yOperators_areOfOneClass) ∈ bs_W0 := bs_in (in_tables_1_3 (List.mem_of_getElem? (i := 238) rfl)) rfl
theorem qn_de7362ca2e : (Cond.fieldLinkNest R_Operators 48 R_Looks "rows" "LTypeBook$Rows;" "TypeBook") ∈ lw_tbl := in_tables_1_1 (List.mem_of_getElem? (i := 209) rfl)
theorem qw_0d8e65883a : (Cond.methodLink R_Operators 130 yRows_isClear) ∈ bs_W0 := bs_in (in_tables_1_4 (List.mem_of_getElem? (i := 60) rfl)) rfl
theorem qw_567f1aae5f : (Cond.methodLink R_Operators 36 yLooks_numberOf) ∈ bs_W0 := bs_in (in_tables_1_3 (List.mem_of_getElem? (i := 206) rfl)) rfl
theorem qw_1bb8bfda8f : (Cond.methodLink R_Operators 132 yRows_bitsOf) ∈ bs_W0 := bs_in (in_tables_1_4 (List.mem_of_getElem? (i := 70) rfl)) rfl
theorem qw_2b8ebea4b9 : (Cond.methodLink R_Operators 52 yRows_get) ∈ bs_W0 := bs_in (in_tables_1_3 (List.mem_of_getElem? (i := 220) rfl)) rfl
theorem qw_a34bb4dff1 : (Cond.methodLink R_Operators 111 yjInteger_compare) ∈ bs_W0 := bs_in (in_tables_1_4 (List.mem_of_getElem? (i := 53) rfl)) rfl
theorem qw_9422e74c3c : (Cond.methodLink R_Operators 116 yOperators_isClear) ∈ bs_W0 := bs_in (in_tables_1_4 (List.mem_of_getElem? (i := 56) rfl)) rfl
theorem qw_1ec68b5307 : (Cond.methodLink R_Operators 119 yOperators_countsAs) ∈ bs_W0 := bs_in (in_tables_1_4 (List.mem_of_getElem? (i := 66) rfl)) rfl
theorem qw_ea81ec05e8 : (Cond.constantLong R_Operators 123 (-9223372036854775808)) ∈ bs_W0 := bs_in (in_tables_1_4 (List.mem_of_getElem? (i := 75) rfl)) rfl
theorem qw_e0d1ecf615 : (Cond.methodLink R_Operators 125 yjLong_compare) ∈ bs_W0 := bs_in (in_tables_1_4 (List.mem_of_getElem? (i := 76) rfl)) rfl
theorem qw_464f80981e : (Cond.fieldLink R_TypeBook 53 R_TypeBook "faultNode" "I") ∈ bs_W0 := bs_in (in_tables_1_2 (List.mem_of_getElem? (i := 58) rfl)) rfl
theorem qw_6151ee7924 : (Cond.fieldLink R_TypeBook 10 R_TypeBook "trees" "LTypeBook$Trees;") ∈ bs_W0 := bs_in (in_tables_1_2 (List.mem_of_getElem? (i := 52) rfl)) rfl
theorem qw_1062a20d6a : (Cond.methodLink R_TypeBook 168 yTrees_valueOf) ∈ bs_W0 := bs_in (in_tables_1_5 (List.mem_of_getElem? (i := 27) rfl)) rfl
theorem qw_920bbe1ee1 : (Cond.methodLink R_TypeBook 134 yTrees_kindOf) ∈ bs_W0 := bs_in (in_tables_1_4 (List.mem_of_getElem? (i := 221) rfl)) rfl
theorem qw_75eb836d1a : (Cond.methodLink R_TypeBook 156 yTrees_countOf) ∈ bs_W0 := bs_in (in_tables_1_5 (List.mem_of_getElem? (i := 21) rfl)) rfl
theorem qw_cf09947176 : (Cond.methodLink R_TypeBook 244 yTrees_firstOf) ∈ bs_W0 := bs_in (in_tables_1_5 (List.mem_of_getElem? (i := 22) rfl)) rfl
theorem qw_a088f6ef48 : (Cond.fieldLink R_TypeBook 19 R_TypeBook "names" "LTypeBook$Names;") ∈ bs_W0 := bs_in (in_tables_1_2 (List.mem_of_getElem? (i := 53) rfl)) rfl
theorem qw_5bf4c88d20 : (Cond.methodLink R_TypeBook 177 yNames_isTaken) ∈ bs_W0 := bs_in (in_tables_1_5 (List.mem_of_getElem? (i := 28) rfl)) rfl
theorem qw_15066d379c : (Cond.methodLink R_TypeBook 247 yTypeBook_isNameOfOneBefore) ∈ bs_W0 := bs_in (in_tables_1_5 (List.mem_of_getElem? (i := 33) rfl)) rfl
theorem qw_4a6bff5ab0 : (Cond.constantLong R_Rows 27 15) ∈ bs_W0 := bs_in (in_tables_1_3 (List.mem_of_getElem? (i := 179) rfl)) rfl
theorem qw_14d339857e : (Cond.constantLong R_Rows 29 (-1)) ∈ bs_W0 := bs_in (in_tables_1_3 (List.mem_of_getElem? (i := 180) rfl)) rfl
theorem qw_b8cf967c79 : (Cond.methodLink R_Rows 52 yRows_set) ∈ bs_W0 := bs_in (in_tables_1_4 (List.mem_of_getElem? (i := 87) rfl)) rfl
theorem qw_0778b52d37 : (Cond.methodLink R_Rows 31 yRows_has) ∈ bs_W0 := bs_in (in_tables_1_3 (List.mem_of_getElem? (i := 149) rfl)) rfl
theorem qw_c9d4ab67c5 : (Cond.methodLink R_Rows 35 ⟨"java/lang/System", "arraycopy", "(Ljava/lang/Object;ILjava/lang/Object;II)V"⟩) ∈ bs_W0 := bs_in (in_tables_1_3 (List.mem_of_getElem? (i := 153) rfl)) rfl
theorem qw_d8fd3cc6ff : (Cond.native ⟨"java/lang/System", "arraycopy", "(Ljava/lang/Object;ILjava/lang/Object;II)V"⟩) ∈ bs_W0 := bs_in (in_tables_1_1 (List.mem_of_getElem? (i := 98) rfl)) rfl
theorem qw_fe691cbd75 : (Cond.static ⟨"java/lang/System", "arraycopy", "(Ljava/lang/Object;ILjava/lang/Object;II)V"⟩) ∈ bs_W0 := bs_in (in_tables_1_1 (List.mem_of_getElem? (i := 97) rfl)) rfl
theorem qw_3f8a6f3ebd : (Cond.initialized "java/lang/System") ∈ bs_W0 := bs_in (in_tables_1_1 (List.mem_of_getElem? (i := 6) rfl)) rfl
theorem qw_b87aa9f9e0 : (Cond.methodLink R_Operators 43 yLogic_not) ∈ bs_W0 := bs_in (in_tables_1_3 (List.mem_of_getElem? (i := 211) rfl)) rfl
theorem qw_6899d83413 : (Cond.methodLink R_Operators 39 yLooks_setNumber) ∈ bs_W0 := bs_in (in_tables_1_3 (List.mem_of_getElem? (i := 210) rfl)) rfl
theorem qw_f99ad17fe5 : (Cond.methodLink R_Operators 61 Lib.Math.abs.name) ∈ bs_W0 := bs_in (in_tables_1_3 (List.mem_of_getElem? (i := 225) rfl)) rfl
theorem qw_33d0c54276 : (Cond.methodLink R_Operators 58 yRows_set) ∈ bs_W0 := bs_in (in_tables_1_3 (List.mem_of_getElem? (i := 224) rfl)) rfl
theorem qw_c191710e5d : (Cond.methodLink R_Operators 24 yLooks_isFixed) ∈ bs_W0 := bs_in (in_tables_1_3 (List.mem_of_getElem? (i := 197) rfl)) rfl
theorem qw_97c82781ec : (Cond.methodLink R_Operators 28 yLooks_note) ∈ bs_W0 := bs_in (in_tables_1_3 (List.mem_of_getElem? (i := 201) rfl)) rfl
theorem qw_99a6d7a0dd : (Cond.methodLink R_Operators 32 yOperators_computeUnary) ∈ bs_W0 := bs_in (in_tables_1_3 (List.mem_of_getElem? (i := 202) rfl)) rfl
theorem qw_a4407ee8b0 : (Cond.methodLink R_Operators 108 yLogic_ofSigns) ∈ bs_W0 := bs_in (in_tables_1_4 (List.mem_of_getElem? (i := 29) rfl)) rfl
theorem qw_e9b8c9b1e9 : (Cond.methodLink R_Operators 104 yLogic_ofTruths) ∈ bs_W0 := bs_in (in_tables_1_4 (List.mem_of_getElem? (i := 26) rfl)) rfl
theorem qw_df3d8c3fd5 : (Cond.methodLink R_Operators 151 yRows_setBits) ∈ bs_W0 := bs_in (in_tables_1_4 (List.mem_of_getElem? (i := 88) rfl)) rfl
theorem qw_a4afa0eb1b : (Cond.methodLink R_Operators 148 yRows_setAll) ∈ bs_W0 := bs_in (in_tables_1_4 (List.mem_of_getElem? (i := 83) rfl)) rfl
theorem qw_e268513ce3 : (Cond.methodLink R_Operators 155 yOperators_elementOf) ∈ bs_W0 := bs_in (in_tables_1_4 (List.mem_of_getElem? (i := 96) rfl)) rfl
theorem qw_9930071977 : (Cond.methodLink R_Operators 136 yOperators_divided) ∈ bs_W0 := bs_in (in_tables_1_4 (List.mem_of_getElem? (i := 14) rfl)) rfl
theorem qw_c4acc06d08 : (Cond.constantLong R_Operators 140 2147483647) ∈ bs_W0 := bs_in (in_tables_1_4 (List.mem_of_getElem? (i := 20) rfl)) rfl
theorem qw_f2665edad9 : (Cond.constantLong R_Operators 142 (-2147483647)) ∈ bs_W0 := bs_in (in_tables_1_4 (List.mem_of_getElem? (i := 21) rfl)) rfl
theorem qw_fcae91e82f : (Cond.methodLink R_Operators 66 yOperators_resultClass) ∈ bs_W0 := bs_in (in_tables_1_3 (List.mem_of_getElem? (i := 234) rfl)) rfl
theorem qw_38a5a3e266 : (Cond.methodLink R_Operators 70 yOperators_resultLength) ∈ bs_W0 := bs_in (in_tables_1_4 (List.mem_of_getElem? (i := 2) rfl)) rfl
theorem qw_cfad81ad60 : (Cond.methodLink R_Operators 92 yOperators_join) ∈ bs_W0 := bs_in (in_tables_1_4 (List.mem_of_getElem? (i := 92) rfl)) rfl
theorem qw_7021c7185b : (Cond.methodLink R_Operators 89 yOperators_sumRows) ∈ bs_W0 := bs_in (in_tables_1_4 (List.mem_of_getElem? (i := 79) rfl)) rfl
theorem qw_6712b2d4fd : (Cond.methodLink R_Operators 85 yOperators_isOrdered) ∈ bs_W0 := bs_in (in_tables_1_4 (List.mem_of_getElem? (i := 49) rfl)) rfl
theorem qw_dd9a5adbb1 : (Cond.methodLink R_Operators 81 yOperators_areAlike) ∈ bs_W0 := bs_in (in_tables_1_4 (List.mem_of_getElem? (i := 45) rfl)) rfl
theorem qw_1b3bfb6306 : (Cond.methodLink R_Operators 77 yOperators_combine) ∈ bs_W0 := bs_in (in_tables_1_4 (List.mem_of_getElem? (i := 22) rfl)) rfl
theorem qw_055df11e33 : (Cond.methodLink R_Operators 73 yOperators_calculate) ∈ bs_W0 := bs_in (in_tables_1_4 (List.mem_of_getElem? (i := 10) rfl)) rfl
theorem qw_446a3f39f2 : (Cond.methodLink R_Operators 95 yOperators_shift) ∈ bs_W0 := bs_in (in_tables_1_4 (List.mem_of_getElem? (i := 100) rfl)) rfl
theorem qw_aa3d3bbcf9 : (Cond.fieldLink R_Meanings 27 R_Meanings "seen" "LTypeBook$Looks;") ∈ bs_W0 := bs_in (in_tables_1_2 (List.mem_of_getElem? (i := 14) rfl)) rfl
theorem qw_3b2c7270bb : (Cond.methodLink R_Meanings 72 yTypes_extentOf) ∈ bs_W0 := bs_in (in_tables_1_3 (List.mem_of_getElem? (i := 109) rfl)) rfl
theorem qw_39c162a16b : (Cond.methodLink R_Meanings 75 yMeanings_isConstant) ∈ bs_W0 := bs_in (in_tables_1_3 (List.mem_of_getElem? (i := 121) rfl)) rfl
theorem qw_454d4ae88d : (Cond.methodLink R_Meanings 79 yLooks_note) ∈ bs_W0 := bs_in (in_tables_1_3 (List.mem_of_getElem? (i := 129) rfl)) rfl
theorem qw_23315a9189 : (Cond.methodLink R_Meanings 85 yLooks_setMeaning) ∈ bs_W0 := bs_in (in_tables_1_3 (List.mem_of_getElem? (i := 133) rfl)) rfl
theorem qw_9efd1cd835 : (Cond.methodLink R_Meanings 88 yObjects_numberOf) ∈ bs_W0 := bs_in (in_tables_1_3 (List.mem_of_getElem? (i := 137) rfl)) rfl
theorem qw_86190d2de0 : (Cond.methodLink R_Meanings 89 yLooks_setNumber) ∈ bs_W0 := bs_in (in_tables_1_3 (List.mem_of_getElem? (i := 141) rfl)) rfl
theorem qn_3420aee8ba : (Cond.fieldLinkNest R_Meanings 92 R_Looks "rows" "LTypeBook$Rows;" "TypeBook") ∈ lw_tbl := in_tables_1_1 (List.mem_of_getElem? (i := 208) rfl)
theorem qn_d1f72cec6f : (Cond.fieldLinkNest R_Meanings 96 R_Objects "rows" "LTypeBook$Rows;" "TypeBook") ∈ lw_tbl := in_tables_1_1 (List.mem_of_getElem? (i := 180) rfl)
theorem qw_02f321e768 : (Cond.methodLink R_Meanings 97 yRows_copy) ∈ bs_W0 := bs_in (in_tables_1_3 (List.mem_of_getElem? (i := 145) rfl)) rfl
theorem qw_08981d77a7 : (Cond.methodLink R_Meanings 31 yTrees_countOf) ∈ bs_W0 := bs_in (in_tables_1_3 (List.mem_of_getElem? (i := 65) rfl)) rfl
theorem qw_2c479d8bd0 : (Cond.methodLink R_Meanings 51 yMeanings_noteObject) ∈ bs_W0 := bs_in (in_tables_1_3 (List.mem_of_getElem? (i := 89) rfl)) rfl
theorem qw_0d0f2aa427 : (Cond.methodLink R_Meanings 55 yNames_partOf) ∈ bs_W0 := bs_in (in_tables_1_3 (List.mem_of_getElem? (i := 154) rfl)) rfl
theorem qw_c5322992c7 : (Cond.methodLink R_Meanings 58 yMeanings_noteValue) ∈ bs_W0 := bs_in (in_tables_1_3 (List.mem_of_getElem? (i := 158) rfl)) rfl
theorem qw_631ccf37b6 : (Cond.methodLink R_Meanings 120 yLooks_classOf) ∈ bs_W0 := bs_in (in_tables_1_4 (List.mem_of_getElem? (i := 116) rfl)) rfl
theorem qw_e1e43cfc73 : (Cond.methodLink R_Meanings 121 yLooks_isFixed) ∈ bs_W0 := bs_in (in_tables_1_4 (List.mem_of_getElem? (i := 117) rfl)) rfl
theorem qw_58178e0f63 : (Cond.methodLink R_Meanings 124 yLooks_numberOf) ∈ bs_W0 := bs_in (in_tables_1_4 (List.mem_of_getElem? (i := 127) rfl)) rfl
theorem qw_de7e185c5e : (Cond.methodLink R_Meanings 125 yTypes_fromRight) ∈ bs_W0 := bs_in (in_tables_1_4 (List.mem_of_getElem? (i := 150) rfl)) rfl
theorem qw_a0ada774ee : (Cond.methodLink R_Meanings 128 yRows_get) ∈ bs_W0 := bs_in (in_tables_1_4 (List.mem_of_getElem? (i := 162) rfl)) rfl
theorem qw_6dd2778f5c : (Cond.methodLink R_Meanings 143 yTrees_kindOf) ∈ bs_W0 := bs_in (in_tables_1_4 (List.mem_of_getElem? (i := 133) rfl)) rfl
theorem qw_9ed826734f : (Cond.methodLink R_Meanings 146 yLooks_meaningOf) ∈ bs_W0 := bs_in (in_tables_1_4 (List.mem_of_getElem? (i := 134) rfl)) rfl
theorem qw_6a27f80c36 : (Cond.methodLink R_Meanings 149 yLooks_extentOf) ∈ bs_W0 := bs_in (in_tables_1_4 (List.mem_of_getElem? (i := 118) rfl)) rfl
theorem qw_94e5b643f7 : (Cond.methodLink R_Meanings 150 yRows_bitsOf) ∈ bs_W0 := bs_in (in_tables_1_4 (List.mem_of_getElem? (i := 119) rfl)) rfl
theorem qw_fd05335de5 : (Cond.methodLink R_Meanings 154 yRows_isClear) ∈ bs_W0 := bs_in (in_tables_1_4 (List.mem_of_getElem? (i := 120) rfl)) rfl
theorem qw_02cd7db582 : (Cond.constantLong R_Meanings 158 2147483647) ∈ bs_W0 := bs_in (in_tables_1_4 (List.mem_of_getElem? (i := 121) rfl)) rfl
theorem qw_5a6c519f0e : (Cond.methodLink R_Meanings 160 yRows_setBits) ∈ bs_W0 := bs_in (in_tables_1_4 (List.mem_of_getElem? (i := 128) rfl)) rfl
theorem qw_98b2e6b46a : (Cond.methodLink R_Meanings 131 yMeanings_numberOfRow) ∈ bs_W0 := bs_in (in_tables_1_4 (List.mem_of_getElem? (i := 112) rfl)) rfl
theorem qw_8972b5ce5c : (Cond.methodLink R_Meanings 134 yTrees_leftOfTwo) ∈ bs_W0 := bs_in (in_tables_1_4 (List.mem_of_getElem? (i := 122) rfl)) rfl
theorem qw_041f192a6b : (Cond.methodLink R_Meanings 137 yMeanings_bits) ∈ bs_W0 := bs_in (in_tables_1_4 (List.mem_of_getElem? (i := 123) rfl)) rfl
theorem qw_f7151b70e2 : (Cond.methodLink R_Meanings 140 yMeanings_edge) ∈ bs_W0 := bs_in (in_tables_1_4 (List.mem_of_getElem? (i := 129) rfl)) rfl
theorem qw_1c1a520089 : (Cond.methodLink R_Meanings 110 yMeanings_objectAt) ∈ bs_W0 := bs_in (in_tables_1_4 (List.mem_of_getElem? (i := 138) rfl)) rfl
theorem qw_5342b138aa : (Cond.methodLink R_Meanings 113 yMeanings_isRow) ∈ bs_W0 := bs_in (in_tables_1_4 (List.mem_of_getElem? (i := 142) rfl)) rfl
theorem qw_e79345225d : (Cond.methodLink R_Meanings 116 yMeanings_element) ∈ bs_W0 := bs_in (in_tables_1_4 (List.mem_of_getElem? (i := 146) rfl)) rfl
theorem qw_11cbdab6fb : (Cond.methodLink R_Meanings 106 yMeanings_applyFunction) ∈ bs_W0 := bs_in (in_tables_1_4 (List.mem_of_getElem? (i := 108) rfl)) rfl
theorem qw_63bfba27f7 : (Cond.methodLink R_Meanings 171 yTypes_goesDown) ∈ bs_W0 := bs_in (in_tables_1_4 (List.mem_of_getElem? (i := 175) rfl)) rfl
theorem qw_b68edfa9a7 : (Cond.methodLink R_Meanings 174 yRows_set) ∈ bs_W0 := bs_in (in_tables_1_4 (List.mem_of_getElem? (i := 176) rfl)) rfl
theorem qw_88d34ce9ff : (Cond.methodLink R_Meanings 164 yMeanings_isUnknown) ∈ bs_W0 := bs_in (in_tables_1_4 (List.mem_of_getElem? (i := 167) rfl)) rfl
theorem qw_61f742eb08 : (Cond.methodLink R_Meanings 167 yMeanings_cut) ∈ bs_W0 := bs_in (in_tables_1_4 (List.mem_of_getElem? (i := 171) rfl)) rfl
theorem qw_d7f92bc95d : (Cond.methodLink R_Meanings 181 yMeanings_boundOf) ∈ bs_W0 := bs_in (in_tables_1_4 (List.mem_of_getElem? (i := 185) rfl)) rfl
theorem qw_ef57f773bb : (Cond.methodLink R_Meanings 178 yMeanings_noteAttribute) ∈ bs_W0 := bs_in (in_tables_1_4 (List.mem_of_getElem? (i := 181) rfl)) rfl
theorem qw_4a9343ff4b : (Cond.methodLink R_Looker 163 yLooks_note) ∈ bs_W0 := bs_in (in_tables_1_3 (List.mem_of_getElem? (i := 169) rfl)) rfl
theorem qw_e1c79dd267 : (Cond.methodLink R_Looker 167 yLooks_setNumber) ∈ bs_W0 := bs_in (in_tables_1_3 (List.mem_of_getElem? (i := 170) rfl)) rfl
theorem qn_a213139c06 : (Cond.fieldLinkNest R_Looker 171 R_Looks "rows" "LTypeBook$Rows;" "TypeBook") ∈ lw_tbl := in_tables_1_1 (List.mem_of_getElem? (i := 211) rfl)
theorem qw_b9b967fb15 : (Cond.methodLink R_Looker 175 yRows_set) ∈ bs_W0 := bs_in (in_tables_1_3 (List.mem_of_getElem? (i := 175) rfl)) rfl
theorem qw_b381ab4f95 : (Cond.methodLink R_Looker 67 yTrees_firstOf) ∈ bs_W0 := bs_in (in_tables_1_3 (List.mem_of_getElem? (i := 47) rfl)) rfl
theorem qw_cd2627b7de : (Cond.methodLink R_Looker 120 yLooks_forget) ∈ bs_W0 := bs_in (in_tables_1_3 (List.mem_of_getElem? (i := 60) rfl)) rfl
theorem qw_3b1b00c0af : (Cond.fieldLink R_Looker 52 R_Looker "meanings" "LTypeBook$Meanings;") ∈ bs_W0 := bs_in (in_tables_1_2 (List.mem_of_getElem? (i := 31) rfl)) rfl
theorem qw_841e106d86 : (Cond.methodLink R_Looker 123 yMeanings_name) ∈ bs_W0 := bs_in (in_tables_1_3 (List.mem_of_getElem? (i := 61) rfl)) rfl
theorem qw_64cdf205e9 : (Cond.constant R_Looker 126 2147483647) ∈ bs_W0 := bs_in (in_tables_1_3 (List.mem_of_getElem? (i := 162) rfl)) rfl
theorem qw_79469fc119 : (Cond.methodLink R_Looker 127 yLooker_leaf) ∈ bs_W0 := bs_in (in_tables_1_3 (List.mem_of_getElem? (i := 163) rfl)) rfl
theorem qw_530ab62a99 : (Cond.methodLink R_Looker 131 yLooker_signs) ∈ bs_W0 := bs_in (in_tables_1_3 (List.mem_of_getElem? (i := 171) rfl)) rfl
theorem qw_818b7cddc8 : (Cond.methodLink R_Looker 134 yLooker_isOperator) ∈ bs_W0 := bs_in (in_tables_1_3 (List.mem_of_getElem? (i := 181) rfl)) rfl
theorem qw_859ddf9a22 : (Cond.fieldLink R_Looker 23 R_Looker "operators" "LTypeBook$Operators;") ∈ bs_W0 := bs_in (in_tables_1_2 (List.mem_of_getElem? (i := 30) rfl)) rfl
theorem qw_4f84b70a81 : (Cond.methodLink R_Looker 141 yOperators_unary) ∈ bs_W0 := bs_in (in_tables_1_3 (List.mem_of_getElem? (i := 185) rfl)) rfl
theorem qw_b6429af45c : (Cond.methodLink R_Looker 147 yOperators_binary) ∈ bs_W0 := bs_in (in_tables_1_3 (List.mem_of_getElem? (i := 230) rfl)) rfl
theorem qw_ad354f94c6 : (Cond.methodLink R_Looker 151 yMeanings_apply) ∈ bs_W0 := bs_in (in_tables_1_4 (List.mem_of_getElem? (i := 104) rfl)) rfl
theorem qw_ee93ba46af : (Cond.methodLink R_Looker 154 yMeanings_slice) ∈ bs_W0 := bs_in (in_tables_1_4 (List.mem_of_getElem? (i := 163) rfl)) rfl
theorem qw_19aeb78c12 : (Cond.methodLink R_Looker 157 yMeanings_attribute) ∈ bs_W0 := bs_in (in_tables_1_4 (List.mem_of_getElem? (i := 177) rfl)) rfl
theorem qw_afa922b076 : (Cond.methodLink R_Looks 47 yLooks_classOf) ∈ bs_W0 := bs_in (in_tables_1_4 (List.mem_of_getElem? (i := 231) rfl)) rfl
theorem qw_76af360b84 : (Cond.methodLink R_Looks 51 yLooks_extentOf) ∈ bs_W0 := bs_in (in_tables_1_4 (List.mem_of_getElem? (i := 232) rfl)) rfl
theorem qw_baacda067f : (Cond.methodLink R_Looks 54 yLooks_isFixed) ∈ bs_W0 := bs_in (in_tables_1_4 (List.mem_of_getElem? (i := 233) rfl)) rfl
theorem qw_a636540c8a : (Cond.methodLink R_Looks 57 yLooks_note) ∈ bs_W0 := bs_in (in_tables_1_4 (List.mem_of_getElem? (i := 234) rfl)) rfl
theorem qw_95efa8fed5 : (Cond.methodLink R_Looks 61 yLooks_meaningOf) ∈ bs_W0 := bs_in (in_tables_1_4 (List.mem_of_getElem? (i := 235) rfl)) rfl
theorem qw_fccdde971d : (Cond.methodLink R_Looks 64 yLooks_setMeaning) ∈ bs_W0 := bs_in (in_tables_1_4 (List.mem_of_getElem? (i := 236) rfl)) rfl
theorem qw_dce361ad2f : (Cond.methodLink R_Looks 68 yLooks_numberOf) ∈ bs_W0 := bs_in (in_tables_1_4 (List.mem_of_getElem? (i := 237) rfl)) rfl
theorem qw_58cf4eec0a : (Cond.methodLink R_Looks 71 yLooks_setNumber) ∈ bs_W0 := bs_in (in_tables_1_4 (List.mem_of_getElem? (i := 238) rfl)) rfl
theorem qw_50f3c1330a : (Cond.fieldLink R_Looks 32 R_Looks "rows" "LTypeBook$Rows;") ∈ bs_W0 := bs_in (in_tables_1_1 (List.mem_of_getElem? (i := 207) rfl)) rfl
theorem qw_4050b11111 : (Cond.methodLink R_Looks 74 yRows_copy) ∈ bs_W0 := bs_in (in_tables_1_4 (List.mem_of_getElem? (i := 239) rfl)) rfl
theorem qw_ce0ad21609 : (Cond.methodLink R_Objects 45 yLooks_numberOf) ∈ bs_W0 := bs_in (in_tables_1_5 (List.mem_of_getElem? (i := 94) rfl)) rfl
theorem qw_f4aeeaf054 : (Cond.fieldLink R_Objects 26 R_Objects "rows" "LTypeBook$Rows;") ∈ bs_W0 := bs_in (in_tables_1_1 (List.mem_of_getElem? (i := 179) rfl)) rfl
theorem qn_d9aceef3ce : (Cond.fieldLinkNest R_Objects 51 R_Looks "rows" "LTypeBook$Rows;" "TypeBook") ∈ lw_tbl := in_tables_1_1 (List.mem_of_getElem? (i := 210) rfl)
theorem qw_d8c0d69073 : (Cond.methodLink R_Objects 52 yRows_copy) ∈ bs_W0 := bs_in (in_tables_1_5 (List.mem_of_getElem? (i := 95) rfl)) rfl
theorem qw_ddc03b0c9b : (Cond.methodLink R_Looker 64 yLooker_hideBelowAttributes) ∈ bs_W0 := bs_in (in_tables_1_3 (List.mem_of_getElem? (i := 43) rfl)) rfl
theorem qw_f3ed62502a : (Cond.methodLink R_Looker 73 yLooker_isHidden) ∈ bs_W0 := bs_in (in_tables_1_3 (List.mem_of_getElem? (i := 52) rfl)) rfl
theorem qw_d6c8e7411b : (Cond.methodLink R_Looker 77 yLooker_lookAt) ∈ bs_W0 := bs_in (in_tables_1_3 (List.mem_of_getElem? (i := 56) rfl)) rfl
theorem qw_287ec6b8fc : (Cond.methodLink R_Looker 83 yLooks_copy) ∈ bs_W0 := bs_in (in_tables_1_4 (List.mem_of_getElem? (i := 227) rfl)) rfl
section CPL
variable {p : Program} {l : Launch} {e : Env} {R : Room} {s : State} {m : MethodId} {args : Array Value} {below : List Frame} {meth : Method} {c : Code} {H : Heap} {locs : List Loc} {cells slots : Nat} {Q : State → Prop}
variable {pc : Nat} {ls : Array Slot} {rest : List Value} {D : va_G} {cl : List vw_C} {A Z : Nat → Prop} {a : Nat} {tys : List (ClassId × FieldType)} {ws : va_W} {H0 : Heap}
theorem st_copyi {cc : ByteArray} (hexec : p.tables.exec = Jvm.exec) (hb : c.code = cc) (hml : c.maxLocals = ls.size) {own : String} {index : Nat} (hown : s.vm.findClass own = some m.cls) (hlink : (Cond.methodLink own index arraycopyName).before args s = true) (hnat : (Cond.native arraycopyName).before args s = true) (hstat : (Cond.static arraycopyName).before args s = true) (hini : (Cond.initialized "java/lang/System").before args s = true)
    (hK : va_K D cl tys s) (hP : va_P D cl ws H) (hD : va_D Z ws) (hZA : ∀ q, Z q → A q) (hS : va_S A H0 H locs) (q1 t0 t1 : Nat) {a0 : Nat} {c0 c1 : ClassId} {n0 n1 : Nat} {f g : Nat → Int32} (hc0 : H[a0]? = some (vp_cell c0 (n0, .inl f))) (ha1 : ws[q1]? = some (a, .inl (c1, n1, .inl g))) (ht0 : tys[t0]? = some (c0, .int)) (ht1 : tys[t1]? = some (c1, .int))
    {sp dp n : Int32} (h1 : ¬ sp < 0) (h2 : ¬ dp < 0) (h3 : ¬ n < 0) (h4 : sp.toNatClampNeg + n.toNatClampNeg ≤ n0) (h5 : dp.toNatClampNeg + n.toNatClampNeg ≤ n1)
    (hframes : 1 ≤ R.frames) (hlocals : (rest.map fun v => v.category).sum + (nativeFrameWords "java/lang/System" "arraycopy" 5 + 11) ≤ R.locals) (hdg : decode cc pc = .ok (.invokestatic index, 3))
    (kk : ∀ (H1 : Heap) (locs1 : List Loc), va_P D cl (ws.set q1 (a, .inl (c1, n1, .inl (va_cpy f g sp.toNatClampNeg dp.toNatClampNeg n.toNatClampNeg)))) H1 → va_D Z (ws.set q1 (a, .inl (c1, n1, .inl (va_cpy f g sp.toNatClampNeg dp.toNatClampNeg n.toNatClampNeg)))) → va_S A H0 H1 locs1 → H1.size = H.size → (∀ q : Nat, q ≠ a → H1[q]? = H[q]?) → W p l e R s m args below meth c H1 locs1 cells slots Q (F0 m (pc + 3) ls rest)) : W p l e R s m args below meth c H locs cells slots Q (F0 m pc ls (.int n :: .int dp :: .ref a :: .int sp :: .ref a0 :: rest)) := by
  have nn : ∀ z : Int32, ¬ z < 0 → z.toInt = (z.toNatClampNeg : Int) := by
    intro z hz
    have hz0 : (0 : Int) ≤ z.toInt := by
      have := Int32.not_lt.mp hz
      simpa using Int32.le_iff_toInt_le.mp this
    show z.toInt = ((z.toInt.toNat : Nat) : Int)
    omega
  intro T hT X
  have hc1 : H[a]? = some (vp_cell c1 (n1, .inl g)) := hP q1 _ ha1
  obtain ⟨-, k0, hk0, cm0, hkk0⟩ := (hK.2 t0 _ ht0).1 n0 (fun j => .int (f j))
  obtain ⟨-, k1, hk1, cm1, hkk1⟩ := (hK.2 t1 _ ht1).1 n1 (fun j => .int (g j))
  obtain ⟨vm', X', step⟩ := X.arraycopy hexec hown hlink hnat hstat hini (src := a0) (dst := a) (cs := vp_cell c0 (n0, .inl f)) (cd := vp_cell c1 (n1, .inl g)) (srcPos := sp) (destPos := dp) (n := n) (by rw [hT]; exact hc0) (by rw [hT]; exact hc1)
    (fun _ h => by cases h) (fun _ h => by cases h) (fun h => by cases h) (fun h => by cases h) hk0 hk1 hkk0 hkk1 (by simp [refKind]) h1 h2 h3
    (by rw [nn sp h1, nn n h3]; show ¬ _ > ((arrV c0 n0 (fun j => .int (f j))).slots.size : Int); rw [arrV_size]; omega)
    (by rw [nn dp h2, nn n h3]; show ¬ _ > ((arrV c1 n1 (fun j => .int (g j))).slots.size : Int); rw [arrV_size]; omega)
    (fun vm₁ _ i hi => by
      have e : (vp_cell c0 (n0, .inl f)).slots.getD (sp.toNatClampNeg + i) .null = .int (f (sp.toNatClampNeg + i)) := by
        show (arrV c0 n0 (fun j => .int (f j))).slots.getD _ _ = _
        rw [Array.getD_eq_getD_getElem?, arrV_read _ _ (by omega)]
        rfl
      refine ⟨?_, ?_⟩
      · rw [e]
        rfl
      · rw [e]
        exact trivial)
    (g := F0 m pc ls (.int n :: .int dp :: .ref a :: .int sp :: .ref a0 :: rest)) rfl (by rw [hml]) (rest := rest) rfl (by rw [hb]; exact hdg) hframes (by show 2 * 0 + _ + _ ≤ _; omega)
  have e1 : copied (vp_cell c0 (n0, .inl f)) (vp_cell c1 (n1, .inl g)) sp dp n = vp_cell c1 (n1, .inl (va_cpy f g sp.toNatClampNeg dp.toNatClampNeg n.toNatClampNeg)) := va_copied (fun z => .int z) c0 c1 f g h4
  rw [e1] at X' step
  have hl : a < H.size := (Array.getElem?_eq_some_iff.mp hc1).1
  have hheap : ((T.setVm vm').setCell a (vp_cell c1 (n1, .inl (va_cpy f g sp.toNatClampNeg dp.toNatClampNeg n.toNatClampNeg)))).heap = H.setIfInBounds a (vp_cell c1 (n1, .inl (va_cpy f g sp.toNatClampNeg dp.toNatClampNeg n.toNatClampNeg))) := by rw [← hT]; rfl
  have oq : ∀ q : Nat, q ≠ a → (H.setIfInBounds a (vp_cell c1 (n1, .inl (va_cpy f g sp.toNatClampNeg dp.toNatClampNeg n.toNatClampNeg))))[q]? = H[q]? := fun q hq => by simp [Array.getElem?_setIfInBounds, Ne.symm hq]
  obtain ⟨t, a1, b1⟩ := kk _ _ (hP.set hD ha1 (show (H.setIfInBounds a _)[a]? = some _ by simp [Array.getElem?_setIfInBounds, hl]) oq) (hD.set ha1) ⟨by simp; exact hS.1, fun q g1 g2 => by
      rw [oq q (fun e => g2 (by rw [e]; exact hZA _ (hD.2 q1 _ ha1)))]
      exact hS.2.1 q g1 g2, fun q hq => by
      rcases List.mem_append.mp hq with h | h
      · exact hS.2.2 q h
      · obtain ⟨z, -, hz⟩ := List.mem_map.mp h
        rw [← hz]
        exact hZA _ (hD.2 q1 _ ha1)⟩ (by simp) oq _ hheap X'
  exact ⟨t, step t a1, b1⟩
end CPL
section OPR
variable {l : Launch} {y : MethodName} {bytes : ByteArray} {maxL mc ms fr lo : Nat} {av : List Value} {γ : gE} {P : Heap → Prop} {A : Nat → Prop}
theorem mu_openR {rt : FieldType} {PO : Nat → Heap → Prop} (hrt : (∃ n, rt = .object n) ∨ ∃ t, rt = .array t) (hy : plainName y.cls = true) (hn : (lg_sl av).length ≤ maxL)
    (body : ∀ (p : Program) (e : Env) (s : State) (m : MethodId) (args : Array Value) (below : List Frame) (meth : Method) (c : Code) (ls : Array Slot) (Q : State → Prop), bs_F p s m args c bytes maxL y.cls → CX γ s → (∀ q, s.heap.size ≤ q → A q) → P s.heap → (∀ (H : Heap) (locs : List Loc) (v : Nat) (pc : Nat) (ls : Array Slot), va_S A s.heap H locs → PO v H → decode bytes pc = .ok (.areturn, 1) → W p l e (bs_rm fr mc ms lo) s m args below meth c H locs mc ms Q (F0 m pc ls [.ref v])) → lv_has ls maxL (lv_args 0 av) → W p l e (bs_rm fr mc ms lo) s m args below meth c s.heap [] 0 0 Q (F0 m 0 ls [])) : MU l y bytes maxL (some rt) fr lo mc ms av γ A P (mQr PO A) := by
  refine Met.ofW (cc := bytes) (maxL := maxL) (ret := some rt) hy rfl ?_
  intro p e s m args below meth c s₁ B hml hv
  obtain ⟨rfl, hC, hA, hP⟩ := hv
  have hts := bs_hts (atoms_spec (ws := Cond.code y bytes maxL (some rt) :: bs_W0) B.pre)
  have hl := lv_entry av (n := maxL) hn
  rw [lg_entry_eq]
  exact body p e s m _ below meth c _ _ ⟨B.exec, B.bytes, hml, findClass_of_methodNamed B.named, hts⟩ hC hA hP (fun H locs v _ _ hS hp hdg => W.aret B.exec B.bytes B.returns hrt (Or.inr ⟨v, rfl⟩) (fun t ht _ => ⟨⟨(), v, rfl, trivial, by show PO v t.heap; rw [ht]; exact hp⟩, hS.F ht⟩) hS.2.2 hdg B.notSynchronized) hl
theorem mu_openFR {rt : FieldType} {PO : Nat → Heap → Prop} (hrt : (∃ n, rt = .object n) ∨ ∃ t, rt = .array t) (hy : plainFor y = true) (hn : (lg_sl av).length ≤ maxL)
    (body : ∀ (p : Program) (e : Env) (s : State) (m : MethodId) (args : Array Value) (below : List Frame) (meth : Method) (c : Code) (ls : Array Slot) (Q : State → Prop), bs_F p s m args c bytes maxL y.cls → CX γ s → (∀ q, s.heap.size ≤ q → A q) → P s.heap → (∀ (H : Heap) (locs : List Loc) (v : Nat) (pc : Nat) (ls : Array Slot), va_S A s.heap H locs → PO v H → decode bytes pc = .ok (.areturn, 1) → W p l e (bs_rm fr mc ms lo) s m args below meth c H locs mc ms Q (F0 m pc ls [.ref v])) → lv_has ls maxL (lv_args 0 av) → W p l e (bs_rm fr mc ms lo) s m args below meth c s.heap [] 0 0 Q (F0 m 0 ls [])) : MU l y bytes maxL (some rt) fr lo mc ms av γ A P (mQr PO A) := by
  refine va_MetF (cc := bytes) (maxL := maxL) (ret := some rt) hy rfl ?_
  intro p e s m args below meth c s₁ B hml hv
  obtain ⟨rfl, hC, hA, hP⟩ := hv
  have hts := bs_hts (atoms_spec (ws := Cond.code y bytes maxL (some rt) :: bs_W0) B.pre)
  have hl := lv_entry av (n := maxL) hn
  rw [lg_entry_eq]
  exact body p e s m _ below meth c _ _ ⟨B.exec, B.bytes, hml, findClass_of_methodNamed B.named, hts⟩ hC hA hP (fun H locs v _ _ hS hp hdg => W.aret B.exec B.bytes B.returns hrt (Or.inr ⟨v, rfl⟩) (fun t ht _ => ⟨⟨(), v, rfl, trivial, by show PO v t.heap; rw [ht]; exact hp⟩, hS.F ht⟩) hS.2.2 hdg B.notSynchronized) hl
end OPR
theorem one_P {D : va_G} {cl : List vw_C} {a : Nat} {cA : ClassId} {x : vp_A} {H : Heap} (h : H[a]? = some (vp_cell cA x)) : va_P D cl [(a, .inl (cA, x))] H := fun k q hq => by
  cases k with
  | zero => cases hq; exact h
  | succ k => cases hq
theorem one_D {A : Nat → Prop} {q0 : Nat × va_E} (h : A q0.1) : va_D A [q0] := by
  refine ⟨fun i j p q h1 h2 _ => ?_, fun k q hq => ?_⟩
  · have h3 : i < 1 := (List.getElem?_eq_some_iff.mp h1).1
    have h4 : j < 1 := (List.getElem?_eq_some_iff.mp h2).1
    omega
  · have h3 : k < 1 := (List.getElem?_eq_some_iff.mp hq).1
    rw [show k = 0 by omega] at hq
    cases hq
    exact h
/-- a world in which one array has grown (or stayed) -/
theorem wr_join {D : va_G} {cl : List vw_C} {Z : Nat → Prop} {ws : va_W} {H H1 : Heap} {i b r : Nat} {e0 : va_E} {cA : ClassId} {x : vp_A} (hP : va_P D cl ws H) (hD : va_D Z ws) (hi : ws[i]? = some (b, e0)) (hk : ∀ q : Nat, q < H.size → H1[q]? = H[q]?) (hc : H1[r]? = some (vp_cell cA x)) (hr : r = b ∨ H.size ≤ r) (hZ : Z r) :
    va_P D cl (ws.set i (r, .inl (cA, x))) H1 ∧ va_D Z (ws.set i (r, .inl (cA, x))) := by
  have hlt : i < ws.length := (List.getElem?_eq_some_iff.mp hi).1
  have at' : ∀ (k : Nat) (q : Nat × va_E), (ws.set i (r, .inl (cA, x)))[k]? = some q → (k = i ∧ q = (r, .inl (cA, x))) ∨ (k ≠ i ∧ ws[k]? = some q) := by
    intro k q hq
    by_cases h : k = i
    · subst h
      rw [List.getElem?_set_self hlt] at hq
      exact Or.inl ⟨rfl, (Option.some.inj hq).symm⟩
    · rw [List.getElem?_set_ne (Ne.symm h)] at hq
      exact Or.inr ⟨h, hq⟩
  refine ⟨fun k q hq => ?_, fun j k p q hp hq hpq => ?_, fun k q hq => ?_⟩
  · rcases at' k q hq with ⟨-, rfl⟩ | ⟨-, h⟩
    · exact hc
    · exact (hP k q h).kept (hk _ (hP k q h).lt)
  · rcases at' j p hp with ⟨h1, h2⟩ | ⟨h1, h2⟩ <;> rcases at' k q hq with ⟨h3, h4⟩ | ⟨h3, h4⟩
    · omega
    · exfalso
      rw [h2] at hpq
      rcases hr with hr | hr
      · exact h3 (hD.1 k i q (b, e0) h4 hi (by rw [← hpq]; exact hr))
      · have := (hP k q h4).lt
        rw [← hpq] at this
        exact absurd this (by simpa using hr)
    · exfalso
      rw [h4] at hpq
      rcases hr with hr | hr
      · exact h1 (hD.1 j i p (b, e0) h2 hi (by rw [hpq]; exact hr))
      · have := (hP j p h2).lt
        rw [hpq] at this
        exact absurd this (by simpa using hr)
    · exact hD.1 j k p q h2 h4 hpq
  · rcases at' k q hq with ⟨-, rfl⟩ | ⟨-, h⟩
    · exact hZ
    · exact hD.2 k q h
theorem sb_cpy0' {α : Type} {f g : Nat → α} {n j : Nat} (h : j < n) : va_cpy f g 0 0 n j = f j := by simp [va_cpy, h]
def wl (n N : Nat) : Nat := if N ≤ n then n else max N (2 * n)
def wc (n N : Nat) : Nat := if N ≤ n then 0 else 1
def wm (n N : Nat) : Nat := if N ≤ n then 0 else max N (2 * n)
theorem wl_ok {n N : Nat} (hn : n ≤ 8192) (hN : N ≤ 4096) : N ≤ wl n N ∧ n ≤ wl n N ∧ wl n N ≤ 8192 := by
  unfold wl
  by_cases h : N ≤ n
  · rw [if_pos h]
    omega
  · rw [if_neg h]
    omega
theorem in_sz {N n : Nat} (h : N < n) (hn : n ≤ 8192) : vp_in (nI N) n := vp_in_nI h (by omega)
theorem roots_eq {rt k : Nat} (h : k ≤ rt) : nI rt + (1 - nI k) = nI (rt + 1 - k) := by
  have h1 : (1 : Int32) = nI 1 := rfl
  rw [← pk_sub (a := rt + 1) (b := k) (by omega), ← nI_add rt 1, h1, Int32.sub_eq_add_neg, Int32.sub_eq_add_neg, Int32.add_assoc]
theorem upd_ok {f : Nat → Int32} {p N : Nat} {x : Int32} (hp : p = N) (hx : ¬ x < 0) (hf : ∀ k, k < N → ¬ f k < 0) : ∀ k, k < N + 1 → ¬ upd f p x k < 0 := by
  intro k hk
  subst hp
  by_cases h : k = p
  · subst h
    rw [pk_us]
    exact hx
  · rw [pk_un h]
    exact hf k (by omega)
theorem st_ok {f : Nat → Int32} {p N sc : Nat} {x : Int32} {g : Nat → Nat} (hp : p = sc) (hx : x = nI N) (q1 : ∀ k, k < sc → f k = nI (g k)) (q2 : ∀ i j, i ≤ j → j < sc → g i ≤ g j) (q3 : ∀ k, k < sc → g k ≤ N) :
    ∃ g : Nat → Nat, (∀ k, k < sc + 1 → upd f p x k = nI (g k)) ∧ (∀ i j, i ≤ j → j < sc + 1 → g i ≤ g j) ∧ ∀ k, k < sc + 1 → g k ≤ N := by
  subst hp
  refine ⟨fun k => if k = p then N else g k, fun k hk => ?_, fun i j hij hj => ?_, fun k hk => ?_⟩
  · by_cases h : k = p
    · subst h
      rw [pk_us]
      show x = nI (if k = k then N else g k)
      rw [if_pos rfl]
      exact hx
    · rw [pk_un h]
      show f k = nI (if k = p then N else g k)
      rw [if_neg h]
      exact q1 k (by omega)
  · show (if i = p then N else g i) ≤ (if j = p then N else g j)
    by_cases h : j = p
    · rw [if_pos h]
      by_cases h2 : i = p
      · rw [if_pos h2]
        exact Nat.le_refl _
      · rw [if_neg h2]
        exact q3 i (by omega)
    · rw [if_neg h, if_neg (by omega)]
      exact q2 i j hij (by omega)
  · show (if k = p then N else g k) ≤ N
    by_cases h : k = p
    · rw [if_pos h]
      exact Nat.le_refl _
    · rw [if_neg h]
      exact q3 k (by omega)
def ku (κ : Nat → Nat) (i v : Nat) : Nat → Nat := fun j => if j = i then v else κ j
def fz (Z : Nat → Prop) (Hb H : Heap) : Prop := Hb.size ≤ H.size ∧ ∀ q : Nat, q < Hb.size → ¬ Z q → H[q]? = Hb[q]?
theorem fz.rf (Z : Nat → Prop) {D : va_G} {cl : List vw_C} {ws : va_W} {H : Heap} (_ : va_P D cl ws H) : fz Z H H := ⟨Nat.le_refl _, fun _ _ _ => rfl⟩
theorem fz.step {Z : Nat → Prop} {Hb H H1 : Heap} (h : fz Z Hb H) (hz : H.size ≤ H1.size) (hk : ∀ q : Nat, q < H.size → ¬ Z q → H1[q]? = H[q]?) : fz Z Hb H1 := ⟨Nat.le_trans h.1 hz, fun q h1 h2 => (hk q (Nat.lt_of_lt_of_le h1 h.1) h2).trans (h.2 q h1 h2)⟩
theorem fz.put {Z : Nat → Prop} {Hb H H1 : Heap} {a : Nat} (h : fz Z Hb H) (hz : H1.size = H.size) (ho : ∀ q, q ≠ a → H1[q]? = H[q]?) (ha : Z a) : fz Z Hb H1 := h.step (Nat.le_of_eq hz.symm) (fun q _ h2 => ho q (fun e => h2 (by rw [e]; exact ha)))
theorem dn_lt {k v : Int32} {N : Nat} (hk : -2147483648 < k.toInt) (ev : v = k + (-1)) (h : k.toInt < (N : Int)) : v.toInt < (N : Int) := by
  rw [ev, mu_dn hk]
  omega
theorem rows_len {N : Nat} (h1 : 16 ≤ N) (h2 : N ≤ 8192) : (if nI N < 1 then 1 else nI N) * 4 = nI (4 * N) := by
  have h : ¬ nI N < 1 := nI_nlt (a := N) (b := 1) (by omega) (by omega)
  rw [if_neg h, Nat.mul_comm 4 N]
  exact pk_mul N 4
