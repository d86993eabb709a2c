theorem dMeanings_init_0 : decode bMeanings_init 0 = .ok (.aload_n 0, 1) := by decide +kernel
theorem dMeanings_init_1 : decode bMeanings_init 1 = .ok (.invokespecial 3, 3) := by decide +kernel
theorem dMeanings_init_4 : decode bMeanings_init 4 = .ok (.aload_n 0, 1) := by decide +kernel
theorem dMeanings_init_5 : decode bMeanings_init 5 = .ok (.aload_n 1, 1) := by decide +kernel
theorem dMeanings_init_6 : decode bMeanings_init 6 = .ok (.putfield 9, 3) := by decide +kernel
theorem dMeanings_init_9 : decode bMeanings_init 9 = .ok (.aload_n 0, 1) := by decide +kernel
theorem dMeanings_init_10 : decode bMeanings_init 10 = .ok (.aload_n 2, 1) := by decide +kernel
theorem dMeanings_init_11 : decode bMeanings_init 11 = .ok (.putfield 15, 3) := by decide +kernel
theorem dMeanings_init_14 : decode bMeanings_init 14 = .ok (.aload_n 0, 1) := by decide +kernel
theorem dMeanings_init_15 : decode bMeanings_init 15 = .ok (.aload_n 3, 1) := by decide +kernel
theorem dMeanings_init_16 : decode bMeanings_init 16 = .ok (.putfield 19, 3) := by decide +kernel
theorem dMeanings_init_19 : decode bMeanings_init 19 = .ok (.aload_n 0, 1) := by decide +kernel
theorem dMeanings_init_20 : decode bMeanings_init 20 = .ok (.aload 4, 2) := by decide +kernel
theorem dMeanings_init_22 : decode bMeanings_init 22 = .ok (.putfield 23, 3) := by decide +kernel
theorem dMeanings_init_25 : decode bMeanings_init 25 = .ok (.aload_n 0, 1) := by decide +kernel
theorem dMeanings_init_26 : decode bMeanings_init 26 = .ok (.aload 5, 2) := by decide +kernel
theorem dMeanings_init_28 : decode bMeanings_init 28 = .ok (.putfield 27, 3) := by decide +kernel
theorem dMeanings_init_31 : decode bMeanings_init 31 = .ok (.return_, 1) := by decide +kernel
theorem dMeanings_name_0 : decode bMeanings_name 0 = .ok (.aload_n 0, 1) := by decide +kernel
theorem dMeanings_name_1 : decode bMeanings_name 1 = .ok (.getfield 9, 3) := by decide +kernel
theorem dMeanings_name_4 : decode bMeanings_name 4 = .ok (.iload_n 1, 1) := by decide +kernel
theorem dMeanings_name_5 : decode bMeanings_name 5 = .ok (.invokevirtual 31, 3) := by decide +kernel
theorem dMeanings_name_8 : decode bMeanings_name 8 = .ok (.ifCond .eq 6, 3) := by decide +kernel
theorem dMeanings_name_11 : decode bMeanings_name 11 = .ok (.bipush 11, 2) := by decide +kernel
theorem dMeanings_name_13 : decode bMeanings_name 13 = .ok (.ireturn, 1) := by decide +kernel
theorem dMeanings_name_14 : decode bMeanings_name 14 = .ok (.aload_n 0, 1) := by decide +kernel
theorem dMeanings_name_15 : decode bMeanings_name 15 = .ok (.getfield 15, 3) := by decide +kernel
theorem dMeanings_name_18 : decode bMeanings_name 18 = .ok (.aload_n 0, 1) := by decide +kernel
theorem dMeanings_name_19 : decode bMeanings_name 19 = .ok (.getfield 9, 3) := by decide +kernel
theorem dMeanings_name_22 : decode bMeanings_name 22 = .ok (.iload_n 1, 1) := by decide +kernel
theorem dMeanings_name_23 : decode bMeanings_name 23 = .ok (.invokevirtual 37, 3) := by decide +kernel
theorem dMeanings_name_26 : decode bMeanings_name 26 = .ok (.invokevirtual 40, 3) := by decide +kernel
theorem dMeanings_name_29 : decode bMeanings_name 29 = .ok (.istore_n 2, 1) := by decide +kernel
theorem dMeanings_name_30 : decode bMeanings_name 30 = .ok (.iload_n 2, 1) := by decide +kernel
theorem dMeanings_name_31 : decode bMeanings_name 31 = .ok (.iconst (-1), 1) := by decide +kernel
theorem dMeanings_name_32 : decode bMeanings_name 32 = .ok (.if_icmp .ne 5, 3) := by decide +kernel
theorem dMeanings_name_35 : decode bMeanings_name 35 = .ok (.iconst 1, 1) := by decide +kernel
theorem dMeanings_name_36 : decode bMeanings_name 36 = .ok (.ireturn, 1) := by decide +kernel
theorem dMeanings_name_37 : decode bMeanings_name 37 = .ok (.aload_n 0, 1) := by decide +kernel
theorem dMeanings_name_38 : decode bMeanings_name 38 = .ok (.getfield 15, 3) := by decide +kernel
theorem dMeanings_name_41 : decode bMeanings_name 41 = .ok (.iload_n 2, 1) := by decide +kernel
theorem dMeanings_name_42 : decode bMeanings_name 42 = .ok (.invokevirtual 45, 3) := by decide +kernel
theorem dMeanings_name_45 : decode bMeanings_name 45 = .ok (.istore_n 3, 1) := by decide +kernel
theorem dMeanings_name_46 : decode bMeanings_name 46 = .ok (.aload_n 0, 1) := by decide +kernel
theorem dMeanings_name_47 : decode bMeanings_name 47 = .ok (.getfield 15, 3) := by decide +kernel
theorem dMeanings_name_50 : decode bMeanings_name 50 = .ok (.iload_n 2, 1) := by decide +kernel
theorem dMeanings_name_51 : decode bMeanings_name 51 = .ok (.invokevirtual 48, 3) := by decide +kernel
theorem dMeanings_name_54 : decode bMeanings_name 54 = .ok (.tableswitch 61 2 4 #[26, 34, 51], 26) := by decide +kernel
theorem dMeanings_name_80 : decode bMeanings_name 80 = .ok (.aload_n 0, 1) := by decide +kernel
theorem dMeanings_name_81 : decode bMeanings_name 81 = .ok (.iload_n 1, 1) := by decide +kernel
theorem dMeanings_name_82 : decode bMeanings_name 82 = .ok (.iload_n 3, 1) := by decide +kernel
theorem dMeanings_name_83 : decode bMeanings_name 83 = .ok (.invokevirtual 51, 3) := by decide +kernel
theorem dMeanings_name_86 : decode bMeanings_name 86 = .ok (.iconst 0, 1) := by decide +kernel
theorem dMeanings_name_87 : decode bMeanings_name 87 = .ok (.ireturn, 1) := by decide +kernel
theorem dMeanings_name_88 : decode bMeanings_name 88 = .ok (.aload_n 0, 1) := by decide +kernel
theorem dMeanings_name_89 : decode bMeanings_name 89 = .ok (.iload_n 1, 1) := by decide +kernel
theorem dMeanings_name_90 : decode bMeanings_name 90 = .ok (.iconst 4, 1) := by decide +kernel
theorem dMeanings_name_91 : decode bMeanings_name 91 = .ok (.iload_n 3, 1) := by decide +kernel
theorem dMeanings_name_92 : decode bMeanings_name 92 = .ok (.aload_n 0, 1) := by decide +kernel
theorem dMeanings_name_93 : decode bMeanings_name 93 = .ok (.getfield 15, 3) := by decide +kernel
theorem dMeanings_name_96 : decode bMeanings_name 96 = .ok (.iload_n 2, 1) := by decide +kernel
theorem dMeanings_name_97 : decode bMeanings_name 97 = .ok (.invokevirtual 55, 3) := by decide +kernel
theorem dMeanings_name_100 : decode bMeanings_name 100 = .ok (.invokevirtual 58, 3) := by decide +kernel
theorem dMeanings_name_103 : decode bMeanings_name 103 = .ok (.iconst 0, 1) := by decide +kernel
theorem dMeanings_name_104 : decode bMeanings_name 104 = .ok (.ireturn, 1) := by decide +kernel
theorem dMeanings_name_105 : decode bMeanings_name 105 = .ok (.aload_n 0, 1) := by decide +kernel
theorem dMeanings_name_106 : decode bMeanings_name 106 = .ok (.iload_n 1, 1) := by decide +kernel
theorem dMeanings_name_107 : decode bMeanings_name 107 = .ok (.iconst 1, 1) := by decide +kernel
theorem dMeanings_name_108 : decode bMeanings_name 108 = .ok (.iconst 0, 1) := by decide +kernel
theorem dMeanings_name_109 : decode bMeanings_name 109 = .ok (.iload_n 3, 1) := by decide +kernel
theorem dMeanings_name_110 : decode bMeanings_name 110 = .ok (.invokevirtual 58, 3) := by decide +kernel
theorem dMeanings_name_113 : decode bMeanings_name 113 = .ok (.iconst 0, 1) := by decide +kernel
theorem dMeanings_name_114 : decode bMeanings_name 114 = .ok (.ireturn, 1) := by decide +kernel
theorem dMeanings_name_115 : decode bMeanings_name 115 = .ok (.iconst 2, 1) := by decide +kernel
theorem dMeanings_name_116 : decode bMeanings_name 116 = .ok (.ireturn, 1) := by decide +kernel
theorem dMeanings_noteObject_0 : decode bMeanings_noteObject 0 = .ok (.aload_n 0, 1) := by decide +kernel
theorem dMeanings_noteObject_1 : decode bMeanings_noteObject 1 = .ok (.getfield 23, 3) := by decide +kernel
theorem dMeanings_noteObject_4 : decode bMeanings_noteObject 4 = .ok (.iload_n 2, 1) := by decide +kernel
theorem dMeanings_noteObject_5 : decode bMeanings_noteObject 5 = .ok (.invokevirtual 62, 3) := by decide +kernel
theorem dMeanings_noteObject_8 : decode bMeanings_noteObject 8 = .ok (.istore_n 3, 1) := by decide +kernel
theorem dMeanings_noteObject_9 : decode bMeanings_noteObject 9 = .ok (.aload_n 0, 1) := by decide +kernel
theorem dMeanings_noteObject_10 : decode bMeanings_noteObject 10 = .ok (.getfield 27, 3) := by decide +kernel
theorem dMeanings_noteObject_13 : decode bMeanings_noteObject 13 = .ok (.iload_n 1, 1) := by decide +kernel
theorem dMeanings_noteObject_14 : decode bMeanings_noteObject 14 = .ok (.aload_n 0, 1) := by decide +kernel
theorem dMeanings_noteObject_15 : decode bMeanings_noteObject 15 = .ok (.getfield 19, 3) := by decide +kernel
theorem dMeanings_noteObject_18 : decode bMeanings_noteObject 18 = .ok (.iload_n 3, 1) := by decide +kernel
theorem dMeanings_noteObject_19 : decode bMeanings_noteObject 19 = .ok (.invokevirtual 67, 3) := by decide +kernel
theorem dMeanings_noteObject_22 : decode bMeanings_noteObject 22 = .ok (.aload_n 0, 1) := by decide +kernel
theorem dMeanings_noteObject_23 : decode bMeanings_noteObject 23 = .ok (.getfield 19, 3) := by decide +kernel
theorem dMeanings_noteObject_26 : decode bMeanings_noteObject 26 = .ok (.iload_n 3, 1) := by decide +kernel
theorem dMeanings_noteObject_27 : decode bMeanings_noteObject 27 = .ok (.invokevirtual 72, 3) := by decide +kernel
theorem dMeanings_noteObject_30 : decode bMeanings_noteObject 30 = .ok (.aload_n 0, 1) := by decide +kernel
theorem dMeanings_noteObject_31 : decode bMeanings_noteObject 31 = .ok (.iload_n 2, 1) := by decide +kernel
theorem dMeanings_noteObject_32 : decode bMeanings_noteObject 32 = .ok (.invokevirtual 75, 3) := by decide +kernel
theorem dMeanings_noteObject_35 : decode bMeanings_noteObject 35 = .ok (.invokevirtual 79, 3) := by decide +kernel
theorem dMeanings_noteObject_38 : decode bMeanings_noteObject 38 = .ok (.aload_n 0, 1) := by decide +kernel
theorem dMeanings_noteObject_39 : decode bMeanings_noteObject 39 = .ok (.getfield 27, 3) := by decide +kernel
theorem dMeanings_noteObject_42 : decode bMeanings_noteObject 42 = .ok (.iload_n 1, 1) := by decide +kernel
theorem dMeanings_noteObject_43 : decode bMeanings_noteObject 43 = .ok (.iload_n 2, 1) := by decide +kernel
theorem dMeanings_noteObject_44 : decode bMeanings_noteObject 44 = .ok (.invokevirtual 85, 3) := by decide +kernel
theorem dMeanings_noteObject_47 : decode bMeanings_noteObject 47 = .ok (.aload_n 0, 1) := by decide +kernel
theorem dMeanings_noteObject_48 : decode bMeanings_noteObject 48 = .ok (.getfield 27, 3) := by decide +kernel
theorem dMeanings_noteObject_51 : decode bMeanings_noteObject 51 = .ok (.iload_n 1, 1) := by decide +kernel
theorem dMeanings_noteObject_52 : decode bMeanings_noteObject 52 = .ok (.aload_n 0, 1) := by decide +kernel
theorem dMeanings_noteObject_53 : decode bMeanings_noteObject 53 = .ok (.getfield 23, 3) := by decide +kernel
theorem dMeanings_noteObject_56 : decode bMeanings_noteObject 56 = .ok (.iload_n 2, 1) := by decide +kernel
theorem dMeanings_noteObject_57 : decode bMeanings_noteObject 57 = .ok (.invokevirtual 88, 3) := by decide +kernel
theorem dMeanings_noteObject_60 : decode bMeanings_noteObject 60 = .ok (.invokevirtual 89, 3) := by decide +kernel
theorem dMeanings_noteObject_63 : decode bMeanings_noteObject 63 = .ok (.aload_n 0, 1) := by decide +kernel
theorem dMeanings_noteObject_64 : decode bMeanings_noteObject 64 = .ok (.getfield 27, 3) := by decide +kernel
theorem dMeanings_noteObject_67 : decode bMeanings_noteObject 67 = .ok (.getfield 92, 3) := by decide +kernel
theorem dMeanings_noteObject_70 : decode bMeanings_noteObject 70 = .ok (.iload_n 1, 1) := by decide +kernel
theorem dMeanings_noteObject_71 : decode bMeanings_noteObject 71 = .ok (.aload_n 0, 1) := by decide +kernel
theorem dMeanings_noteObject_72 : decode bMeanings_noteObject 72 = .ok (.getfield 23, 3) := by decide +kernel
theorem dMeanings_noteObject_75 : decode bMeanings_noteObject 75 = .ok (.getfield 96, 3) := by decide +kernel
theorem dMeanings_noteObject_78 : decode bMeanings_noteObject 78 = .ok (.iload_n 2, 1) := by decide +kernel
theorem dMeanings_noteObject_79 : decode bMeanings_noteObject 79 = .ok (.invokevirtual 97, 3) := by decide +kernel
theorem dMeanings_noteObject_82 : decode bMeanings_noteObject 82 = .ok (.return_, 1) := by decide +kernel
theorem dMeanings_noteValue_0 : decode bMeanings_noteValue 0 = .ok (.aload_n 0, 1) := by decide +kernel
theorem dMeanings_noteValue_1 : decode bMeanings_noteValue 1 = .ok (.getfield 27, 3) := by decide +kernel
theorem dMeanings_noteValue_4 : decode bMeanings_noteValue 4 = .ok (.iload_n 1, 1) := by decide +kernel
theorem dMeanings_noteValue_5 : decode bMeanings_noteValue 5 = .ok (.iload_n 2, 1) := by decide +kernel
theorem dMeanings_noteValue_6 : decode bMeanings_noteValue 6 = .ok (.iload_n 3, 1) := by decide +kernel
theorem dMeanings_noteValue_7 : decode bMeanings_noteValue 7 = .ok (.iconst 1, 1) := by decide +kernel
theorem dMeanings_noteValue_8 : decode bMeanings_noteValue 8 = .ok (.invokevirtual 79, 3) := by decide +kernel
theorem dMeanings_noteValue_11 : decode bMeanings_noteValue 11 = .ok (.aload_n 0, 1) := by decide +kernel
theorem dMeanings_noteValue_12 : decode bMeanings_noteValue 12 = .ok (.getfield 27, 3) := by decide +kernel
theorem dMeanings_noteValue_15 : decode bMeanings_noteValue 15 = .ok (.iload_n 1, 1) := by decide +kernel
theorem dMeanings_noteValue_16 : decode bMeanings_noteValue 16 = .ok (.sipush 2000, 3) := by decide +kernel
theorem dMeanings_noteValue_19 : decode bMeanings_noteValue 19 = .ok (.invokevirtual 85, 3) := by decide +kernel
theorem dMeanings_noteValue_22 : decode bMeanings_noteValue 22 = .ok (.aload_n 0, 1) := by decide +kernel
theorem dMeanings_noteValue_23 : decode bMeanings_noteValue 23 = .ok (.getfield 27, 3) := by decide +kernel
theorem dMeanings_noteValue_26 : decode bMeanings_noteValue 26 = .ok (.iload_n 1, 1) := by decide +kernel
theorem dMeanings_noteValue_27 : decode bMeanings_noteValue 27 = .ok (.iload 4, 2) := by decide +kernel
theorem dMeanings_noteValue_29 : decode bMeanings_noteValue 29 = .ok (.invokevirtual 89, 3) := by decide +kernel
theorem dMeanings_noteValue_32 : decode bMeanings_noteValue 32 = .ok (.return_, 1) := by decide +kernel
theorem dMeanings_isConstant_0 : decode bMeanings_isConstant 0 = .ok (.aload_n 0, 1) := by decide +kernel
theorem dMeanings_isConstant_1 : decode bMeanings_isConstant 1 = .ok (.getfield 23, 3) := by decide +kernel
theorem dMeanings_isConstant_4 : decode bMeanings_isConstant 4 = .ok (.iload_n 1, 1) := by decide +kernel
theorem dMeanings_isConstant_5 : decode bMeanings_isConstant 5 = .ok (.invokevirtual 103, 3) := by decide +kernel
theorem dMeanings_isConstant_8 : decode bMeanings_isConstant 8 = .ok (.ifCond .ne 7, 3) := by decide +kernel
theorem dMeanings_isConstant_11 : decode bMeanings_isConstant 11 = .ok (.iconst 1, 1) := by decide +kernel
theorem dMeanings_isConstant_12 : decode bMeanings_isConstant 12 = .ok (.goto 4, 3) := by decide +kernel
theorem dMeanings_isConstant_15 : decode bMeanings_isConstant 15 = .ok (.iconst 0, 1) := by decide +kernel
theorem dMeanings_isConstant_16 : decode bMeanings_isConstant 16 = .ok (.ireturn, 1) := by decide +kernel
theorem dMeanings_isRow_0 : decode bMeanings_isRow 0 = .ok (.aload_n 0, 1) := by decide +kernel
theorem dMeanings_isRow_1 : decode bMeanings_isRow 1 = .ok (.getfield 19, 3) := by decide +kernel
theorem dMeanings_isRow_4 : decode bMeanings_isRow 4 = .ok (.aload_n 0, 1) := by decide +kernel
theorem dMeanings_isRow_5 : decode bMeanings_isRow 5 = .ok (.getfield 23, 3) := by decide +kernel
theorem dMeanings_isRow_8 : decode bMeanings_isRow 8 = .ok (.iload_n 1, 1) := by decide +kernel
theorem dMeanings_isRow_9 : decode bMeanings_isRow 9 = .ok (.invokevirtual 62, 3) := by decide +kernel
theorem dMeanings_isRow_12 : decode bMeanings_isRow 12 = .ok (.invokevirtual 67, 3) := by decide +kernel
theorem dMeanings_isRow_15 : decode bMeanings_isRow 15 = .ok (.iconst 3, 1) := by decide +kernel
theorem dMeanings_isRow_16 : decode bMeanings_isRow 16 = .ok (.if_icmp .ne 7, 3) := by decide +kernel
theorem dMeanings_isRow_19 : decode bMeanings_isRow 19 = .ok (.iconst 1, 1) := by decide +kernel
theorem dMeanings_isRow_20 : decode bMeanings_isRow 20 = .ok (.goto 4, 3) := by decide +kernel
theorem dMeanings_isRow_23 : decode bMeanings_isRow 23 = .ok (.iconst 0, 1) := by decide +kernel
theorem dMeanings_isRow_24 : decode bMeanings_isRow 24 = .ok (.ireturn, 1) := by decide +kernel
theorem dMeanings_objectAt_0 : decode bMeanings_objectAt 0 = .ok (.aload_n 0, 1) := by decide +kernel
theorem dMeanings_objectAt_1 : decode bMeanings_objectAt 1 = .ok (.getfield 15, 3) := by decide +kernel
theorem dMeanings_objectAt_4 : decode bMeanings_objectAt 4 = .ok (.aload_n 0, 1) := by decide +kernel
theorem dMeanings_objectAt_5 : decode bMeanings_objectAt 5 = .ok (.getfield 9, 3) := by decide +kernel
theorem dMeanings_objectAt_8 : decode bMeanings_objectAt 8 = .ok (.iload_n 1, 1) := by decide +kernel
theorem dMeanings_objectAt_9 : decode bMeanings_objectAt 9 = .ok (.invokevirtual 37, 3) := by decide +kernel
theorem dMeanings_objectAt_12 : decode bMeanings_objectAt 12 = .ok (.invokevirtual 40, 3) := by decide +kernel
theorem dMeanings_objectAt_15 : decode bMeanings_objectAt 15 = .ok (.istore_n 2, 1) := by decide +kernel
theorem dMeanings_objectAt_16 : decode bMeanings_objectAt 16 = .ok (.aload_n 0, 1) := by decide +kernel
theorem dMeanings_objectAt_17 : decode bMeanings_objectAt 17 = .ok (.getfield 15, 3) := by decide +kernel
theorem dMeanings_objectAt_20 : decode bMeanings_objectAt 20 = .ok (.iload_n 2, 1) := by decide +kernel
theorem dMeanings_objectAt_21 : decode bMeanings_objectAt 21 = .ok (.invokevirtual 48, 3) := by decide +kernel
theorem dMeanings_objectAt_24 : decode bMeanings_objectAt 24 = .ok (.iconst 2, 1) := by decide +kernel
theorem dMeanings_objectAt_25 : decode bMeanings_objectAt 25 = .ok (.if_icmp .ne 14, 3) := by decide +kernel
theorem dMeanings_objectAt_28 : decode bMeanings_objectAt 28 = .ok (.aload_n 0, 1) := by decide +kernel
theorem dMeanings_objectAt_29 : decode bMeanings_objectAt 29 = .ok (.getfield 15, 3) := by decide +kernel
theorem dMeanings_objectAt_32 : decode bMeanings_objectAt 32 = .ok (.iload_n 2, 1) := by decide +kernel
theorem dMeanings_objectAt_33 : decode bMeanings_objectAt 33 = .ok (.invokevirtual 45, 3) := by decide +kernel
theorem dMeanings_objectAt_36 : decode bMeanings_objectAt 36 = .ok (.goto 4, 3) := by decide +kernel
theorem dMeanings_objectAt_39 : decode bMeanings_objectAt 39 = .ok (.iconst (-1), 1) := by decide +kernel
theorem dMeanings_objectAt_40 : decode bMeanings_objectAt 40 = .ok (.ireturn, 1) := by decide +kernel
theorem dMeanings_isUnknown_0 : decode bMeanings_isUnknown 0 = .ok (.aload_n 0, 1) := by decide +kernel
theorem dMeanings_isUnknown_1 : decode bMeanings_isUnknown 1 = .ok (.getfield 15, 3) := by decide +kernel
theorem dMeanings_isUnknown_4 : decode bMeanings_isUnknown 4 = .ok (.aload_n 0, 1) := by decide +kernel
theorem dMeanings_isUnknown_5 : decode bMeanings_isUnknown 5 = .ok (.getfield 9, 3) := by decide +kernel
theorem dMeanings_isUnknown_8 : decode bMeanings_isUnknown 8 = .ok (.iload_n 1, 1) := by decide +kernel
theorem dMeanings_isUnknown_9 : decode bMeanings_isUnknown 9 = .ok (.invokevirtual 37, 3) := by decide +kernel
theorem dMeanings_isUnknown_12 : decode bMeanings_isUnknown 12 = .ok (.invokevirtual 40, 3) := by decide +kernel
theorem dMeanings_isUnknown_15 : decode bMeanings_isUnknown 15 = .ok (.iconst (-1), 1) := by decide +kernel
theorem dMeanings_isUnknown_16 : decode bMeanings_isUnknown 16 = .ok (.if_icmp .ne 7, 3) := by decide +kernel
theorem dMeanings_isUnknown_19 : decode bMeanings_isUnknown 19 = .ok (.iconst 1, 1) := by decide +kernel
theorem dMeanings_isUnknown_20 : decode bMeanings_isUnknown 20 = .ok (.goto 4, 3) := by decide +kernel
theorem dMeanings_isUnknown_23 : decode bMeanings_isUnknown 23 = .ok (.iconst 0, 1) := by decide +kernel
theorem dMeanings_isUnknown_24 : decode bMeanings_isUnknown 24 = .ok (.ireturn, 1) := by decide +kernel
theorem dMeanings_apply_0 : decode bMeanings_apply 0 = .ok (.aload_n 0, 1) := by decide +kernel
theorem dMeanings_apply_1 : decode bMeanings_apply 1 = .ok (.getfield 15, 3) := by decide +kernel
theorem dMeanings_apply_4 : decode bMeanings_apply 4 = .ok (.aload_n 0, 1) := by decide +kernel
theorem dMeanings_apply_5 : decode bMeanings_apply 5 = .ok (.getfield 9, 3) := by decide +kernel
theorem dMeanings_apply_8 : decode bMeanings_apply 8 = .ok (.iload_n 1, 1) := by decide +kernel
theorem dMeanings_apply_9 : decode bMeanings_apply 9 = .ok (.invokevirtual 37, 3) := by decide +kernel
theorem dMeanings_apply_12 : decode bMeanings_apply 12 = .ok (.invokevirtual 40, 3) := by decide +kernel
theorem dMeanings_apply_15 : decode bMeanings_apply 15 = .ok (.istore_n 2, 1) := by decide +kernel
theorem dMeanings_apply_16 : decode bMeanings_apply 16 = .ok (.iload_n 2, 1) := by decide +kernel
theorem dMeanings_apply_17 : decode bMeanings_apply 17 = .ok (.iconst (-1), 1) := by decide +kernel
theorem dMeanings_apply_18 : decode bMeanings_apply 18 = .ok (.if_icmp .ne 5, 3) := by decide +kernel
theorem dMeanings_apply_21 : decode bMeanings_apply 21 = .ok (.iconst 1, 1) := by decide +kernel
theorem dMeanings_apply_22 : decode bMeanings_apply 22 = .ok (.ireturn, 1) := by decide +kernel
theorem dMeanings_apply_23 : decode bMeanings_apply 23 = .ok (.aload_n 0, 1) := by decide +kernel
theorem dMeanings_apply_24 : decode bMeanings_apply 24 = .ok (.getfield 15, 3) := by decide +kernel
theorem dMeanings_apply_27 : decode bMeanings_apply 27 = .ok (.iload_n 2, 1) := by decide +kernel
theorem dMeanings_apply_28 : decode bMeanings_apply 28 = .ok (.invokevirtual 48, 3) := by decide +kernel
theorem dMeanings_apply_31 : decode bMeanings_apply 31 = .ok (.iconst 5, 1) := by decide +kernel
theorem dMeanings_apply_32 : decode bMeanings_apply 32 = .ok (.if_icmp .ne 17, 3) := by decide +kernel
theorem dMeanings_apply_35 : decode bMeanings_apply 35 = .ok (.aload_n 0, 1) := by decide +kernel
theorem dMeanings_apply_36 : decode bMeanings_apply 36 = .ok (.iload_n 1, 1) := by decide +kernel
theorem dMeanings_apply_37 : decode bMeanings_apply 37 = .ok (.aload_n 0, 1) := by decide +kernel
theorem dMeanings_apply_38 : decode bMeanings_apply 38 = .ok (.getfield 15, 3) := by decide +kernel
theorem dMeanings_apply_41 : decode bMeanings_apply 41 = .ok (.iload_n 2, 1) := by decide +kernel
theorem dMeanings_apply_42 : decode bMeanings_apply 42 = .ok (.invokevirtual 45, 3) := by decide +kernel
theorem dMeanings_apply_45 : decode bMeanings_apply 45 = .ok (.invokevirtual 106, 3) := by decide +kernel
theorem dMeanings_apply_48 : decode bMeanings_apply 48 = .ok (.ireturn, 1) := by decide +kernel
theorem dMeanings_apply_49 : decode bMeanings_apply 49 = .ok (.aload_n 0, 1) := by decide +kernel
theorem dMeanings_apply_50 : decode bMeanings_apply 50 = .ok (.iload_n 1, 1) := by decide +kernel
theorem dMeanings_apply_51 : decode bMeanings_apply 51 = .ok (.invokevirtual 110, 3) := by decide +kernel
theorem dMeanings_apply_54 : decode bMeanings_apply 54 = .ok (.istore_n 3, 1) := by decide +kernel
theorem dMeanings_apply_55 : decode bMeanings_apply 55 = .ok (.iload_n 3, 1) := by decide +kernel
theorem dMeanings_apply_56 : decode bMeanings_apply 56 = .ok (.iconst (-1), 1) := by decide +kernel
theorem dMeanings_apply_57 : decode bMeanings_apply 57 = .ok (.if_icmp .eq 11, 3) := by decide +kernel
theorem dMeanings_apply_60 : decode bMeanings_apply 60 = .ok (.aload_n 0, 1) := by decide +kernel
theorem dMeanings_apply_61 : decode bMeanings_apply 61 = .ok (.iload_n 3, 1) := by decide +kernel
theorem dMeanings_apply_62 : decode bMeanings_apply 62 = .ok (.invokevirtual 113, 3) := by decide +kernel
theorem dMeanings_apply_65 : decode bMeanings_apply 65 = .ok (.ifCond .ne 5, 3) := by decide +kernel
theorem dMeanings_apply_68 : decode bMeanings_apply 68 = .ok (.iconst 2, 1) := by decide +kernel
theorem dMeanings_apply_69 : decode bMeanings_apply 69 = .ok (.ireturn, 1) := by decide +kernel
theorem dMeanings_apply_70 : decode bMeanings_apply 70 = .ok (.aload_n 0, 1) := by decide +kernel
theorem dMeanings_apply_71 : decode bMeanings_apply 71 = .ok (.getfield 9, 3) := by decide +kernel
theorem dMeanings_apply_74 : decode bMeanings_apply 74 = .ok (.iload_n 1, 1) := by decide +kernel
theorem dMeanings_apply_75 : decode bMeanings_apply 75 = .ok (.invokevirtual 31, 3) := by decide +kernel
theorem dMeanings_apply_78 : decode bMeanings_apply 78 = .ok (.iconst 1, 1) := by decide +kernel
theorem dMeanings_apply_79 : decode bMeanings_apply 79 = .ok (.if_icmp .ne 15, 3) := by decide +kernel
theorem dMeanings_apply_82 : decode bMeanings_apply 82 = .ok (.aload_n 0, 1) := by decide +kernel
theorem dMeanings_apply_83 : decode bMeanings_apply 83 = .ok (.iload_n 1, 1) := by decide +kernel
theorem dMeanings_apply_84 : decode bMeanings_apply 84 = .ok (.iload_n 3, 1) := by decide +kernel
theorem dMeanings_apply_85 : decode bMeanings_apply 85 = .ok (.iload_n 1, 1) := by decide +kernel
theorem dMeanings_apply_86 : decode bMeanings_apply 86 = .ok (.iconst 1, 1) := by decide +kernel
theorem dMeanings_apply_87 : decode bMeanings_apply 87 = .ok (.isub, 1) := by decide +kernel
theorem dMeanings_apply_88 : decode bMeanings_apply 88 = .ok (.invokevirtual 116, 3) := by decide +kernel
theorem dMeanings_apply_91 : decode bMeanings_apply 91 = .ok (.goto 5, 3) := by decide +kernel
theorem dMeanings_apply_94 : decode bMeanings_apply 94 = .ok (.bipush 11, 2) := by decide +kernel
theorem dMeanings_apply_96 : decode bMeanings_apply 96 = .ok (.ireturn, 1) := by decide +kernel
theorem dMeanings_element_0 : decode bMeanings_element 0 = .ok (.aload_n 0, 1) := by decide +kernel
theorem dMeanings_element_1 : decode bMeanings_element 1 = .ok (.getfield 27, 3) := by decide +kernel
theorem dMeanings_element_4 : decode bMeanings_element 4 = .ok (.iload_n 3, 1) := by decide +kernel
theorem dMeanings_element_5 : decode bMeanings_element 5 = .ok (.invokevirtual 120, 3) := by decide +kernel
theorem dMeanings_element_8 : decode bMeanings_element 8 = .ok (.iconst 2, 1) := by decide +kernel
theorem dMeanings_element_9 : decode bMeanings_element 9 = .ok (.if_icmp .eq 5, 3) := by decide +kernel
theorem dMeanings_element_12 : decode bMeanings_element 12 = .ok (.iconst 3, 1) := by decide +kernel
theorem dMeanings_element_13 : decode bMeanings_element 13 = .ok (.ireturn, 1) := by decide +kernel
theorem dMeanings_element_14 : decode bMeanings_element 14 = .ok (.aload_n 0, 1) := by decide +kernel
theorem dMeanings_element_15 : decode bMeanings_element 15 = .ok (.getfield 27, 3) := by decide +kernel
theorem dMeanings_element_18 : decode bMeanings_element 18 = .ok (.iload_n 1, 1) := by decide +kernel
theorem dMeanings_element_19 : decode bMeanings_element 19 = .ok (.iconst 0, 1) := by decide +kernel
theorem dMeanings_element_20 : decode bMeanings_element 20 = .ok (.iconst 0, 1) := by decide +kernel
theorem dMeanings_element_21 : decode bMeanings_element 21 = .ok (.aload_n 0, 1) := by decide +kernel
theorem dMeanings_element_22 : decode bMeanings_element 22 = .ok (.iload_n 2, 1) := by decide +kernel
theorem dMeanings_element_23 : decode bMeanings_element 23 = .ok (.invokevirtual 75, 3) := by decide +kernel
theorem dMeanings_element_26 : decode bMeanings_element 26 = .ok (.ifCond .eq 18, 3) := by decide +kernel
theorem dMeanings_element_29 : decode bMeanings_element 29 = .ok (.aload_n 0, 1) := by decide +kernel
theorem dMeanings_element_30 : decode bMeanings_element 30 = .ok (.getfield 27, 3) := by decide +kernel
theorem dMeanings_element_33 : decode bMeanings_element 33 = .ok (.iload_n 3, 1) := by decide +kernel
theorem dMeanings_element_34 : decode bMeanings_element 34 = .ok (.invokevirtual 121, 3) := by decide +kernel
theorem dMeanings_element_37 : decode bMeanings_element 37 = .ok (.ifCond .eq 7, 3) := by decide +kernel
theorem dMeanings_element_40 : decode bMeanings_element 40 = .ok (.iconst 1, 1) := by decide +kernel
theorem dMeanings_element_41 : decode bMeanings_element 41 = .ok (.goto 4, 3) := by decide +kernel
theorem dMeanings_element_44 : decode bMeanings_element 44 = .ok (.iconst 0, 1) := by decide +kernel
theorem dMeanings_element_45 : decode bMeanings_element 45 = .ok (.invokevirtual 79, 3) := by decide +kernel
theorem dMeanings_element_48 : decode bMeanings_element 48 = .ok (.aload_n 0, 1) := by decide +kernel
theorem dMeanings_element_49 : decode bMeanings_element 49 = .ok (.getfield 27, 3) := by decide +kernel
theorem dMeanings_element_52 : decode bMeanings_element 52 = .ok (.iload_n 1, 1) := by decide +kernel
theorem dMeanings_element_53 : decode bMeanings_element 53 = .ok (.iload_n 2, 1) := by decide +kernel
theorem dMeanings_element_54 : decode bMeanings_element 54 = .ok (.invokevirtual 85, 3) := by decide +kernel
theorem dMeanings_element_57 : decode bMeanings_element 57 = .ok (.aload_n 0, 1) := by decide +kernel
theorem dMeanings_element_58 : decode bMeanings_element 58 = .ok (.getfield 27, 3) := by decide +kernel
theorem dMeanings_element_61 : decode bMeanings_element 61 = .ok (.iload_n 3, 1) := by decide +kernel
theorem dMeanings_element_62 : decode bMeanings_element 62 = .ok (.invokevirtual 121, 3) := by decide +kernel
theorem dMeanings_element_65 : decode bMeanings_element 65 = .ok (.ifCond .ne 5, 3) := by decide +kernel
theorem dMeanings_element_68 : decode bMeanings_element 68 = .ok (.iconst 0, 1) := by decide +kernel
theorem dMeanings_element_69 : decode bMeanings_element 69 = .ok (.ireturn, 1) := by decide +kernel
theorem dMeanings_element_70 : decode bMeanings_element 70 = .ok (.aload_n 0, 1) := by decide +kernel
theorem dMeanings_element_71 : decode bMeanings_element 71 = .ok (.getfield 19, 3) := by decide +kernel
theorem dMeanings_element_74 : decode bMeanings_element 74 = .ok (.aload_n 0, 1) := by decide +kernel
theorem dMeanings_element_75 : decode bMeanings_element 75 = .ok (.getfield 23, 3) := by decide +kernel
theorem dMeanings_element_78 : decode bMeanings_element 78 = .ok (.iload_n 2, 1) := by decide +kernel
theorem dMeanings_element_79 : decode bMeanings_element 79 = .ok (.invokevirtual 62, 3) := by decide +kernel
theorem dMeanings_element_82 : decode bMeanings_element 82 = .ok (.aload_n 0, 1) := by decide +kernel
theorem dMeanings_element_83 : decode bMeanings_element 83 = .ok (.getfield 27, 3) := by decide +kernel
theorem dMeanings_element_86 : decode bMeanings_element 86 = .ok (.iload_n 3, 1) := by decide +kernel
theorem dMeanings_element_87 : decode bMeanings_element 87 = .ok (.invokevirtual 124, 3) := by decide +kernel
theorem dMeanings_element_90 : decode bMeanings_element 90 = .ok (.invokevirtual 125, 3) := by decide +kernel
theorem dMeanings_element_93 : decode bMeanings_element 93 = .ok (.istore 4, 2) := by decide +kernel
theorem dMeanings_element_95 : decode bMeanings_element 95 = .ok (.iload 4, 2) := by decide +kernel
theorem dMeanings_element_97 : decode bMeanings_element 97 = .ok (.iconst (-1), 1) := by decide +kernel
theorem dMeanings_element_98 : decode bMeanings_element 98 = .ok (.if_icmp .ne 6, 3) := by decide +kernel
theorem dMeanings_element_101 : decode bMeanings_element 101 = .ok (.bipush 6, 2) := by decide +kernel
theorem dMeanings_element_103 : decode bMeanings_element 103 = .ok (.ireturn, 1) := by decide +kernel
theorem dMeanings_element_104 : decode bMeanings_element 104 = .ok (.aload_n 0, 1) := by decide +kernel
theorem dMeanings_element_105 : decode bMeanings_element 105 = .ok (.getfield 27, 3) := by decide +kernel
theorem dMeanings_element_108 : decode bMeanings_element 108 = .ok (.iload_n 1, 1) := by decide +kernel
theorem dMeanings_element_109 : decode bMeanings_element 109 = .ok (.aload_n 0, 1) := by decide +kernel
theorem dMeanings_element_110 : decode bMeanings_element 110 = .ok (.getfield 23, 3) := by decide +kernel
theorem dMeanings_element_113 : decode bMeanings_element 113 = .ok (.getfield 96, 3) := by decide +kernel
theorem dMeanings_element_116 : decode bMeanings_element 116 = .ok (.iload_n 2, 1) := by decide +kernel
theorem dMeanings_element_117 : decode bMeanings_element 117 = .ok (.iload 4, 2) := by decide +kernel
theorem dMeanings_element_119 : decode bMeanings_element 119 = .ok (.invokevirtual 128, 3) := by decide +kernel
theorem dMeanings_element_122 : decode bMeanings_element 122 = .ok (.invokevirtual 89, 3) := by decide +kernel
theorem dMeanings_element_125 : decode bMeanings_element 125 = .ok (.iconst 0, 1) := by decide +kernel
theorem dMeanings_element_126 : decode bMeanings_element 126 = .ok (.ireturn, 1) := by decide +kernel
theorem dMeanings_applyFunction_0 : decode bMeanings_applyFunction 0 = .ok (.aload_n 0, 1) := by decide +kernel
theorem dMeanings_applyFunction_1 : decode bMeanings_applyFunction 1 = .ok (.getfield 27, 3) := by decide +kernel
theorem dMeanings_applyFunction_4 : decode bMeanings_applyFunction 4 = .ok (.iload_n 1, 1) := by decide +kernel
theorem dMeanings_applyFunction_5 : decode bMeanings_applyFunction 5 = .ok (.sipush 3000, 3) := by decide +kernel
theorem dMeanings_applyFunction_8 : decode bMeanings_applyFunction 8 = .ok (.invokevirtual 85, 3) := by decide +kernel
theorem dMeanings_applyFunction_11 : decode bMeanings_applyFunction 11 = .ok (.aload_n 0, 1) := by decide +kernel
theorem dMeanings_applyFunction_12 : decode bMeanings_applyFunction 12 = .ok (.getfield 9, 3) := by decide +kernel
theorem dMeanings_applyFunction_15 : decode bMeanings_applyFunction 15 = .ok (.iload_n 1, 1) := by decide +kernel
theorem dMeanings_applyFunction_16 : decode bMeanings_applyFunction 16 = .ok (.invokevirtual 31, 3) := by decide +kernel
theorem dMeanings_applyFunction_19 : decode bMeanings_applyFunction 19 = .ok (.iload_n 2, 1) := by decide +kernel
theorem dMeanings_applyFunction_20 : decode bMeanings_applyFunction 20 = .ok (.bipush 11, 2) := by decide +kernel
theorem dMeanings_applyFunction_22 : decode bMeanings_applyFunction 22 = .ok (.if_icmp .ne 7, 3) := by decide +kernel
theorem dMeanings_applyFunction_25 : decode bMeanings_applyFunction 25 = .ok (.iconst 2, 1) := by decide +kernel
theorem dMeanings_applyFunction_26 : decode bMeanings_applyFunction 26 = .ok (.goto 4, 3) := by decide +kernel
theorem dMeanings_applyFunction_29 : decode bMeanings_applyFunction 29 = .ok (.iconst 1, 1) := by decide +kernel
theorem dMeanings_applyFunction_30 : decode bMeanings_applyFunction 30 = .ok (.if_icmp .eq 6, 3) := by decide +kernel
theorem dMeanings_applyFunction_33 : decode bMeanings_applyFunction 33 = .ok (.bipush 11, 2) := by decide +kernel
theorem dMeanings_applyFunction_35 : decode bMeanings_applyFunction 35 = .ok (.ireturn, 1) := by decide +kernel
theorem dMeanings_applyFunction_36 : decode bMeanings_applyFunction 36 = .ok (.iload_n 2, 1) := by decide +kernel
theorem dMeanings_applyFunction_37 : decode bMeanings_applyFunction 37 = .ok (.lookupswitch 53 #[(10, 27), (11, 36)], 27) := by decide +kernel
theorem dMeanings_applyFunction_64 : decode bMeanings_applyFunction 64 = .ok (.aload_n 0, 1) := by decide +kernel
theorem dMeanings_applyFunction_65 : decode bMeanings_applyFunction 65 = .ok (.iload_n 1, 1) := by decide +kernel
theorem dMeanings_applyFunction_66 : decode bMeanings_applyFunction 66 = .ok (.iload_n 1, 1) := by decide +kernel
theorem dMeanings_applyFunction_67 : decode bMeanings_applyFunction 67 = .ok (.iconst 1, 1) := by decide +kernel
theorem dMeanings_applyFunction_68 : decode bMeanings_applyFunction 68 = .ok (.isub, 1) := by decide +kernel
theorem dMeanings_applyFunction_69 : decode bMeanings_applyFunction 69 = .ok (.invokevirtual 131, 3) := by decide +kernel
theorem dMeanings_applyFunction_72 : decode bMeanings_applyFunction 72 = .ok (.ireturn, 1) := by decide +kernel
theorem dMeanings_applyFunction_73 : decode bMeanings_applyFunction 73 = .ok (.aload_n 0, 1) := by decide +kernel
theorem dMeanings_applyFunction_74 : decode bMeanings_applyFunction 74 = .ok (.iload_n 1, 1) := by decide +kernel
theorem dMeanings_applyFunction_75 : decode bMeanings_applyFunction 75 = .ok (.aload_n 0, 1) := by decide +kernel
theorem dMeanings_applyFunction_76 : decode bMeanings_applyFunction 76 = .ok (.getfield 9, 3) := by decide +kernel
theorem dMeanings_applyFunction_79 : decode bMeanings_applyFunction 79 = .ok (.iload_n 1, 1) := by decide +kernel
theorem dMeanings_applyFunction_80 : decode bMeanings_applyFunction 80 = .ok (.invokevirtual 134, 3) := by decide +kernel
theorem dMeanings_applyFunction_83 : decode bMeanings_applyFunction 83 = .ok (.iload_n 1, 1) := by decide +kernel
theorem dMeanings_applyFunction_84 : decode bMeanings_applyFunction 84 = .ok (.iconst 1, 1) := by decide +kernel
theorem dMeanings_applyFunction_85 : decode bMeanings_applyFunction 85 = .ok (.isub, 1) := by decide +kernel
theorem dMeanings_applyFunction_86 : decode bMeanings_applyFunction 86 = .ok (.invokevirtual 137, 3) := by decide +kernel
theorem dMeanings_applyFunction_89 : decode bMeanings_applyFunction 89 = .ok (.ireturn, 1) := by decide +kernel
theorem dMeanings_applyFunction_90 : decode bMeanings_applyFunction 90 = .ok (.aload_n 0, 1) := by decide +kernel
theorem dMeanings_applyFunction_91 : decode bMeanings_applyFunction 91 = .ok (.iload_n 1, 1) := by decide +kernel
theorem dMeanings_applyFunction_92 : decode bMeanings_applyFunction 92 = .ok (.iload_n 1, 1) := by decide +kernel
theorem dMeanings_applyFunction_93 : decode bMeanings_applyFunction 93 = .ok (.iconst 1, 1) := by decide +kernel
theorem dMeanings_applyFunction_94 : decode bMeanings_applyFunction 94 = .ok (.isub, 1) := by decide +kernel
theorem dMeanings_applyFunction_95 : decode bMeanings_applyFunction 95 = .ok (.invokevirtual 140, 3) := by decide +kernel
theorem dMeanings_applyFunction_98 : decode bMeanings_applyFunction 98 = .ok (.ireturn, 1) := by decide +kernel
theorem dMeanings_edge_0 : decode bMeanings_edge 0 = .ok (.aload_n 0, 1) := by decide +kernel
theorem dMeanings_edge_1 : decode bMeanings_edge 1 = .ok (.getfield 9, 3) := by decide +kernel
theorem dMeanings_edge_4 : decode bMeanings_edge 4 = .ok (.iload_n 2, 1) := by decide +kernel
theorem dMeanings_edge_5 : decode bMeanings_edge 5 = .ok (.invokevirtual 143, 3) := by decide +kernel
theorem dMeanings_edge_8 : decode bMeanings_edge 8 = .ok (.iconst 1, 1) := by decide +kernel
theorem dMeanings_edge_9 : decode bMeanings_edge 9 = .ok (.if_icmp .eq 6, 3) := by decide +kernel
theorem dMeanings_edge_12 : decode bMeanings_edge 12 = .ok (.bipush 11, 2) := by decide +kernel
theorem dMeanings_edge_14 : decode bMeanings_edge 14 = .ok (.ireturn, 1) := by decide +kernel
theorem dMeanings_edge_15 : decode bMeanings_edge 15 = .ok (.aload_n 0, 1) := by decide +kernel
theorem dMeanings_edge_16 : decode bMeanings_edge 16 = .ok (.getfield 23, 3) := by decide +kernel
theorem dMeanings_edge_19 : decode bMeanings_edge 19 = .ok (.aload_n 0, 1) := by decide +kernel
theorem dMeanings_edge_20 : decode bMeanings_edge 20 = .ok (.getfield 27, 3) := by decide +kernel
theorem dMeanings_edge_23 : decode bMeanings_edge 23 = .ok (.iload_n 2, 1) := by decide +kernel
theorem dMeanings_edge_24 : decode bMeanings_edge 24 = .ok (.invokevirtual 146, 3) := by decide +kernel
theorem dMeanings_edge_27 : decode bMeanings_edge 27 = .ok (.invokevirtual 103, 3) := by decide +kernel
theorem dMeanings_edge_30 : decode bMeanings_edge 30 = .ok (.iconst 1, 1) := by decide +kernel
theorem dMeanings_edge_31 : decode bMeanings_edge 31 = .ok (.if_icmp .eq 5, 3) := by decide +kernel
theorem dMeanings_edge_34 : decode bMeanings_edge 34 = .ok (.iconst 2, 1) := by decide +kernel
theorem dMeanings_edge_35 : decode bMeanings_edge 35 = .ok (.ireturn, 1) := by decide +kernel
theorem dMeanings_edge_36 : decode bMeanings_edge 36 = .ok (.aload_n 0, 1) := by decide +kernel
theorem dMeanings_edge_37 : decode bMeanings_edge 37 = .ok (.getfield 27, 3) := by decide +kernel
theorem dMeanings_edge_40 : decode bMeanings_edge 40 = .ok (.iload_n 2, 1) := by decide +kernel
theorem dMeanings_edge_41 : decode bMeanings_edge 41 = .ok (.invokevirtual 120, 3) := by decide +kernel
theorem dMeanings_edge_44 : decode bMeanings_edge 44 = .ok (.ifCond .eq 5, 3) := by decide +kernel
theorem dMeanings_edge_47 : decode bMeanings_edge 47 = .ok (.iconst 3, 1) := by decide +kernel
theorem dMeanings_edge_48 : decode bMeanings_edge 48 = .ok (.ireturn, 1) := by decide +kernel
theorem dMeanings_edge_49 : decode bMeanings_edge 49 = .ok (.aload_n 0, 1) := by decide +kernel
theorem dMeanings_edge_50 : decode bMeanings_edge 50 = .ok (.getfield 27, 3) := by decide +kernel
theorem dMeanings_edge_53 : decode bMeanings_edge 53 = .ok (.iload_n 1, 1) := by decide +kernel
theorem dMeanings_edge_54 : decode bMeanings_edge 54 = .ok (.iconst 1, 1) := by decide +kernel
theorem dMeanings_edge_55 : decode bMeanings_edge 55 = .ok (.iconst 0, 1) := by decide +kernel
theorem dMeanings_edge_56 : decode bMeanings_edge 56 = .ok (.iconst 0, 1) := by decide +kernel
theorem dMeanings_edge_57 : decode bMeanings_edge 57 = .ok (.invokevirtual 79, 3) := by decide +kernel
theorem dMeanings_edge_60 : decode bMeanings_edge 60 = .ok (.iconst 0, 1) := by decide +kernel
theorem dMeanings_edge_61 : decode bMeanings_edge 61 = .ok (.ireturn, 1) := by decide +kernel
theorem dMeanings_numberOfRow_0 : decode bMeanings_numberOfRow 0 = .ok (.aload_n 0, 1) := by decide +kernel
theorem dMeanings_numberOfRow_1 : decode bMeanings_numberOfRow 1 = .ok (.getfield 27, 3) := by decide +kernel
theorem dMeanings_numberOfRow_4 : decode bMeanings_numberOfRow 4 = .ok (.iload_n 2, 1) := by decide +kernel
theorem dMeanings_numberOfRow_5 : decode bMeanings_numberOfRow 5 = .ok (.invokevirtual 120, 3) := by decide +kernel
theorem dMeanings_numberOfRow_8 : decode bMeanings_numberOfRow 8 = .ok (.iconst 3, 1) := by decide +kernel
theorem dMeanings_numberOfRow_9 : decode bMeanings_numberOfRow 9 = .ok (.if_icmp .eq 5, 3) := by decide +kernel
theorem dMeanings_numberOfRow_12 : decode bMeanings_numberOfRow 12 = .ok (.iconst 3, 1) := by decide +kernel
theorem dMeanings_numberOfRow_13 : decode bMeanings_numberOfRow 13 = .ok (.ireturn, 1) := by decide +kernel
theorem dMeanings_numberOfRow_14 : decode bMeanings_numberOfRow 14 = .ok (.aload_n 0, 1) := by decide +kernel
theorem dMeanings_numberOfRow_15 : decode bMeanings_numberOfRow 15 = .ok (.getfield 27, 3) := by decide +kernel
theorem dMeanings_numberOfRow_18 : decode bMeanings_numberOfRow 18 = .ok (.iload_n 1, 1) := by decide +kernel
theorem dMeanings_numberOfRow_19 : decode bMeanings_numberOfRow 19 = .ok (.iconst 2, 1) := by decide +kernel
theorem dMeanings_numberOfRow_20 : decode bMeanings_numberOfRow 20 = .ok (.iconst 0, 1) := by decide +kernel
theorem dMeanings_numberOfRow_21 : decode bMeanings_numberOfRow 21 = .ok (.aload_n 0, 1) := by decide +kernel
theorem dMeanings_numberOfRow_22 : decode bMeanings_numberOfRow 22 = .ok (.getfield 27, 3) := by decide +kernel
theorem dMeanings_numberOfRow_25 : decode bMeanings_numberOfRow 25 = .ok (.iload_n 2, 1) := by decide +kernel
theorem dMeanings_numberOfRow_26 : decode bMeanings_numberOfRow 26 = .ok (.invokevirtual 121, 3) := by decide +kernel
theorem dMeanings_numberOfRow_29 : decode bMeanings_numberOfRow 29 = .ok (.invokevirtual 79, 3) := by decide +kernel
theorem dMeanings_numberOfRow_32 : decode bMeanings_numberOfRow 32 = .ok (.aload_n 0, 1) := by decide +kernel
theorem dMeanings_numberOfRow_33 : decode bMeanings_numberOfRow 33 = .ok (.getfield 27, 3) := by decide +kernel
theorem dMeanings_numberOfRow_36 : decode bMeanings_numberOfRow 36 = .ok (.iload_n 2, 1) := by decide +kernel
theorem dMeanings_numberOfRow_37 : decode bMeanings_numberOfRow 37 = .ok (.invokevirtual 121, 3) := by decide +kernel
theorem dMeanings_numberOfRow_40 : decode bMeanings_numberOfRow 40 = .ok (.ifCond .ne 5, 3) := by decide +kernel
theorem dMeanings_numberOfRow_43 : decode bMeanings_numberOfRow 43 = .ok (.iconst 0, 1) := by decide +kernel
theorem dMeanings_numberOfRow_44 : decode bMeanings_numberOfRow 44 = .ok (.ireturn, 1) := by decide +kernel
theorem dMeanings_numberOfRow_45 : decode bMeanings_numberOfRow 45 = .ok (.aload_n 0, 1) := by decide +kernel
theorem dMeanings_numberOfRow_46 : decode bMeanings_numberOfRow 46 = .ok (.getfield 27, 3) := by decide +kernel
theorem dMeanings_numberOfRow_49 : decode bMeanings_numberOfRow 49 = .ok (.iload_n 2, 1) := by decide +kernel
theorem dMeanings_numberOfRow_50 : decode bMeanings_numberOfRow 50 = .ok (.invokevirtual 149, 3) := by decide +kernel
theorem dMeanings_numberOfRow_53 : decode bMeanings_numberOfRow 53 = .ok (.istore_n 3, 1) := by decide +kernel
theorem dMeanings_numberOfRow_54 : decode bMeanings_numberOfRow 54 = .ok (.aload_n 0, 1) := by decide +kernel
theorem dMeanings_numberOfRow_55 : decode bMeanings_numberOfRow 55 = .ok (.getfield 27, 3) := by decide +kernel
theorem dMeanings_numberOfRow_58 : decode bMeanings_numberOfRow 58 = .ok (.getfield 92, 3) := by decide +kernel
theorem dMeanings_numberOfRow_61 : decode bMeanings_numberOfRow 61 = .ok (.iload_n 2, 1) := by decide +kernel
theorem dMeanings_numberOfRow_62 : decode bMeanings_numberOfRow 62 = .ok (.iload_n 3, 1) := by decide +kernel
theorem dMeanings_numberOfRow_63 : decode bMeanings_numberOfRow 63 = .ok (.invokevirtual 150, 3) := by decide +kernel
theorem dMeanings_numberOfRow_66 : decode bMeanings_numberOfRow 66 = .ok (.lstore 4, 2) := by decide +kernel
theorem dMeanings_numberOfRow_68 : decode bMeanings_numberOfRow 68 = .ok (.aload_n 0, 1) := by decide +kernel
theorem dMeanings_numberOfRow_69 : decode bMeanings_numberOfRow 69 = .ok (.getfield 27, 3) := by decide +kernel
theorem dMeanings_numberOfRow_72 : decode bMeanings_numberOfRow 72 = .ok (.getfield 92, 3) := by decide +kernel
theorem dMeanings_numberOfRow_75 : decode bMeanings_numberOfRow 75 = .ok (.iload_n 2, 1) := by decide +kernel
theorem dMeanings_numberOfRow_76 : decode bMeanings_numberOfRow 76 = .ok (.iload_n 3, 1) := by decide +kernel
theorem dMeanings_numberOfRow_77 : decode bMeanings_numberOfRow 77 = .ok (.invokevirtual 154, 3) := by decide +kernel
theorem dMeanings_numberOfRow_80 : decode bMeanings_numberOfRow 80 = .ok (.ifCond .eq 19, 3) := by decide +kernel
theorem dMeanings_numberOfRow_83 : decode bMeanings_numberOfRow 83 = .ok (.lload 4, 2) := by decide +kernel
theorem dMeanings_numberOfRow_85 : decode bMeanings_numberOfRow 85 = .ok (.lconst 0, 1) := by decide +kernel
theorem dMeanings_numberOfRow_86 : decode bMeanings_numberOfRow 86 = .ok (.lcmp, 1) := by decide +kernel
theorem dMeanings_numberOfRow_87 : decode bMeanings_numberOfRow 87 = .ok (.ifCond .lt 12, 3) := by decide +kernel
theorem dMeanings_numberOfRow_90 : decode bMeanings_numberOfRow 90 = .ok (.lload 4, 2) := by decide +kernel
theorem dMeanings_numberOfRow_92 : decode bMeanings_numberOfRow 92 = .ok (.ldc2_w 158, 3) := by decide +kernel
theorem dMeanings_numberOfRow_95 : decode bMeanings_numberOfRow 95 = .ok (.lcmp, 1) := by decide +kernel
theorem dMeanings_numberOfRow_96 : decode bMeanings_numberOfRow 96 = .ok (.ifCond .le 6, 3) := by decide +kernel
theorem dMeanings_numberOfRow_99 : decode bMeanings_numberOfRow 99 = .ok (.bipush 9, 2) := by decide +kernel
theorem dMeanings_numberOfRow_101 : decode bMeanings_numberOfRow 101 = .ok (.ireturn, 1) := by decide +kernel
theorem dMeanings_numberOfRow_102 : decode bMeanings_numberOfRow 102 = .ok (.aload_n 0, 1) := by decide +kernel
theorem dMeanings_numberOfRow_103 : decode bMeanings_numberOfRow 103 = .ok (.getfield 27, 3) := by decide +kernel
theorem dMeanings_numberOfRow_106 : decode bMeanings_numberOfRow 106 = .ok (.iload_n 1, 1) := by decide +kernel
theorem dMeanings_numberOfRow_107 : decode bMeanings_numberOfRow 107 = .ok (.lload 4, 2) := by decide +kernel
theorem dMeanings_numberOfRow_109 : decode bMeanings_numberOfRow 109 = .ok (.l2i, 1) := by decide +kernel
theorem dMeanings_numberOfRow_110 : decode bMeanings_numberOfRow 110 = .ok (.invokevirtual 89, 3) := by decide +kernel
theorem dMeanings_numberOfRow_113 : decode bMeanings_numberOfRow 113 = .ok (.iconst 0, 1) := by decide +kernel
theorem dMeanings_numberOfRow_114 : decode bMeanings_numberOfRow 114 = .ok (.ireturn, 1) := by decide +kernel
theorem dMeanings_bits_0 : decode bMeanings_bits 0 = .ok (.aload_n 0, 1) := by decide +kernel
theorem dMeanings_bits_1 : decode bMeanings_bits 1 = .ok (.getfield 27, 3) := by decide +kernel
theorem dMeanings_bits_4 : decode bMeanings_bits 4 = .ok (.iload_n 2, 1) := by decide +kernel
theorem dMeanings_bits_5 : decode bMeanings_bits 5 = .ok (.invokevirtual 120, 3) := by decide +kernel
theorem dMeanings_bits_8 : decode bMeanings_bits 8 = .ok (.iconst 2, 1) := by decide +kernel
theorem dMeanings_bits_9 : decode bMeanings_bits 9 = .ok (.if_icmp .ne 26, 3) := by decide +kernel
theorem dMeanings_bits_12 : decode bMeanings_bits 12 = .ok (.aload_n 0, 1) := by decide +kernel
theorem dMeanings_bits_13 : decode bMeanings_bits 13 = .ok (.getfield 27, 3) := by decide +kernel
theorem dMeanings_bits_16 : decode bMeanings_bits 16 = .ok (.iload_n 3, 1) := by decide +kernel
theorem dMeanings_bits_17 : decode bMeanings_bits 17 = .ok (.invokevirtual 120, 3) := by decide +kernel
theorem dMeanings_bits_20 : decode bMeanings_bits 20 = .ok (.iconst 2, 1) := by decide +kernel
theorem dMeanings_bits_21 : decode bMeanings_bits 21 = .ok (.if_icmp .ne 14, 3) := by decide +kernel
theorem dMeanings_bits_24 : decode bMeanings_bits 24 = .ok (.aload_n 0, 1) := by decide +kernel
theorem dMeanings_bits_25 : decode bMeanings_bits 25 = .ok (.getfield 27, 3) := by decide +kernel
theorem dMeanings_bits_28 : decode bMeanings_bits 28 = .ok (.iload_n 3, 1) := by decide +kernel
theorem dMeanings_bits_29 : decode bMeanings_bits 29 = .ok (.invokevirtual 121, 3) := by decide +kernel
theorem dMeanings_bits_32 : decode bMeanings_bits 32 = .ok (.ifCond .ne 5, 3) := by decide +kernel
theorem dMeanings_bits_35 : decode bMeanings_bits 35 = .ok (.iconst 3, 1) := by decide +kernel
theorem dMeanings_bits_36 : decode bMeanings_bits 36 = .ok (.ireturn, 1) := by decide +kernel
theorem dMeanings_bits_37 : decode bMeanings_bits 37 = .ok (.aload_n 0, 1) := by decide +kernel
theorem dMeanings_bits_38 : decode bMeanings_bits 38 = .ok (.getfield 27, 3) := by decide +kernel
theorem dMeanings_bits_41 : decode bMeanings_bits 41 = .ok (.iload_n 3, 1) := by decide +kernel
theorem dMeanings_bits_42 : decode bMeanings_bits 42 = .ok (.invokevirtual 124, 3) := by decide +kernel
theorem dMeanings_bits_45 : decode bMeanings_bits 45 = .ok (.istore 4, 2) := by decide +kernel
theorem dMeanings_bits_47 : decode bMeanings_bits 47 = .ok (.iload 4, 2) := by decide +kernel
theorem dMeanings_bits_49 : decode bMeanings_bits 49 = .ok (.iconst 1, 1) := by decide +kernel
theorem dMeanings_bits_50 : decode bMeanings_bits 50 = .ok (.if_icmp .lt 14, 3) := by decide +kernel
theorem dMeanings_bits_53 : decode bMeanings_bits 53 = .ok (.iload 4, 2) := by decide +kernel
theorem dMeanings_bits_55 : decode bMeanings_bits 55 = .ok (.bipush 64, 2) := by decide +kernel
theorem dMeanings_bits_57 : decode bMeanings_bits 57 = .ok (.if_icmp .gt 7, 3) := by decide +kernel
theorem dMeanings_bits_60 : decode bMeanings_bits 60 = .ok (.iconst 1, 1) := by decide +kernel
theorem dMeanings_bits_61 : decode bMeanings_bits 61 = .ok (.goto 4, 3) := by decide +kernel
theorem dMeanings_bits_64 : decode bMeanings_bits 64 = .ok (.iconst 0, 1) := by decide +kernel
theorem dMeanings_bits_65 : decode bMeanings_bits 65 = .ok (.istore 5, 2) := by decide +kernel
theorem dMeanings_bits_67 : decode bMeanings_bits 67 = .ok (.aload_n 0, 1) := by decide +kernel
theorem dMeanings_bits_68 : decode bMeanings_bits 68 = .ok (.getfield 27, 3) := by decide +kernel
theorem dMeanings_bits_71 : decode bMeanings_bits 71 = .ok (.iload_n 1, 1) := by decide +kernel
theorem dMeanings_bits_72 : decode bMeanings_bits 72 = .ok (.iconst 3, 1) := by decide +kernel
theorem dMeanings_bits_73 : decode bMeanings_bits 73 = .ok (.iload 5, 2) := by decide +kernel
theorem dMeanings_bits_75 : decode bMeanings_bits 75 = .ok (.ifCond .eq 8, 3) := by decide +kernel
theorem dMeanings_bits_78 : decode bMeanings_bits 78 = .ok (.iload 4, 2) := by decide +kernel
theorem dMeanings_bits_80 : decode bMeanings_bits 80 = .ok (.goto 4, 3) := by decide +kernel
theorem dMeanings_bits_83 : decode bMeanings_bits 83 = .ok (.iconst 0, 1) := by decide +kernel
theorem dMeanings_bits_84 : decode bMeanings_bits 84 = .ok (.aload_n 0, 1) := by decide +kernel
theorem dMeanings_bits_85 : decode bMeanings_bits 85 = .ok (.getfield 27, 3) := by decide +kernel
theorem dMeanings_bits_88 : decode bMeanings_bits 88 = .ok (.iload_n 2, 1) := by decide +kernel
theorem dMeanings_bits_89 : decode bMeanings_bits 89 = .ok (.invokevirtual 121, 3) := by decide +kernel
theorem dMeanings_bits_92 : decode bMeanings_bits 92 = .ok (.invokevirtual 79, 3) := by decide +kernel
theorem dMeanings_bits_95 : decode bMeanings_bits 95 = .ok (.iload 5, 2) := by decide +kernel
theorem dMeanings_bits_97 : decode bMeanings_bits 97 = .ok (.ifCond .ne 5, 3) := by decide +kernel
theorem dMeanings_bits_100 : decode bMeanings_bits 100 = .ok (.iconst 4, 1) := by decide +kernel
theorem dMeanings_bits_101 : decode bMeanings_bits 101 = .ok (.ireturn, 1) := by decide +kernel
theorem dMeanings_bits_102 : decode bMeanings_bits 102 = .ok (.aload_n 0, 1) := by decide +kernel
theorem dMeanings_bits_103 : decode bMeanings_bits 103 = .ok (.getfield 27, 3) := by decide +kernel
theorem dMeanings_bits_106 : decode bMeanings_bits 106 = .ok (.iload_n 2, 1) := by decide +kernel
theorem dMeanings_bits_107 : decode bMeanings_bits 107 = .ok (.invokevirtual 121, 3) := by decide +kernel
theorem dMeanings_bits_110 : decode bMeanings_bits 110 = .ok (.ifCond .eq 25, 3) := by decide +kernel
theorem dMeanings_bits_113 : decode bMeanings_bits 113 = .ok (.aload_n 0, 1) := by decide +kernel
theorem dMeanings_bits_114 : decode bMeanings_bits 114 = .ok (.getfield 27, 3) := by decide +kernel
theorem dMeanings_bits_117 : decode bMeanings_bits 117 = .ok (.getfield 92, 3) := by decide +kernel
theorem dMeanings_bits_120 : decode bMeanings_bits 120 = .ok (.iload_n 1, 1) := by decide +kernel
theorem dMeanings_bits_121 : decode bMeanings_bits 121 = .ok (.iload 4, 2) := by decide +kernel
theorem dMeanings_bits_123 : decode bMeanings_bits 123 = .ok (.aload_n 0, 1) := by decide +kernel
theorem dMeanings_bits_124 : decode bMeanings_bits 124 = .ok (.getfield 27, 3) := by decide +kernel
theorem dMeanings_bits_127 : decode bMeanings_bits 127 = .ok (.iload_n 2, 1) := by decide +kernel
theorem dMeanings_bits_128 : decode bMeanings_bits 128 = .ok (.invokevirtual 124, 3) := by decide +kernel
theorem dMeanings_bits_131 : decode bMeanings_bits 131 = .ok (.i2l, 1) := by decide +kernel
theorem dMeanings_bits_132 : decode bMeanings_bits 132 = .ok (.invokevirtual 160, 3) := by decide +kernel
theorem dMeanings_bits_135 : decode bMeanings_bits 135 = .ok (.iconst 0, 1) := by decide +kernel
theorem dMeanings_bits_136 : decode bMeanings_bits 136 = .ok (.ireturn, 1) := by decide +kernel
theorem dMeanings_slice_0 : decode bMeanings_slice 0 = .ok (.aload_n 0, 1) := by decide +kernel
theorem dMeanings_slice_1 : decode bMeanings_slice 1 = .ok (.getfield 9, 3) := by decide +kernel
theorem dMeanings_slice_4 : decode bMeanings_slice 4 = .ok (.iload_n 1, 1) := by decide +kernel
theorem dMeanings_slice_5 : decode bMeanings_slice 5 = .ok (.invokevirtual 31, 3) := by decide +kernel
theorem dMeanings_slice_8 : decode bMeanings_slice 8 = .ok (.iconst 2, 1) := by decide +kernel
theorem dMeanings_slice_9 : decode bMeanings_slice 9 = .ok (.if_icmp .eq 6, 3) := by decide +kernel
theorem dMeanings_slice_12 : decode bMeanings_slice 12 = .ok (.bipush 11, 2) := by decide +kernel
theorem dMeanings_slice_14 : decode bMeanings_slice 14 = .ok (.ireturn, 1) := by decide +kernel
theorem dMeanings_slice_15 : decode bMeanings_slice 15 = .ok (.aload_n 0, 1) := by decide +kernel
theorem dMeanings_slice_16 : decode bMeanings_slice 16 = .ok (.iload_n 1, 1) := by decide +kernel
theorem dMeanings_slice_17 : decode bMeanings_slice 17 = .ok (.invokevirtual 164, 3) := by decide +kernel
theorem dMeanings_slice_20 : decode bMeanings_slice 20 = .ok (.ifCond .eq 5, 3) := by decide +kernel
theorem dMeanings_slice_23 : decode bMeanings_slice 23 = .ok (.iconst 1, 1) := by decide +kernel
theorem dMeanings_slice_24 : decode bMeanings_slice 24 = .ok (.ireturn, 1) := by decide +kernel
theorem dMeanings_slice_25 : decode bMeanings_slice 25 = .ok (.aload_n 0, 1) := by decide +kernel
theorem dMeanings_slice_26 : decode bMeanings_slice 26 = .ok (.iload_n 1, 1) := by decide +kernel
theorem dMeanings_slice_27 : decode bMeanings_slice 27 = .ok (.invokevirtual 110, 3) := by decide +kernel
theorem dMeanings_slice_30 : decode bMeanings_slice 30 = .ok (.istore_n 2, 1) := by decide +kernel
theorem dMeanings_slice_31 : decode bMeanings_slice 31 = .ok (.iload_n 2, 1) := by decide +kernel
theorem dMeanings_slice_32 : decode bMeanings_slice 32 = .ok (.iconst (-1), 1) := by decide +kernel
theorem dMeanings_slice_33 : decode bMeanings_slice 33 = .ok (.if_icmp .eq 11, 3) := by decide +kernel
theorem dMeanings_slice_36 : decode bMeanings_slice 36 = .ok (.aload_n 0, 1) := by decide +kernel
theorem dMeanings_slice_37 : decode bMeanings_slice 37 = .ok (.iload_n 2, 1) := by decide +kernel
theorem dMeanings_slice_38 : decode bMeanings_slice 38 = .ok (.invokevirtual 113, 3) := by decide +kernel
theorem dMeanings_slice_41 : decode bMeanings_slice 41 = .ok (.ifCond .ne 5, 3) := by decide +kernel
theorem dMeanings_slice_44 : decode bMeanings_slice 44 = .ok (.iconst 2, 1) := by decide +kernel
theorem dMeanings_slice_45 : decode bMeanings_slice 45 = .ok (.ireturn, 1) := by decide +kernel
theorem dMeanings_slice_46 : decode bMeanings_slice 46 = .ok (.iload_n 1, 1) := by decide +kernel
theorem dMeanings_slice_47 : decode bMeanings_slice 47 = .ok (.iconst 1, 1) := by decide +kernel
theorem dMeanings_slice_48 : decode bMeanings_slice 48 = .ok (.isub, 1) := by decide +kernel
theorem dMeanings_slice_49 : decode bMeanings_slice 49 = .ok (.istore_n 3, 1) := by decide +kernel
theorem dMeanings_slice_50 : decode bMeanings_slice 50 = .ok (.aload_n 0, 1) := by decide +kernel
theorem dMeanings_slice_51 : decode bMeanings_slice 51 = .ok (.getfield 9, 3) := by decide +kernel
theorem dMeanings_slice_54 : decode bMeanings_slice 54 = .ok (.iload_n 1, 1) := by decide +kernel
theorem dMeanings_slice_55 : decode bMeanings_slice 55 = .ok (.invokevirtual 134, 3) := by decide +kernel
theorem dMeanings_slice_58 : decode bMeanings_slice 58 = .ok (.istore 4, 2) := by decide +kernel
theorem dMeanings_slice_60 : decode bMeanings_slice 60 = .ok (.aload_n 0, 1) := by decide +kernel
theorem dMeanings_slice_61 : decode bMeanings_slice 61 = .ok (.getfield 27, 3) := by decide +kernel
theorem dMeanings_slice_64 : decode bMeanings_slice 64 = .ok (.iload 4, 2) := by decide +kernel
theorem dMeanings_slice_66 : decode bMeanings_slice 66 = .ok (.invokevirtual 120, 3) := by decide +kernel
theorem dMeanings_slice_69 : decode bMeanings_slice 69 = .ok (.iconst 2, 1) := by decide +kernel
theorem dMeanings_slice_70 : decode bMeanings_slice 70 = .ok (.if_icmp .ne 15, 3) := by decide +kernel
theorem dMeanings_slice_73 : decode bMeanings_slice 73 = .ok (.aload_n 0, 1) := by decide +kernel
theorem dMeanings_slice_74 : decode bMeanings_slice 74 = .ok (.getfield 27, 3) := by decide +kernel
theorem dMeanings_slice_77 : decode bMeanings_slice 77 = .ok (.iload_n 3, 1) := by decide +kernel
theorem dMeanings_slice_78 : decode bMeanings_slice 78 = .ok (.invokevirtual 120, 3) := by decide +kernel
theorem dMeanings_slice_81 : decode bMeanings_slice 81 = .ok (.iconst 2, 1) := by decide +kernel
theorem dMeanings_slice_82 : decode bMeanings_slice 82 = .ok (.if_icmp .eq 5, 3) := by decide +kernel
theorem dMeanings_slice_85 : decode bMeanings_slice 85 = .ok (.iconst 3, 1) := by decide +kernel
theorem dMeanings_slice_86 : decode bMeanings_slice 86 = .ok (.ireturn, 1) := by decide +kernel
theorem dMeanings_slice_87 : decode bMeanings_slice 87 = .ok (.aload_n 0, 1) := by decide +kernel
theorem dMeanings_slice_88 : decode bMeanings_slice 88 = .ok (.getfield 27, 3) := by decide +kernel
theorem dMeanings_slice_91 : decode bMeanings_slice 91 = .ok (.iload_n 1, 1) := by decide +kernel
theorem dMeanings_slice_92 : decode bMeanings_slice 92 = .ok (.iconst 3, 1) := by decide +kernel
theorem dMeanings_slice_93 : decode bMeanings_slice 93 = .ok (.iconst 0, 1) := by decide +kernel
theorem dMeanings_slice_94 : decode bMeanings_slice 94 = .ok (.aload_n 0, 1) := by decide +kernel
theorem dMeanings_slice_95 : decode bMeanings_slice 95 = .ok (.iload_n 2, 1) := by decide +kernel
theorem dMeanings_slice_96 : decode bMeanings_slice 96 = .ok (.invokevirtual 75, 3) := by decide +kernel
theorem dMeanings_slice_99 : decode bMeanings_slice 99 = .ok (.ifCond .eq 30, 3) := by decide +kernel
theorem dMeanings_slice_102 : decode bMeanings_slice 102 = .ok (.aload_n 0, 1) := by decide +kernel
theorem dMeanings_slice_103 : decode bMeanings_slice 103 = .ok (.getfield 27, 3) := by decide +kernel
theorem dMeanings_slice_106 : decode bMeanings_slice 106 = .ok (.iload 4, 2) := by decide +kernel
theorem dMeanings_slice_108 : decode bMeanings_slice 108 = .ok (.invokevirtual 121, 3) := by decide +kernel
theorem dMeanings_slice_111 : decode bMeanings_slice 111 = .ok (.ifCond .eq 18, 3) := by decide +kernel
theorem dMeanings_slice_114 : decode bMeanings_slice 114 = .ok (.aload_n 0, 1) := by decide +kernel
theorem dMeanings_slice_115 : decode bMeanings_slice 115 = .ok (.getfield 27, 3) := by decide +kernel
theorem dMeanings_slice_118 : decode bMeanings_slice 118 = .ok (.iload_n 3, 1) := by decide +kernel
theorem dMeanings_slice_119 : decode bMeanings_slice 119 = .ok (.invokevirtual 121, 3) := by decide +kernel
theorem dMeanings_slice_122 : decode bMeanings_slice 122 = .ok (.ifCond .eq 7, 3) := by decide +kernel
theorem dMeanings_slice_125 : decode bMeanings_slice 125 = .ok (.iconst 1, 1) := by decide +kernel
theorem dMeanings_slice_126 : decode bMeanings_slice 126 = .ok (.goto 4, 3) := by decide +kernel
theorem dMeanings_slice_129 : decode bMeanings_slice 129 = .ok (.iconst 0, 1) := by decide +kernel
theorem dMeanings_slice_130 : decode bMeanings_slice 130 = .ok (.invokevirtual 79, 3) := by decide +kernel
theorem dMeanings_slice_133 : decode bMeanings_slice 133 = .ok (.aload_n 0, 1) := by decide +kernel
theorem dMeanings_slice_134 : decode bMeanings_slice 134 = .ok (.getfield 27, 3) := by decide +kernel
theorem dMeanings_slice_137 : decode bMeanings_slice 137 = .ok (.iload_n 1, 1) := by decide +kernel
theorem dMeanings_slice_138 : decode bMeanings_slice 138 = .ok (.iload_n 2, 1) := by decide +kernel
theorem dMeanings_slice_139 : decode bMeanings_slice 139 = .ok (.invokevirtual 85, 3) := by decide +kernel
theorem dMeanings_slice_142 : decode bMeanings_slice 142 = .ok (.aload_n 0, 1) := by decide +kernel
theorem dMeanings_slice_143 : decode bMeanings_slice 143 = .ok (.getfield 27, 3) := by decide +kernel
theorem dMeanings_slice_146 : decode bMeanings_slice 146 = .ok (.iload 4, 2) := by decide +kernel
theorem dMeanings_slice_148 : decode bMeanings_slice 148 = .ok (.invokevirtual 121, 3) := by decide +kernel
theorem dMeanings_slice_151 : decode bMeanings_slice 151 = .ok (.ifCond .eq 14, 3) := by decide +kernel
theorem dMeanings_slice_154 : decode bMeanings_slice 154 = .ok (.aload_n 0, 1) := by decide +kernel
theorem dMeanings_slice_155 : decode bMeanings_slice 155 = .ok (.getfield 27, 3) := by decide +kernel
theorem dMeanings_slice_158 : decode bMeanings_slice 158 = .ok (.iload_n 3, 1) := by decide +kernel
theorem dMeanings_slice_159 : decode bMeanings_slice 159 = .ok (.invokevirtual 121, 3) := by decide +kernel
theorem dMeanings_slice_162 : decode bMeanings_slice 162 = .ok (.ifCond .ne 5, 3) := by decide +kernel
theorem dMeanings_slice_165 : decode bMeanings_slice 165 = .ok (.iconst 5, 1) := by decide +kernel
theorem dMeanings_slice_166 : decode bMeanings_slice 166 = .ok (.ireturn, 1) := by decide +kernel
theorem dMeanings_slice_167 : decode bMeanings_slice 167 = .ok (.aload_n 0, 1) := by decide +kernel
theorem dMeanings_slice_168 : decode bMeanings_slice 168 = .ok (.iload_n 1, 1) := by decide +kernel
theorem dMeanings_slice_169 : decode bMeanings_slice 169 = .ok (.iload_n 2, 1) := by decide +kernel
theorem dMeanings_slice_170 : decode bMeanings_slice 170 = .ok (.aload_n 0, 1) := by decide +kernel
theorem dMeanings_slice_171 : decode bMeanings_slice 171 = .ok (.getfield 27, 3) := by decide +kernel
theorem dMeanings_slice_174 : decode bMeanings_slice 174 = .ok (.iload 4, 2) := by decide +kernel
theorem dMeanings_slice_176 : decode bMeanings_slice 176 = .ok (.invokevirtual 124, 3) := by decide +kernel
theorem dMeanings_slice_179 : decode bMeanings_slice 179 = .ok (.aload_n 0, 1) := by decide +kernel
theorem dMeanings_slice_180 : decode bMeanings_slice 180 = .ok (.getfield 27, 3) := by decide +kernel
theorem dMeanings_slice_183 : decode bMeanings_slice 183 = .ok (.iload_n 3, 1) := by decide +kernel
theorem dMeanings_slice_184 : decode bMeanings_slice 184 = .ok (.invokevirtual 124, 3) := by decide +kernel
theorem dMeanings_slice_187 : decode bMeanings_slice 187 = .ok (.invokevirtual 167, 3) := by decide +kernel
theorem dMeanings_slice_190 : decode bMeanings_slice 190 = .ok (.ireturn, 1) := by decide +kernel
theorem dMeanings_cut_0 : decode bMeanings_cut 0 = .ok (.aload_n 0, 1) := by decide +kernel
theorem dMeanings_cut_1 : decode bMeanings_cut 1 = .ok (.getfield 23, 3) := by decide +kernel
theorem dMeanings_cut_4 : decode bMeanings_cut 4 = .ok (.iload_n 2, 1) := by decide +kernel
theorem dMeanings_cut_5 : decode bMeanings_cut 5 = .ok (.invokevirtual 62, 3) := by decide +kernel
theorem dMeanings_cut_8 : decode bMeanings_cut 8 = .ok (.istore 5, 2) := by decide +kernel
theorem dMeanings_cut_10 : decode bMeanings_cut 10 = .ok (.aload_n 0, 1) := by decide +kernel
theorem dMeanings_cut_11 : decode bMeanings_cut 11 = .ok (.getfield 19, 3) := by decide +kernel
theorem dMeanings_cut_14 : decode bMeanings_cut 14 = .ok (.iload 5, 2) := by decide +kernel
theorem dMeanings_cut_16 : decode bMeanings_cut 16 = .ok (.iload_n 3, 1) := by decide +kernel
theorem dMeanings_cut_17 : decode bMeanings_cut 17 = .ok (.invokevirtual 125, 3) := by decide +kernel
theorem dMeanings_cut_20 : decode bMeanings_cut 20 = .ok (.istore 6, 2) := by decide +kernel
theorem dMeanings_cut_22 : decode bMeanings_cut 22 = .ok (.aload_n 0, 1) := by decide +kernel
theorem dMeanings_cut_23 : decode bMeanings_cut 23 = .ok (.getfield 19, 3) := by decide +kernel
theorem dMeanings_cut_26 : decode bMeanings_cut 26 = .ok (.iload 5, 2) := by decide +kernel
theorem dMeanings_cut_28 : decode bMeanings_cut 28 = .ok (.iload 4, 2) := by decide +kernel
theorem dMeanings_cut_30 : decode bMeanings_cut 30 = .ok (.invokevirtual 125, 3) := by decide +kernel
theorem dMeanings_cut_33 : decode bMeanings_cut 33 = .ok (.istore 7, 2) := by decide +kernel
theorem dMeanings_cut_35 : decode bMeanings_cut 35 = .ok (.aload_n 0, 1) := by decide +kernel
theorem dMeanings_cut_36 : decode bMeanings_cut 36 = .ok (.getfield 19, 3) := by decide +kernel
theorem dMeanings_cut_39 : decode bMeanings_cut 39 = .ok (.iload 5, 2) := by decide +kernel
theorem dMeanings_cut_41 : decode bMeanings_cut 41 = .ok (.invokevirtual 171, 3) := by decide +kernel
theorem dMeanings_cut_44 : decode bMeanings_cut 44 = .ok (.aload_n 0, 1) := by decide +kernel
theorem dMeanings_cut_45 : decode bMeanings_cut 45 = .ok (.getfield 9, 3) := by decide +kernel
theorem dMeanings_cut_48 : decode bMeanings_cut 48 = .ok (.iload_n 1, 1) := by decide +kernel
theorem dMeanings_cut_49 : decode bMeanings_cut 49 = .ok (.invokevirtual 143, 3) := by decide +kernel
theorem dMeanings_cut_52 : decode bMeanings_cut 52 = .ok (.bipush 24, 2) := by decide +kernel
theorem dMeanings_cut_54 : decode bMeanings_cut 54 = .ok (.if_icmp .ne 7, 3) := by decide +kernel
theorem dMeanings_cut_57 : decode bMeanings_cut 57 = .ok (.iconst 1, 1) := by decide +kernel
theorem dMeanings_cut_58 : decode bMeanings_cut 58 = .ok (.goto 4, 3) := by decide +kernel
theorem dMeanings_cut_61 : decode bMeanings_cut 61 = .ok (.iconst 0, 1) := by decide +kernel
theorem dMeanings_cut_62 : decode bMeanings_cut 62 = .ok (.if_icmp .ne 7, 3) := by decide +kernel
theorem dMeanings_cut_65 : decode bMeanings_cut 65 = .ok (.iconst 1, 1) := by decide +kernel
theorem dMeanings_cut_66 : decode bMeanings_cut 66 = .ok (.goto 4, 3) := by decide +kernel
theorem dMeanings_cut_69 : decode bMeanings_cut 69 = .ok (.iconst 0, 1) := by decide +kernel
theorem dMeanings_cut_70 : decode bMeanings_cut 70 = .ok (.istore 8, 2) := by decide +kernel
theorem dMeanings_cut_72 : decode bMeanings_cut 72 = .ok (.iload 8, 2) := by decide +kernel
theorem dMeanings_cut_74 : decode bMeanings_cut 74 = .ok (.ifCond .eq 22, 3) := by decide +kernel
theorem dMeanings_cut_77 : decode bMeanings_cut 77 = .ok (.iload 6, 2) := by decide +kernel
theorem dMeanings_cut_79 : decode bMeanings_cut 79 = .ok (.iconst (-1), 1) := by decide +kernel
theorem dMeanings_cut_80 : decode bMeanings_cut 80 = .ok (.if_icmp .eq 16, 3) := by decide +kernel
theorem dMeanings_cut_83 : decode bMeanings_cut 83 = .ok (.iload 7, 2) := by decide +kernel
theorem dMeanings_cut_85 : decode bMeanings_cut 85 = .ok (.iconst (-1), 1) := by decide +kernel
theorem dMeanings_cut_86 : decode bMeanings_cut 86 = .ok (.if_icmp .eq 10, 3) := by decide +kernel
theorem dMeanings_cut_89 : decode bMeanings_cut 89 = .ok (.iload 6, 2) := by decide +kernel
theorem dMeanings_cut_91 : decode bMeanings_cut 91 = .ok (.iload 7, 2) := by decide +kernel
theorem dMeanings_cut_93 : decode bMeanings_cut 93 = .ok (.if_icmp .ge 6, 3) := by decide +kernel
theorem dMeanings_cut_96 : decode bMeanings_cut 96 = .ok (.bipush 6, 2) := by decide +kernel
theorem dMeanings_cut_98 : decode bMeanings_cut 98 = .ok (.ireturn, 1) := by decide +kernel
theorem dMeanings_cut_99 : decode bMeanings_cut 99 = .ok (.iload 6, 2) := by decide +kernel
theorem dMeanings_cut_101 : decode bMeanings_cut 101 = .ok (.iload 7, 2) := by decide +kernel
theorem dMeanings_cut_103 : decode bMeanings_cut 103 = .ok (.isub, 1) := by decide +kernel
theorem dMeanings_cut_104 : decode bMeanings_cut 104 = .ok (.iconst 1, 1) := by decide +kernel
theorem dMeanings_cut_105 : decode bMeanings_cut 105 = .ok (.iadd, 1) := by decide +kernel
theorem dMeanings_cut_106 : decode bMeanings_cut 106 = .ok (.istore 9, 2) := by decide +kernel
theorem dMeanings_cut_108 : decode bMeanings_cut 108 = .ok (.aload_n 0, 1) := by decide +kernel
theorem dMeanings_cut_109 : decode bMeanings_cut 109 = .ok (.getfield 27, 3) := by decide +kernel
theorem dMeanings_cut_112 : decode bMeanings_cut 112 = .ok (.iload_n 1, 1) := by decide +kernel
theorem dMeanings_cut_113 : decode bMeanings_cut 113 = .ok (.iconst 3, 1) := by decide +kernel
theorem dMeanings_cut_114 : decode bMeanings_cut 114 = .ok (.iload 9, 2) := by decide +kernel
theorem dMeanings_cut_116 : decode bMeanings_cut 116 = .ok (.aload_n 0, 1) := by decide +kernel
theorem dMeanings_cut_117 : decode bMeanings_cut 117 = .ok (.iload_n 2, 1) := by decide +kernel
theorem dMeanings_cut_118 : decode bMeanings_cut 118 = .ok (.invokevirtual 75, 3) := by decide +kernel
theorem dMeanings_cut_121 : decode bMeanings_cut 121 = .ok (.invokevirtual 79, 3) := by decide +kernel
theorem dMeanings_cut_124 : decode bMeanings_cut 124 = .ok (.iconst 0, 1) := by decide +kernel
theorem dMeanings_cut_125 : decode bMeanings_cut 125 = .ok (.istore 10, 2) := by decide +kernel
theorem dMeanings_cut_127 : decode bMeanings_cut 127 = .ok (.iload 10, 2) := by decide +kernel
theorem dMeanings_cut_129 : decode bMeanings_cut 129 = .ok (.iload 9, 2) := by decide +kernel
theorem dMeanings_cut_131 : decode bMeanings_cut 131 = .ok (.if_icmp .ge 38, 3) := by decide +kernel
theorem dMeanings_cut_134 : decode bMeanings_cut 134 = .ok (.aload_n 0, 1) := by decide +kernel
theorem dMeanings_cut_135 : decode bMeanings_cut 135 = .ok (.getfield 27, 3) := by decide +kernel
theorem dMeanings_cut_138 : decode bMeanings_cut 138 = .ok (.getfield 92, 3) := by decide +kernel
theorem dMeanings_cut_141 : decode bMeanings_cut 141 = .ok (.iload_n 1, 1) := by decide +kernel
theorem dMeanings_cut_142 : decode bMeanings_cut 142 = .ok (.iload 10, 2) := by decide +kernel
theorem dMeanings_cut_144 : decode bMeanings_cut 144 = .ok (.aload_n 0, 1) := by decide +kernel
theorem dMeanings_cut_145 : decode bMeanings_cut 145 = .ok (.getfield 23, 3) := by decide +kernel
theorem dMeanings_cut_148 : decode bMeanings_cut 148 = .ok (.getfield 96, 3) := by decide +kernel
theorem dMeanings_cut_151 : decode bMeanings_cut 151 = .ok (.iload_n 2, 1) := by decide +kernel
theorem dMeanings_cut_152 : decode bMeanings_cut 152 = .ok (.iload 7, 2) := by decide +kernel
theorem dMeanings_cut_154 : decode bMeanings_cut 154 = .ok (.iload 10, 2) := by decide +kernel
theorem dMeanings_cut_156 : decode bMeanings_cut 156 = .ok (.iadd, 1) := by decide +kernel
theorem dMeanings_cut_157 : decode bMeanings_cut 157 = .ok (.invokevirtual 128, 3) := by decide +kernel
theorem dMeanings_cut_160 : decode bMeanings_cut 160 = .ok (.invokevirtual 174, 3) := by decide +kernel
theorem dMeanings_cut_163 : decode bMeanings_cut 163 = .ok (.iinc 10 1, 3) := by decide +kernel
theorem dMeanings_cut_166 : decode bMeanings_cut 166 = .ok (.goto (-39), 3) := by decide +kernel
theorem dMeanings_cut_169 : decode bMeanings_cut 169 = .ok (.iconst 0, 1) := by decide +kernel
theorem dMeanings_cut_170 : decode bMeanings_cut 170 = .ok (.ireturn, 1) := by decide +kernel
theorem dMeanings_attribute_0 : decode bMeanings_attribute 0 = .ok (.iload_n 1, 1) := by decide +kernel
theorem dMeanings_attribute_1 : decode bMeanings_attribute 1 = .ok (.iconst 1, 1) := by decide +kernel
theorem dMeanings_attribute_2 : decode bMeanings_attribute 2 = .ok (.isub, 1) := by decide +kernel
theorem dMeanings_attribute_3 : decode bMeanings_attribute 3 = .ok (.istore_n 2, 1) := by decide +kernel
theorem dMeanings_attribute_4 : decode bMeanings_attribute 4 = .ok (.aload_n 0, 1) := by decide +kernel
theorem dMeanings_attribute_5 : decode bMeanings_attribute 5 = .ok (.getfield 9, 3) := by decide +kernel
theorem dMeanings_attribute_8 : decode bMeanings_attribute 8 = .ok (.iload_n 2, 1) := by decide +kernel
theorem dMeanings_attribute_9 : decode bMeanings_attribute 9 = .ok (.invokevirtual 37, 3) := by decide +kernel
theorem dMeanings_attribute_12 : decode bMeanings_attribute 12 = .ok (.istore_n 3, 1) := by decide +kernel
theorem dMeanings_attribute_13 : decode bMeanings_attribute 13 = .ok (.aload_n 0, 1) := by decide +kernel
theorem dMeanings_attribute_14 : decode bMeanings_attribute 14 = .ok (.getfield 9, 3) := by decide +kernel
theorem dMeanings_attribute_17 : decode bMeanings_attribute 17 = .ok (.iload_n 1, 1) := by decide +kernel
theorem dMeanings_attribute_18 : decode bMeanings_attribute 18 = .ok (.invokevirtual 31, 3) := by decide +kernel
theorem dMeanings_attribute_21 : decode bMeanings_attribute 21 = .ok (.iconst 1, 1) := by decide +kernel
theorem dMeanings_attribute_22 : decode bMeanings_attribute 22 = .ok (.if_icmp .ne 38, 3) := by decide +kernel
theorem dMeanings_attribute_25 : decode bMeanings_attribute 25 = .ok (.aload_n 0, 1) := by decide +kernel
theorem dMeanings_attribute_26 : decode bMeanings_attribute 26 = .ok (.getfield 9, 3) := by decide +kernel
theorem dMeanings_attribute_29 : decode bMeanings_attribute 29 = .ok (.iload_n 2, 1) := by decide +kernel
theorem dMeanings_attribute_30 : decode bMeanings_attribute 30 = .ok (.invokevirtual 143, 3) := by decide +kernel
theorem dMeanings_attribute_33 : decode bMeanings_attribute 33 = .ok (.iconst 1, 1) := by decide +kernel
theorem dMeanings_attribute_34 : decode bMeanings_attribute 34 = .ok (.if_icmp .ne 26, 3) := by decide +kernel
theorem dMeanings_attribute_37 : decode bMeanings_attribute 37 = .ok (.aload_n 0, 1) := by decide +kernel
theorem dMeanings_attribute_38 : decode bMeanings_attribute 38 = .ok (.getfield 9, 3) := by decide +kernel
theorem dMeanings_attribute_41 : decode bMeanings_attribute 41 = .ok (.iload_n 2, 1) := by decide +kernel
theorem dMeanings_attribute_42 : decode bMeanings_attribute 42 = .ok (.invokevirtual 31, 3) := by decide +kernel
theorem dMeanings_attribute_45 : decode bMeanings_attribute 45 = .ok (.ifCond .ne 15, 3) := by decide +kernel
theorem dMeanings_attribute_48 : decode bMeanings_attribute 48 = .ok (.iload_n 3, 1) := by decide +kernel
theorem dMeanings_attribute_49 : decode bMeanings_attribute 49 = .ok (.bipush 15, 2) := by decide +kernel
theorem dMeanings_attribute_51 : decode bMeanings_attribute 51 = .ok (.if_icmp .lt 9, 3) := by decide +kernel
theorem dMeanings_attribute_54 : decode bMeanings_attribute 54 = .ok (.iload_n 3, 1) := by decide +kernel
theorem dMeanings_attribute_55 : decode bMeanings_attribute 55 = .ok (.bipush 22, 2) := by decide +kernel
theorem dMeanings_attribute_57 : decode bMeanings_attribute 57 = .ok (.if_icmp .le 6, 3) := by decide +kernel
theorem dMeanings_attribute_60 : decode bMeanings_attribute 60 = .ok (.bipush 11, 2) := by decide +kernel
theorem dMeanings_attribute_62 : decode bMeanings_attribute 62 = .ok (.ireturn, 1) := by decide +kernel
theorem dMeanings_attribute_63 : decode bMeanings_attribute 63 = .ok (.aload_n 0, 1) := by decide +kernel
theorem dMeanings_attribute_64 : decode bMeanings_attribute 64 = .ok (.iload_n 1, 1) := by decide +kernel
theorem dMeanings_attribute_65 : decode bMeanings_attribute 65 = .ok (.invokevirtual 164, 3) := by decide +kernel
theorem dMeanings_attribute_68 : decode bMeanings_attribute 68 = .ok (.ifCond .eq 5, 3) := by decide +kernel
theorem dMeanings_attribute_71 : decode bMeanings_attribute 71 = .ok (.iconst 1, 1) := by decide +kernel
theorem dMeanings_attribute_72 : decode bMeanings_attribute 72 = .ok (.ireturn, 1) := by decide +kernel
theorem dMeanings_attribute_73 : decode bMeanings_attribute 73 = .ok (.aload_n 0, 1) := by decide +kernel
theorem dMeanings_attribute_74 : decode bMeanings_attribute 74 = .ok (.iload_n 1, 1) := by decide +kernel
theorem dMeanings_attribute_75 : decode bMeanings_attribute 75 = .ok (.invokevirtual 110, 3) := by decide +kernel
theorem dMeanings_attribute_78 : decode bMeanings_attribute 78 = .ok (.istore 4, 2) := by decide +kernel
theorem dMeanings_attribute_80 : decode bMeanings_attribute 80 = .ok (.iload 4, 2) := by decide +kernel
theorem dMeanings_attribute_82 : decode bMeanings_attribute 82 = .ok (.iconst (-1), 1) := by decide +kernel
theorem dMeanings_attribute_83 : decode bMeanings_attribute 83 = .ok (.if_icmp .eq 22, 3) := by decide +kernel
theorem dMeanings_attribute_86 : decode bMeanings_attribute 86 = .ok (.iload_n 3, 1) := by decide +kernel
theorem dMeanings_attribute_87 : decode bMeanings_attribute 87 = .ok (.bipush 17, 2) := by decide +kernel
theorem dMeanings_attribute_89 : decode bMeanings_attribute 89 = .ok (.if_icmp .gt 18, 3) := by decide +kernel
theorem dMeanings_attribute_92 : decode bMeanings_attribute 92 = .ok (.aload_n 0, 1) := by decide +kernel
theorem dMeanings_attribute_93 : decode bMeanings_attribute 93 = .ok (.getfield 23, 3) := by decide +kernel
theorem dMeanings_attribute_96 : decode bMeanings_attribute 96 = .ok (.iload 4, 2) := by decide +kernel
theorem dMeanings_attribute_98 : decode bMeanings_attribute 98 = .ok (.invokevirtual 103, 3) := by decide +kernel
theorem dMeanings_attribute_101 : decode bMeanings_attribute 101 = .ok (.iconst 1, 1) := by decide +kernel
theorem dMeanings_attribute_102 : decode bMeanings_attribute 102 = .ok (.if_icmp .eq 5, 3) := by decide +kernel
theorem dMeanings_attribute_105 : decode bMeanings_attribute 105 = .ok (.iconst 2, 1) := by decide +kernel
theorem dMeanings_attribute_106 : decode bMeanings_attribute 106 = .ok (.ireturn, 1) := by decide +kernel
theorem dMeanings_attribute_107 : decode bMeanings_attribute 107 = .ok (.iload_n 3, 1) := by decide +kernel
theorem dMeanings_attribute_108 : decode bMeanings_attribute 108 = .ok (.bipush 18, 2) := by decide +kernel
theorem dMeanings_attribute_110 : decode bMeanings_attribute 110 = .ok (.if_icmp .lt 14, 3) := by decide +kernel
theorem dMeanings_attribute_113 : decode bMeanings_attribute 113 = .ok (.aload_n 0, 1) := by decide +kernel
theorem dMeanings_attribute_114 : decode bMeanings_attribute 114 = .ok (.iload 4, 2) := by decide +kernel
theorem dMeanings_attribute_116 : decode bMeanings_attribute 116 = .ok (.invokevirtual 113, 3) := by decide +kernel
theorem dMeanings_attribute_119 : decode bMeanings_attribute 119 = .ok (.ifCond .ne 5, 3) := by decide +kernel
theorem dMeanings_attribute_122 : decode bMeanings_attribute 122 = .ok (.iconst 3, 1) := by decide +kernel
theorem dMeanings_attribute_123 : decode bMeanings_attribute 123 = .ok (.ireturn, 1) := by decide +kernel
theorem dMeanings_attribute_124 : decode bMeanings_attribute 124 = .ok (.aload_n 0, 1) := by decide +kernel
theorem dMeanings_attribute_125 : decode bMeanings_attribute 125 = .ok (.iload_n 1, 1) := by decide +kernel
theorem dMeanings_attribute_126 : decode bMeanings_attribute 126 = .ok (.iload_n 3, 1) := by decide +kernel
theorem dMeanings_attribute_127 : decode bMeanings_attribute 127 = .ok (.aload_n 0, 1) := by decide +kernel
theorem dMeanings_attribute_128 : decode bMeanings_attribute 128 = .ok (.getfield 23, 3) := by decide +kernel
theorem dMeanings_attribute_131 : decode bMeanings_attribute 131 = .ok (.iload 4, 2) := by decide +kernel
theorem dMeanings_attribute_133 : decode bMeanings_attribute 133 = .ok (.invokevirtual 62, 3) := by decide +kernel
theorem dMeanings_attribute_136 : decode bMeanings_attribute 136 = .ok (.invokevirtual 178, 3) := by decide +kernel
theorem dMeanings_attribute_139 : decode bMeanings_attribute 139 = .ok (.aload_n 0, 1) := by decide +kernel
theorem dMeanings_attribute_140 : decode bMeanings_attribute 140 = .ok (.getfield 27, 3) := by decide +kernel
theorem dMeanings_attribute_143 : decode bMeanings_attribute 143 = .ok (.iload_n 1, 1) := by decide +kernel
theorem dMeanings_attribute_144 : decode bMeanings_attribute 144 = .ok (.iload 4, 2) := by decide +kernel
theorem dMeanings_attribute_146 : decode bMeanings_attribute 146 = .ok (.invokevirtual 85, 3) := by decide +kernel
theorem dMeanings_attribute_149 : decode bMeanings_attribute 149 = .ok (.iconst 0, 1) := by decide +kernel
theorem dMeanings_attribute_150 : decode bMeanings_attribute 150 = .ok (.ireturn, 1) := by decide +kernel
theorem dMeanings_noteAttribute_0 : decode bMeanings_noteAttribute 0 = .ok (.iload_n 2, 1) := by decide +kernel
theorem dMeanings_noteAttribute_1 : decode bMeanings_noteAttribute 1 = .ok (.bipush 18, 2) := by decide +kernel
theorem dMeanings_noteAttribute_3 : decode bMeanings_noteAttribute 3 = .ok (.if_icmp .lt 31, 3) := by decide +kernel
theorem dMeanings_noteAttribute_6 : decode bMeanings_noteAttribute 6 = .ok (.aload_n 0, 1) := by decide +kernel
theorem dMeanings_noteAttribute_7 : decode bMeanings_noteAttribute 7 = .ok (.getfield 27, 3) := by decide +kernel
theorem dMeanings_noteAttribute_10 : decode bMeanings_noteAttribute 10 = .ok (.iload_n 1, 1) := by decide +kernel
theorem dMeanings_noteAttribute_11 : decode bMeanings_noteAttribute 11 = .ok (.iconst 2, 1) := by decide +kernel
theorem dMeanings_noteAttribute_12 : decode bMeanings_noteAttribute 12 = .ok (.iconst 0, 1) := by decide +kernel
theorem dMeanings_noteAttribute_13 : decode bMeanings_noteAttribute 13 = .ok (.iconst 1, 1) := by decide +kernel
theorem dMeanings_noteAttribute_14 : decode bMeanings_noteAttribute 14 = .ok (.invokevirtual 79, 3) := by decide +kernel
theorem dMeanings_noteAttribute_17 : decode bMeanings_noteAttribute 17 = .ok (.aload_n 0, 1) := by decide +kernel
theorem dMeanings_noteAttribute_18 : decode bMeanings_noteAttribute 18 = .ok (.getfield 27, 3) := by decide +kernel
theorem dMeanings_noteAttribute_21 : decode bMeanings_noteAttribute 21 = .ok (.iload_n 1, 1) := by decide +kernel
theorem dMeanings_noteAttribute_22 : decode bMeanings_noteAttribute 22 = .ok (.aload_n 0, 1) := by decide +kernel
theorem dMeanings_noteAttribute_23 : decode bMeanings_noteAttribute 23 = .ok (.iload_n 2, 1) := by decide +kernel
theorem dMeanings_noteAttribute_24 : decode bMeanings_noteAttribute 24 = .ok (.iload_n 3, 1) := by decide +kernel
theorem dMeanings_noteAttribute_25 : decode bMeanings_noteAttribute 25 = .ok (.invokevirtual 181, 3) := by decide +kernel
theorem dMeanings_noteAttribute_28 : decode bMeanings_noteAttribute 28 = .ok (.invokevirtual 89, 3) := by decide +kernel
theorem dMeanings_noteAttribute_31 : decode bMeanings_noteAttribute 31 = .ok (.goto 48, 3) := by decide +kernel
theorem dMeanings_noteAttribute_34 : decode bMeanings_noteAttribute 34 = .ok (.iload_n 2, 1) := by decide +kernel
theorem dMeanings_noteAttribute_35 : decode bMeanings_noteAttribute 35 = .ok (.bipush 17, 2) := by decide +kernel
theorem dMeanings_noteAttribute_37 : decode bMeanings_noteAttribute 37 = .ok (.if_icmp .ne 31, 3) := by decide +kernel
theorem dMeanings_noteAttribute_40 : decode bMeanings_noteAttribute 40 = .ok (.aload_n 0, 1) := by decide +kernel
theorem dMeanings_noteAttribute_41 : decode bMeanings_noteAttribute 41 = .ok (.getfield 27, 3) := by decide +kernel
theorem dMeanings_noteAttribute_44 : decode bMeanings_noteAttribute 44 = .ok (.iload_n 1, 1) := by decide +kernel
theorem dMeanings_noteAttribute_45 : decode bMeanings_noteAttribute 45 = .ok (.aload_n 0, 1) := by decide +kernel
theorem dMeanings_noteAttribute_46 : decode bMeanings_noteAttribute 46 = .ok (.getfield 19, 3) := by decide +kernel
theorem dMeanings_noteAttribute_49 : decode bMeanings_noteAttribute 49 = .ok (.iload_n 3, 1) := by decide +kernel
theorem dMeanings_noteAttribute_50 : decode bMeanings_noteAttribute 50 = .ok (.invokevirtual 67, 3) := by decide +kernel
theorem dMeanings_noteAttribute_53 : decode bMeanings_noteAttribute 53 = .ok (.aload_n 0, 1) := by decide +kernel
theorem dMeanings_noteAttribute_54 : decode bMeanings_noteAttribute 54 = .ok (.getfield 19, 3) := by decide +kernel
theorem dMeanings_noteAttribute_57 : decode bMeanings_noteAttribute 57 = .ok (.iload_n 3, 1) := by decide +kernel
theorem dMeanings_noteAttribute_58 : decode bMeanings_noteAttribute 58 = .ok (.invokevirtual 72, 3) := by decide +kernel
theorem dMeanings_noteAttribute_61 : decode bMeanings_noteAttribute 61 = .ok (.iconst 0, 1) := by decide +kernel
theorem dMeanings_noteAttribute_62 : decode bMeanings_noteAttribute 62 = .ok (.invokevirtual 79, 3) := by decide +kernel
theorem dMeanings_noteAttribute_65 : decode bMeanings_noteAttribute 65 = .ok (.goto 14, 3) := by decide +kernel
theorem dMeanings_noteAttribute_68 : decode bMeanings_noteAttribute 68 = .ok (.aload_n 0, 1) := by decide +kernel
theorem dMeanings_noteAttribute_69 : decode bMeanings_noteAttribute 69 = .ok (.getfield 27, 3) := by decide +kernel
theorem dMeanings_noteAttribute_72 : decode bMeanings_noteAttribute 72 = .ok (.iload_n 1, 1) := by decide +kernel
theorem dMeanings_noteAttribute_73 : decode bMeanings_noteAttribute 73 = .ok (.iconst 1, 1) := by decide +kernel
theorem dMeanings_noteAttribute_74 : decode bMeanings_noteAttribute 74 = .ok (.iconst 0, 1) := by decide +kernel
theorem dMeanings_noteAttribute_75 : decode bMeanings_noteAttribute 75 = .ok (.iconst 0, 1) := by decide +kernel
theorem dMeanings_noteAttribute_76 : decode bMeanings_noteAttribute 76 = .ok (.invokevirtual 79, 3) := by decide +kernel
theorem dMeanings_noteAttribute_79 : decode bMeanings_noteAttribute 79 = .ok (.return_, 1) := by decide +kernel
theorem dMeanings_boundOf_0 : decode bMeanings_boundOf 0 = .ok (.aload_n 0, 1) := by decide +kernel
theorem dMeanings_boundOf_1 : decode bMeanings_boundOf 1 = .ok (.getfield 19, 3) := by decide +kernel
theorem dMeanings_boundOf_4 : decode bMeanings_boundOf 4 = .ok (.iload_n 2, 1) := by decide +kernel
theorem dMeanings_boundOf_5 : decode bMeanings_boundOf 5 = .ok (.invokevirtual 184, 3) := by decide +kernel
theorem dMeanings_boundOf_8 : decode bMeanings_boundOf 8 = .ok (.istore_n 3, 1) := by decide +kernel
theorem dMeanings_boundOf_9 : decode bMeanings_boundOf 9 = .ok (.aload_n 0, 1) := by decide +kernel
theorem dMeanings_boundOf_10 : decode bMeanings_boundOf 10 = .ok (.getfield 19, 3) := by decide +kernel
theorem dMeanings_boundOf_13 : decode bMeanings_boundOf 13 = .ok (.iload_n 2, 1) := by decide +kernel
theorem dMeanings_boundOf_14 : decode bMeanings_boundOf 14 = .ok (.invokevirtual 187, 3) := by decide +kernel
theorem dMeanings_boundOf_17 : decode bMeanings_boundOf 17 = .ok (.istore 4, 2) := by decide +kernel
theorem dMeanings_boundOf_19 : decode bMeanings_boundOf 19 = .ok (.iload_n 1, 1) := by decide +kernel
theorem dMeanings_boundOf_20 : decode bMeanings_boundOf 20 = .ok (.tableswitch 51 19 22 #[32, 34, 37, 44], 32) := by decide +kernel
theorem dMeanings_boundOf_52 : decode bMeanings_boundOf 52 = .ok (.iload_n 3, 1) := by decide +kernel
theorem dMeanings_boundOf_53 : decode bMeanings_boundOf 53 = .ok (.ireturn, 1) := by decide +kernel
theorem dMeanings_boundOf_54 : decode bMeanings_boundOf 54 = .ok (.iload 4, 2) := by decide +kernel
theorem dMeanings_boundOf_56 : decode bMeanings_boundOf 56 = .ok (.ireturn, 1) := by decide +kernel
theorem dMeanings_boundOf_57 : decode bMeanings_boundOf 57 = .ok (.iload_n 3, 1) := by decide +kernel
theorem dMeanings_boundOf_58 : decode bMeanings_boundOf 58 = .ok (.iload 4, 2) := by decide +kernel
theorem dMeanings_boundOf_60 : decode bMeanings_boundOf 60 = .ok (.invokestatic 190, 3) := by decide +kernel
theorem dMeanings_boundOf_63 : decode bMeanings_boundOf 63 = .ok (.ireturn, 1) := by decide +kernel
theorem dMeanings_boundOf_64 : decode bMeanings_boundOf 64 = .ok (.iload_n 3, 1) := by decide +kernel
theorem dMeanings_boundOf_65 : decode bMeanings_boundOf 65 = .ok (.iload 4, 2) := by decide +kernel
theorem dMeanings_boundOf_67 : decode bMeanings_boundOf 67 = .ok (.invokestatic 195, 3) := by decide +kernel
theorem dMeanings_boundOf_70 : decode bMeanings_boundOf 70 = .ok (.ireturn, 1) := by decide +kernel
theorem dMeanings_boundOf_71 : decode bMeanings_boundOf 71 = .ok (.aload_n 0, 1) := by decide +kernel
theorem dMeanings_boundOf_72 : decode bMeanings_boundOf 72 = .ok (.getfield 19, 3) := by decide +kernel
theorem dMeanings_boundOf_75 : decode bMeanings_boundOf 75 = .ok (.iload_n 2, 1) := by decide +kernel
theorem dMeanings_boundOf_76 : decode bMeanings_boundOf 76 = .ok (.invokevirtual 198, 3) := by decide +kernel
theorem dMeanings_boundOf_79 : decode bMeanings_boundOf 79 = .ok (.ireturn, 1) := by decide +kernel
