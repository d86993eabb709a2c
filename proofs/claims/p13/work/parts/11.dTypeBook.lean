theorem dTypeBook_init_0 : decode bTypeBook_init 0 = .ok (.aload_n 0, 1) := by decide +kernel
theorem dTypeBook_init_1 : decode bTypeBook_init 1 = .ok (.invokespecial 1, 3) := by decide +kernel
theorem dTypeBook_init_4 : decode bTypeBook_init 4 = .ok (.aload_n 0, 1) := by decide +kernel
theorem dTypeBook_init_5 : decode bTypeBook_init 5 = .ok (.new 7, 3) := by decide +kernel
theorem dTypeBook_init_8 : decode bTypeBook_init 8 = .ok (.dup, 1) := by decide +kernel
theorem dTypeBook_init_9 : decode bTypeBook_init 9 = .ok (.invokespecial 9, 3) := by decide +kernel
theorem dTypeBook_init_12 : decode bTypeBook_init 12 = .ok (.putfield 10, 3) := by decide +kernel
theorem dTypeBook_init_15 : decode bTypeBook_init 15 = .ok (.aload_n 0, 1) := by decide +kernel
theorem dTypeBook_init_16 : decode bTypeBook_init 16 = .ok (.new 16, 3) := by decide +kernel
theorem dTypeBook_init_19 : decode bTypeBook_init 19 = .ok (.dup, 1) := by decide +kernel
theorem dTypeBook_init_20 : decode bTypeBook_init 20 = .ok (.invokespecial 18, 3) := by decide +kernel
theorem dTypeBook_init_23 : decode bTypeBook_init 23 = .ok (.putfield 19, 3) := by decide +kernel
theorem dTypeBook_init_26 : decode bTypeBook_init 26 = .ok (.aload_n 0, 1) := by decide +kernel
theorem dTypeBook_init_27 : decode bTypeBook_init 27 = .ok (.new 23, 3) := by decide +kernel
theorem dTypeBook_init_30 : decode bTypeBook_init 30 = .ok (.dup, 1) := by decide +kernel
theorem dTypeBook_init_31 : decode bTypeBook_init 31 = .ok (.invokespecial 25, 3) := by decide +kernel
theorem dTypeBook_init_34 : decode bTypeBook_init 34 = .ok (.putfield 26, 3) := by decide +kernel
theorem dTypeBook_init_37 : decode bTypeBook_init 37 = .ok (.aload_n 0, 1) := by decide +kernel
theorem dTypeBook_init_38 : decode bTypeBook_init 38 = .ok (.new 30, 3) := by decide +kernel
theorem dTypeBook_init_41 : decode bTypeBook_init 41 = .ok (.dup, 1) := by decide +kernel
theorem dTypeBook_init_42 : decode bTypeBook_init 42 = .ok (.invokespecial 32, 3) := by decide +kernel
theorem dTypeBook_init_45 : decode bTypeBook_init 45 = .ok (.putfield 33, 3) := by decide +kernel
theorem dTypeBook_init_48 : decode bTypeBook_init 48 = .ok (.aload_n 0, 1) := by decide +kernel
theorem dTypeBook_init_49 : decode bTypeBook_init 49 = .ok (.new 37, 3) := by decide +kernel
theorem dTypeBook_init_52 : decode bTypeBook_init 52 = .ok (.dup, 1) := by decide +kernel
theorem dTypeBook_init_53 : decode bTypeBook_init 53 = .ok (.invokespecial 39, 3) := by decide +kernel
theorem dTypeBook_init_56 : decode bTypeBook_init 56 = .ok (.putfield 40, 3) := by decide +kernel
theorem dTypeBook_init_59 : decode bTypeBook_init 59 = .ok (.aload_n 0, 1) := by decide +kernel
theorem dTypeBook_init_60 : decode bTypeBook_init 60 = .ok (.new 44, 3) := by decide +kernel
theorem dTypeBook_init_63 : decode bTypeBook_init 63 = .ok (.dup, 1) := by decide +kernel
theorem dTypeBook_init_64 : decode bTypeBook_init 64 = .ok (.aload_n 0, 1) := by decide +kernel
theorem dTypeBook_init_65 : decode bTypeBook_init 65 = .ok (.getfield 10, 3) := by decide +kernel
theorem dTypeBook_init_68 : decode bTypeBook_init 68 = .ok (.aload_n 0, 1) := by decide +kernel
theorem dTypeBook_init_69 : decode bTypeBook_init 69 = .ok (.getfield 19, 3) := by decide +kernel
theorem dTypeBook_init_72 : decode bTypeBook_init 72 = .ok (.aload_n 0, 1) := by decide +kernel
theorem dTypeBook_init_73 : decode bTypeBook_init 73 = .ok (.getfield 26, 3) := by decide +kernel
theorem dTypeBook_init_76 : decode bTypeBook_init 76 = .ok (.aload_n 0, 1) := by decide +kernel
theorem dTypeBook_init_77 : decode bTypeBook_init 77 = .ok (.getfield 33, 3) := by decide +kernel
theorem dTypeBook_init_80 : decode bTypeBook_init 80 = .ok (.invokespecial 46, 3) := by decide +kernel
theorem dTypeBook_init_83 : decode bTypeBook_init 83 = .ok (.putfield 49, 3) := by decide +kernel
theorem dTypeBook_init_86 : decode bTypeBook_init 86 = .ok (.aload_n 0, 1) := by decide +kernel
theorem dTypeBook_init_87 : decode bTypeBook_init 87 = .ok (.iconst (-1), 1) := by decide +kernel
theorem dTypeBook_init_88 : decode bTypeBook_init 88 = .ok (.putfield 53, 3) := by decide +kernel
theorem dTypeBook_init_91 : decode bTypeBook_init 91 = .ok (.return_, 1) := by decide +kernel
theorem dTypeBook_add_0 : decode bTypeBook_add 0 = .ok (.iload_n 1, 1) := by decide +kernel
theorem dTypeBook_add_1 : decode bTypeBook_add 1 = .ok (.ifCond .lt 24, 3) := by decide +kernel
theorem dTypeBook_add_4 : decode bTypeBook_add 4 = .ok (.iload_n 1, 1) := by decide +kernel
theorem dTypeBook_add_5 : decode bTypeBook_add 5 = .ok (.bipush 99, 2) := by decide +kernel
theorem dTypeBook_add_7 : decode bTypeBook_add 7 = .ok (.if_icmp .gt 18, 3) := by decide +kernel
theorem dTypeBook_add_10 : decode bTypeBook_add 10 = .ok (.iload_n 3, 1) := by decide +kernel
theorem dTypeBook_add_11 : decode bTypeBook_add 11 = .ok (.ifCond .lt 14, 3) := by decide +kernel
theorem dTypeBook_add_14 : decode bTypeBook_add 14 = .ok (.iload_n 3, 1) := by decide +kernel
theorem dTypeBook_add_15 : decode bTypeBook_add 15 = .ok (.aload_n 0, 1) := by decide +kernel
theorem dTypeBook_add_16 : decode bTypeBook_add 16 = .ok (.getfield 10, 3) := by decide +kernel
theorem dTypeBook_add_19 : decode bTypeBook_add 19 = .ok (.getfield 57, 3) := by decide +kernel
theorem dTypeBook_add_22 : decode bTypeBook_add 22 = .ok (.if_icmp .le 13, 3) := by decide +kernel
theorem dTypeBook_add_25 : decode bTypeBook_add 25 = .ok (.new 60, 3) := by decide +kernel
theorem dTypeBook_add_28 : decode bTypeBook_add 28 = .ok (.dup, 1) := by decide +kernel
theorem dTypeBook_add_29 : decode bTypeBook_add 29 = .ok (.ldc 62, 2) := by decide +kernel
theorem dTypeBook_add_31 : decode bTypeBook_add 31 = .ok (.invokespecial 64, 3) := by decide +kernel
theorem dTypeBook_add_34 : decode bTypeBook_add 34 = .ok (.athrow, 1) := by decide +kernel
theorem dTypeBook_add_35 : decode bTypeBook_add 35 = .ok (.iload_n 1, 1) := by decide +kernel
theorem dTypeBook_add_36 : decode bTypeBook_add 36 = .ok (.invokestatic 67, 3) := by decide +kernel
theorem dTypeBook_add_39 : decode bTypeBook_add 39 = .ok (.ifCond .eq 20, 3) := by decide +kernel
theorem dTypeBook_add_42 : decode bTypeBook_add 42 = .ok (.iload_n 2, 1) := by decide +kernel
theorem dTypeBook_add_43 : decode bTypeBook_add 43 = .ok (.invokestatic 71, 3) := by decide +kernel
theorem dTypeBook_add_46 : decode bTypeBook_add 46 = .ok (.ifCond .ne 13, 3) := by decide +kernel
theorem dTypeBook_add_49 : decode bTypeBook_add 49 = .ok (.new 60, 3) := by decide +kernel
theorem dTypeBook_add_52 : decode bTypeBook_add 52 = .ok (.dup, 1) := by decide +kernel
theorem dTypeBook_add_53 : decode bTypeBook_add 53 = .ok (.ldc 74, 2) := by decide +kernel
theorem dTypeBook_add_55 : decode bTypeBook_add 55 = .ok (.invokespecial 64, 3) := by decide +kernel
theorem dTypeBook_add_58 : decode bTypeBook_add 58 = .ok (.athrow, 1) := by decide +kernel
theorem dTypeBook_add_59 : decode bTypeBook_add 59 = .ok (.aload_n 0, 1) := by decide +kernel
theorem dTypeBook_add_60 : decode bTypeBook_add 60 = .ok (.getfield 10, 3) := by decide +kernel
theorem dTypeBook_add_63 : decode bTypeBook_add 63 = .ok (.getfield 76, 3) := by decide +kernel
theorem dTypeBook_add_66 : decode bTypeBook_add 66 = .ok (.sipush 4000, 3) := by decide +kernel
theorem dTypeBook_add_69 : decode bTypeBook_add 69 = .ok (.if_icmp .lt 13, 3) := by decide +kernel
theorem dTypeBook_add_72 : decode bTypeBook_add 72 = .ok (.new 79, 3) := by decide +kernel
theorem dTypeBook_add_75 : decode bTypeBook_add 75 = .ok (.dup, 1) := by decide +kernel
theorem dTypeBook_add_76 : decode bTypeBook_add 76 = .ok (.ldc 81, 2) := by decide +kernel
theorem dTypeBook_add_78 : decode bTypeBook_add 78 = .ok (.invokespecial 83, 3) := by decide +kernel
theorem dTypeBook_add_81 : decode bTypeBook_add 81 = .ok (.athrow, 1) := by decide +kernel
theorem dTypeBook_add_82 : decode bTypeBook_add 82 = .ok (.aload_n 0, 1) := by decide +kernel
theorem dTypeBook_add_83 : decode bTypeBook_add 83 = .ok (.getfield 10, 3) := by decide +kernel
theorem dTypeBook_add_86 : decode bTypeBook_add 86 = .ok (.iload_n 1, 1) := by decide +kernel
theorem dTypeBook_add_87 : decode bTypeBook_add 87 = .ok (.iload_n 2, 1) := by decide +kernel
theorem dTypeBook_add_88 : decode bTypeBook_add 88 = .ok (.iload_n 3, 1) := by decide +kernel
theorem dTypeBook_add_89 : decode bTypeBook_add 89 = .ok (.invokevirtual 84, 3) := by decide +kernel
theorem dTypeBook_add_92 : decode bTypeBook_add 92 = .ok (.istore 4, 2) := by decide +kernel
theorem dTypeBook_add_94 : decode bTypeBook_add 94 = .ok (.aload_n 0, 1) := by decide +kernel
theorem dTypeBook_add_95 : decode bTypeBook_add 95 = .ok (.getfield 40, 3) := by decide +kernel
theorem dTypeBook_add_98 : decode bTypeBook_add 98 = .ok (.aload_n 0, 1) := by decide +kernel
theorem dTypeBook_add_99 : decode bTypeBook_add 99 = .ok (.getfield 10, 3) := by decide +kernel
theorem dTypeBook_add_102 : decode bTypeBook_add 102 = .ok (.getfield 76, 3) := by decide +kernel
theorem dTypeBook_add_105 : decode bTypeBook_add 105 = .ok (.invokevirtual 88, 3) := by decide +kernel
theorem dTypeBook_add_108 : decode bTypeBook_add 108 = .ok (.aload_n 0, 1) := by decide +kernel
theorem dTypeBook_add_109 : decode bTypeBook_add 109 = .ok (.getfield 40, 3) := by decide +kernel
theorem dTypeBook_add_112 : decode bTypeBook_add 112 = .ok (.iload 4, 2) := by decide +kernel
theorem dTypeBook_add_114 : decode bTypeBook_add 114 = .ok (.invokevirtual 92, 3) := by decide +kernel
theorem dTypeBook_add_117 : decode bTypeBook_add 117 = .ok (.aload_n 0, 1) := by decide +kernel
theorem dTypeBook_add_118 : decode bTypeBook_add 118 = .ok (.getfield 49, 3) := by decide +kernel
theorem dTypeBook_add_121 : decode bTypeBook_add 121 = .ok (.aload_n 0, 1) := by decide +kernel
theorem dTypeBook_add_122 : decode bTypeBook_add 122 = .ok (.getfield 10, 3) := by decide +kernel
theorem dTypeBook_add_125 : decode bTypeBook_add 125 = .ok (.getfield 76, 3) := by decide +kernel
theorem dTypeBook_add_128 : decode bTypeBook_add 128 = .ok (.invokevirtual 95, 3) := by decide +kernel
theorem dTypeBook_add_131 : decode bTypeBook_add 131 = .ok (.iload 4, 2) := by decide +kernel
theorem dTypeBook_add_133 : decode bTypeBook_add 133 = .ok (.ireturn, 1) := by decide +kernel
theorem dTypeBook_clear_0 : decode bTypeBook_clear 0 = .ok (.aload_n 0, 1) := by decide +kernel
theorem dTypeBook_clear_1 : decode bTypeBook_clear 1 = .ok (.getfield 10, 3) := by decide +kernel
theorem dTypeBook_clear_4 : decode bTypeBook_clear 4 = .ok (.getfield 76, 3) := by decide +kernel
theorem dTypeBook_clear_7 : decode bTypeBook_clear 7 = .ok (.istore_n 1, 1) := by decide +kernel
theorem dTypeBook_clear_8 : decode bTypeBook_clear 8 = .ok (.aload_n 0, 1) := by decide +kernel
theorem dTypeBook_clear_9 : decode bTypeBook_clear 9 = .ok (.getfield 10, 3) := by decide +kernel
theorem dTypeBook_clear_12 : decode bTypeBook_clear 12 = .ok (.invokevirtual 96, 3) := by decide +kernel
theorem dTypeBook_clear_15 : decode bTypeBook_clear 15 = .ok (.iload_n 1, 1) := by decide +kernel
theorem dTypeBook_clear_16 : decode bTypeBook_clear 16 = .ok (.ireturn, 1) := by decide +kernel
theorem dTypeBook_enter_0 : decode bTypeBook_enter 0 = .ok (.aload_n 0, 1) := by decide +kernel
theorem dTypeBook_enter_1 : decode bTypeBook_enter 1 = .ok (.getfield 19, 3) := by decide +kernel
theorem dTypeBook_enter_4 : decode bTypeBook_enter 4 = .ok (.getfield 99, 3) := by decide +kernel
theorem dTypeBook_enter_7 : decode bTypeBook_enter 7 = .ok (.bipush 32, 2) := by decide +kernel
theorem dTypeBook_enter_9 : decode bTypeBook_enter 9 = .ok (.if_icmp .lt 13, 3) := by decide +kernel
theorem dTypeBook_enter_12 : decode bTypeBook_enter 12 = .ok (.new 79, 3) := by decide +kernel
theorem dTypeBook_enter_15 : decode bTypeBook_enter 15 = .ok (.dup, 1) := by decide +kernel
theorem dTypeBook_enter_16 : decode bTypeBook_enter 16 = .ok (.ldc 102, 2) := by decide +kernel
theorem dTypeBook_enter_18 : decode bTypeBook_enter 18 = .ok (.invokespecial 83, 3) := by decide +kernel
theorem dTypeBook_enter_21 : decode bTypeBook_enter 21 = .ok (.athrow, 1) := by decide +kernel
theorem dTypeBook_enter_22 : decode bTypeBook_enter 22 = .ok (.aload_n 0, 1) := by decide +kernel
theorem dTypeBook_enter_23 : decode bTypeBook_enter 23 = .ok (.getfield 19, 3) := by decide +kernel
theorem dTypeBook_enter_26 : decode bTypeBook_enter 26 = .ok (.invokevirtual 104, 3) := by decide +kernel
theorem dTypeBook_enter_29 : decode bTypeBook_enter 29 = .ok (.aload_n 0, 1) := by decide +kernel
theorem dTypeBook_enter_30 : decode bTypeBook_enter 30 = .ok (.getfield 19, 3) := by decide +kernel
theorem dTypeBook_enter_33 : decode bTypeBook_enter 33 = .ok (.getfield 99, 3) := by decide +kernel
theorem dTypeBook_enter_36 : decode bTypeBook_enter 36 = .ok (.ireturn, 1) := by decide +kernel
theorem dTypeBook_leave_0 : decode bTypeBook_leave 0 = .ok (.aload_n 0, 1) := by decide +kernel
theorem dTypeBook_leave_1 : decode bTypeBook_leave 1 = .ok (.getfield 19, 3) := by decide +kernel
theorem dTypeBook_leave_4 : decode bTypeBook_leave 4 = .ok (.getfield 99, 3) := by decide +kernel
theorem dTypeBook_leave_7 : decode bTypeBook_leave 7 = .ok (.iconst 1, 1) := by decide +kernel
theorem dTypeBook_leave_8 : decode bTypeBook_leave 8 = .ok (.if_icmp .gt 13, 3) := by decide +kernel
theorem dTypeBook_leave_11 : decode bTypeBook_leave 11 = .ok (.new 79, 3) := by decide +kernel
theorem dTypeBook_leave_14 : decode bTypeBook_leave 14 = .ok (.dup, 1) := by decide +kernel
theorem dTypeBook_leave_15 : decode bTypeBook_leave 15 = .ok (.ldc 107, 2) := by decide +kernel
theorem dTypeBook_leave_17 : decode bTypeBook_leave 17 = .ok (.invokespecial 83, 3) := by decide +kernel
theorem dTypeBook_leave_20 : decode bTypeBook_leave 20 = .ok (.athrow, 1) := by decide +kernel
theorem dTypeBook_leave_21 : decode bTypeBook_leave 21 = .ok (.aload_n 0, 1) := by decide +kernel
theorem dTypeBook_leave_22 : decode bTypeBook_leave 22 = .ok (.getfield 19, 3) := by decide +kernel
theorem dTypeBook_leave_25 : decode bTypeBook_leave 25 = .ok (.invokevirtual 109, 3) := by decide +kernel
theorem dTypeBook_leave_28 : decode bTypeBook_leave 28 = .ok (.aload_n 0, 1) := by decide +kernel
theorem dTypeBook_leave_29 : decode bTypeBook_leave 29 = .ok (.getfield 19, 3) := by decide +kernel
theorem dTypeBook_leave_32 : decode bTypeBook_leave 32 = .ok (.getfield 99, 3) := by decide +kernel
theorem dTypeBook_leave_35 : decode bTypeBook_leave 35 = .ok (.ireturn, 1) := by decide +kernel
theorem dTypeBook_type_0 : decode bTypeBook_type 0 = .ok (.aload_n 0, 1) := by decide +kernel
theorem dTypeBook_type_1 : decode bTypeBook_type 1 = .ok (.getfield 10, 3) := by decide +kernel
theorem dTypeBook_type_4 : decode bTypeBook_type 4 = .ok (.iload_n 1, 1) := by decide +kernel
theorem dTypeBook_type_5 : decode bTypeBook_type 5 = .ok (.invokevirtual 112, 3) := by decide +kernel
theorem dTypeBook_type_8 : decode bTypeBook_type 8 = .ok (.ifCond .ne 13, 3) := by decide +kernel
theorem dTypeBook_type_11 : decode bTypeBook_type 11 = .ok (.new 115, 3) := by decide +kernel
theorem dTypeBook_type_14 : decode bTypeBook_type 14 = .ok (.dup, 1) := by decide +kernel
theorem dTypeBook_type_15 : decode bTypeBook_type 15 = .ok (.ldc 117, 2) := by decide +kernel
theorem dTypeBook_type_17 : decode bTypeBook_type 17 = .ok (.invokespecial 119, 3) := by decide +kernel
theorem dTypeBook_type_20 : decode bTypeBook_type 20 = .ok (.athrow, 1) := by decide +kernel
theorem dTypeBook_type_21 : decode bTypeBook_type 21 = .ok (.aload_n 0, 1) := by decide +kernel
theorem dTypeBook_type_22 : decode bTypeBook_type 22 = .ok (.getfield 49, 3) := by decide +kernel
theorem dTypeBook_type_25 : decode bTypeBook_type 25 = .ok (.iload_n 1, 1) := by decide +kernel
theorem dTypeBook_type_26 : decode bTypeBook_type 26 = .ok (.iload_n 1, 1) := by decide +kernel
theorem dTypeBook_type_27 : decode bTypeBook_type 27 = .ok (.iconst 1, 1) := by decide +kernel
theorem dTypeBook_type_28 : decode bTypeBook_type 28 = .ok (.isub, 1) := by decide +kernel
theorem dTypeBook_type_29 : decode bTypeBook_type 29 = .ok (.invokevirtual 120, 3) := by decide +kernel
theorem dTypeBook_type_32 : decode bTypeBook_type 32 = .ok (.istore_n 2, 1) := by decide +kernel
theorem dTypeBook_type_33 : decode bTypeBook_type 33 = .ok (.iload_n 2, 1) := by decide +kernel
theorem dTypeBook_type_34 : decode bTypeBook_type 34 = .ok (.ifCond .eq 16, 3) := by decide +kernel
theorem dTypeBook_type_37 : decode bTypeBook_type 37 = .ok (.aload_n 0, 1) := by decide +kernel
theorem dTypeBook_type_38 : decode bTypeBook_type 38 = .ok (.iload_n 2, 1) := by decide +kernel
theorem dTypeBook_type_39 : decode bTypeBook_type 39 = .ok (.aload_n 0, 1) := by decide +kernel
theorem dTypeBook_type_40 : decode bTypeBook_type 40 = .ok (.getfield 49, 3) := by decide +kernel
theorem dTypeBook_type_43 : decode bTypeBook_type 43 = .ok (.getfield 124, 3) := by decide +kernel
theorem dTypeBook_type_46 : decode bTypeBook_type 46 = .ok (.invokevirtual 127, 3) := by decide +kernel
theorem dTypeBook_type_49 : decode bTypeBook_type 49 = .ok (.ireturn, 1) := by decide +kernel
theorem dTypeBook_type_50 : decode bTypeBook_type 50 = .ok (.aload_n 0, 1) := by decide +kernel
theorem dTypeBook_type_51 : decode bTypeBook_type 51 = .ok (.getfield 49, 3) := by decide +kernel
theorem dTypeBook_type_54 : decode bTypeBook_type 54 = .ok (.iload_n 1, 1) := by decide +kernel
theorem dTypeBook_type_55 : decode bTypeBook_type 55 = .ok (.invokevirtual 130, 3) := by decide +kernel
theorem dTypeBook_type_58 : decode bTypeBook_type 58 = .ok (.istore_n 2, 1) := by decide +kernel
theorem dTypeBook_type_59 : decode bTypeBook_type 59 = .ok (.iload_n 2, 1) := by decide +kernel
theorem dTypeBook_type_60 : decode bTypeBook_type 60 = .ok (.ifCond .eq 10, 3) := by decide +kernel
theorem dTypeBook_type_63 : decode bTypeBook_type 63 = .ok (.aload_n 0, 1) := by decide +kernel
theorem dTypeBook_type_64 : decode bTypeBook_type 64 = .ok (.iload_n 2, 1) := by decide +kernel
theorem dTypeBook_type_65 : decode bTypeBook_type 65 = .ok (.iload_n 1, 1) := by decide +kernel
theorem dTypeBook_type_66 : decode bTypeBook_type 66 = .ok (.invokevirtual 127, 3) := by decide +kernel
theorem dTypeBook_type_69 : decode bTypeBook_type 69 = .ok (.ireturn, 1) := by decide +kernel
theorem dTypeBook_type_70 : decode bTypeBook_type 70 = .ok (.aload_n 0, 1) := by decide +kernel
theorem dTypeBook_type_71 : decode bTypeBook_type 71 = .ok (.getfield 10, 3) := by decide +kernel
theorem dTypeBook_type_74 : decode bTypeBook_type 74 = .ok (.iload_n 1, 1) := by decide +kernel
theorem dTypeBook_type_75 : decode bTypeBook_type 75 = .ok (.invokevirtual 134, 3) := by decide +kernel
theorem dTypeBook_type_78 : decode bTypeBook_type 78 = .ok (.bipush 10, 2) := by decide +kernel
theorem dTypeBook_type_80 : decode bTypeBook_type 80 = .ok (.if_icmp .eq 7, 3) := by decide +kernel
theorem dTypeBook_type_83 : decode bTypeBook_type 83 = .ok (.iconst 1, 1) := by decide +kernel
theorem dTypeBook_type_84 : decode bTypeBook_type 84 = .ok (.goto 4, 3) := by decide +kernel
theorem dTypeBook_type_87 : decode bTypeBook_type 87 = .ok (.iconst 0, 1) := by decide +kernel
theorem dTypeBook_type_88 : decode bTypeBook_type 88 = .ok (.istore_n 3, 1) := by decide +kernel
theorem dTypeBook_type_89 : decode bTypeBook_type 89 = .ok (.iload_n 3, 1) := by decide +kernel
theorem dTypeBook_type_90 : decode bTypeBook_type 90 = .ok (.ifCond .eq 26, 3) := by decide +kernel
theorem dTypeBook_type_93 : decode bTypeBook_type 93 = .ok (.aload_n 0, 1) := by decide +kernel
theorem dTypeBook_type_94 : decode bTypeBook_type 94 = .ok (.getfield 26, 3) := by decide +kernel
theorem dTypeBook_type_97 : decode bTypeBook_type 97 = .ok (.getfield 137, 3) := by decide +kernel
theorem dTypeBook_type_100 : decode bTypeBook_type 100 = .ok (.sipush 1000, 3) := by decide +kernel
theorem dTypeBook_type_103 : decode bTypeBook_type 103 = .ok (.if_icmp .lt 13, 3) := by decide +kernel
theorem dTypeBook_type_106 : decode bTypeBook_type 106 = .ok (.new 79, 3) := by decide +kernel
theorem dTypeBook_type_109 : decode bTypeBook_type 109 = .ok (.dup, 1) := by decide +kernel
theorem dTypeBook_type_110 : decode bTypeBook_type 110 = .ok (.ldc 138, 2) := by decide +kernel
theorem dTypeBook_type_112 : decode bTypeBook_type 112 = .ok (.invokespecial 83, 3) := by decide +kernel
theorem dTypeBook_type_115 : decode bTypeBook_type 115 = .ok (.athrow, 1) := by decide +kernel
theorem dTypeBook_type_116 : decode bTypeBook_type 116 = .ok (.aload_n 0, 1) := by decide +kernel
theorem dTypeBook_type_117 : decode bTypeBook_type 117 = .ok (.getfield 49, 3) := by decide +kernel
theorem dTypeBook_type_120 : decode bTypeBook_type 120 = .ok (.aload_n 0, 1) := by decide +kernel
theorem dTypeBook_type_121 : decode bTypeBook_type 121 = .ok (.getfield 40, 3) := by decide +kernel
theorem dTypeBook_type_124 : decode bTypeBook_type 124 = .ok (.iload_n 1, 1) := by decide +kernel
theorem dTypeBook_type_125 : decode bTypeBook_type 125 = .ok (.iload_n 1, 1) := by decide +kernel
theorem dTypeBook_type_126 : decode bTypeBook_type 126 = .ok (.iconst 1, 1) := by decide +kernel
theorem dTypeBook_type_127 : decode bTypeBook_type 127 = .ok (.isub, 1) := by decide +kernel
theorem dTypeBook_type_128 : decode bTypeBook_type 128 = .ok (.invokevirtual 140, 3) := by decide +kernel
theorem dTypeBook_type_131 : decode bTypeBook_type 131 = .ok (.aload_n 0, 1) := by decide +kernel
theorem dTypeBook_type_132 : decode bTypeBook_type 132 = .ok (.iconst (-1), 1) := by decide +kernel
theorem dTypeBook_type_133 : decode bTypeBook_type 133 = .ok (.putfield 53, 3) := by decide +kernel
theorem dTypeBook_type_136 : decode bTypeBook_type 136 = .ok (.iload_n 3, 1) := by decide +kernel
theorem dTypeBook_type_137 : decode bTypeBook_type 137 = .ok (.ifCond .eq 14, 3) := by decide +kernel
theorem dTypeBook_type_140 : decode bTypeBook_type 140 = .ok (.aload_n 0, 1) := by decide +kernel
theorem dTypeBook_type_141 : decode bTypeBook_type 141 = .ok (.getfield 49, 3) := by decide +kernel
theorem dTypeBook_type_144 : decode bTypeBook_type 144 = .ok (.iload_n 1, 1) := by decide +kernel
theorem dTypeBook_type_145 : decode bTypeBook_type 145 = .ok (.invokevirtual 144, 3) := by decide +kernel
theorem dTypeBook_type_148 : decode bTypeBook_type 148 = .ok (.goto 11, 3) := by decide +kernel
theorem dTypeBook_type_151 : decode bTypeBook_type 151 = .ok (.aload_n 0, 1) := by decide +kernel
theorem dTypeBook_type_152 : decode bTypeBook_type 152 = .ok (.getfield 49, 3) := by decide +kernel
theorem dTypeBook_type_155 : decode bTypeBook_type 155 = .ok (.iload_n 1, 1) := by decide +kernel
theorem dTypeBook_type_156 : decode bTypeBook_type 156 = .ok (.invokevirtual 147, 3) := by decide +kernel
theorem dTypeBook_type_159 : decode bTypeBook_type 159 = .ok (.ireturn, 1) := by decide +kernel
theorem dTypeBook_enumeration_0 : decode bTypeBook_enumeration 0 = .ok (.aload_n 0, 1) := by decide +kernel
theorem dTypeBook_enumeration_1 : decode bTypeBook_enumeration 1 = .ok (.getfield 10, 3) := by decide +kernel
theorem dTypeBook_enumeration_4 : decode bTypeBook_enumeration 4 = .ok (.iload_n 1, 1) := by decide +kernel
theorem dTypeBook_enumeration_5 : decode bTypeBook_enumeration 5 = .ok (.invokevirtual 112, 3) := by decide +kernel
theorem dTypeBook_enumeration_8 : decode bTypeBook_enumeration 8 = .ok (.ifCond .ne 13, 3) := by decide +kernel
theorem dTypeBook_enumeration_11 : decode bTypeBook_enumeration 11 = .ok (.new 115, 3) := by decide +kernel
theorem dTypeBook_enumeration_14 : decode bTypeBook_enumeration 14 = .ok (.dup, 1) := by decide +kernel
theorem dTypeBook_enumeration_15 : decode bTypeBook_enumeration 15 = .ok (.ldc 117, 2) := by decide +kernel
theorem dTypeBook_enumeration_17 : decode bTypeBook_enumeration 17 = .ok (.invokespecial 119, 3) := by decide +kernel
theorem dTypeBook_enumeration_20 : decode bTypeBook_enumeration 20 = .ok (.athrow, 1) := by decide +kernel
theorem dTypeBook_enumeration_21 : decode bTypeBook_enumeration 21 = .ok (.aload_n 0, 1) := by decide +kernel
theorem dTypeBook_enumeration_22 : decode bTypeBook_enumeration 22 = .ok (.iload_n 1, 1) := by decide +kernel
theorem dTypeBook_enumeration_23 : decode bTypeBook_enumeration 23 = .ok (.invokevirtual 150, 3) := by decide +kernel
theorem dTypeBook_enumeration_26 : decode bTypeBook_enumeration 26 = .ok (.istore_n 2, 1) := by decide +kernel
theorem dTypeBook_enumeration_27 : decode bTypeBook_enumeration 27 = .ok (.iload_n 2, 1) := by decide +kernel
theorem dTypeBook_enumeration_28 : decode bTypeBook_enumeration 28 = .ok (.iconst (-1), 1) := by decide +kernel
theorem dTypeBook_enumeration_29 : decode bTypeBook_enumeration 29 = .ok (.if_icmp .eq 11, 3) := by decide +kernel
theorem dTypeBook_enumeration_32 : decode bTypeBook_enumeration 32 = .ok (.aload_n 0, 1) := by decide +kernel
theorem dTypeBook_enumeration_33 : decode bTypeBook_enumeration 33 = .ok (.bipush 11, 2) := by decide +kernel
theorem dTypeBook_enumeration_35 : decode bTypeBook_enumeration 35 = .ok (.iload_n 2, 1) := by decide +kernel
theorem dTypeBook_enumeration_36 : decode bTypeBook_enumeration 36 = .ok (.invokevirtual 127, 3) := by decide +kernel
theorem dTypeBook_enumeration_39 : decode bTypeBook_enumeration 39 = .ok (.ireturn, 1) := by decide +kernel
theorem dTypeBook_enumeration_40 : decode bTypeBook_enumeration 40 = .ok (.aload_n 0, 1) := by decide +kernel
theorem dTypeBook_enumeration_41 : decode bTypeBook_enumeration 41 = .ok (.iload_n 1, 1) := by decide +kernel
theorem dTypeBook_enumeration_42 : decode bTypeBook_enumeration 42 = .ok (.invokevirtual 153, 3) := by decide +kernel
theorem dTypeBook_enumeration_45 : decode bTypeBook_enumeration 45 = .ok (.istore_n 3, 1) := by decide +kernel
theorem dTypeBook_enumeration_46 : decode bTypeBook_enumeration 46 = .ok (.iload_n 3, 1) := by decide +kernel
theorem dTypeBook_enumeration_47 : decode bTypeBook_enumeration 47 = .ok (.iconst (-1), 1) := by decide +kernel
theorem dTypeBook_enumeration_48 : decode bTypeBook_enumeration 48 = .ok (.if_icmp .eq 11, 3) := by decide +kernel
theorem dTypeBook_enumeration_51 : decode bTypeBook_enumeration 51 = .ok (.aload_n 0, 1) := by decide +kernel
theorem dTypeBook_enumeration_52 : decode bTypeBook_enumeration 52 = .ok (.bipush 7, 2) := by decide +kernel
theorem dTypeBook_enumeration_54 : decode bTypeBook_enumeration 54 = .ok (.iload_n 3, 1) := by decide +kernel
theorem dTypeBook_enumeration_55 : decode bTypeBook_enumeration 55 = .ok (.invokevirtual 127, 3) := by decide +kernel
theorem dTypeBook_enumeration_58 : decode bTypeBook_enumeration 58 = .ok (.ireturn, 1) := by decide +kernel
theorem dTypeBook_enumeration_59 : decode bTypeBook_enumeration 59 = .ok (.aload_n 0, 1) := by decide +kernel
theorem dTypeBook_enumeration_60 : decode bTypeBook_enumeration 60 = .ok (.getfield 10, 3) := by decide +kernel
theorem dTypeBook_enumeration_63 : decode bTypeBook_enumeration 63 = .ok (.iload_n 1, 1) := by decide +kernel
theorem dTypeBook_enumeration_64 : decode bTypeBook_enumeration 64 = .ok (.invokevirtual 156, 3) := by decide +kernel
theorem dTypeBook_enumeration_67 : decode bTypeBook_enumeration 67 = .ok (.istore 4, 2) := by decide +kernel
theorem dTypeBook_enumeration_69 : decode bTypeBook_enumeration 69 = .ok (.aload_n 0, 1) := by decide +kernel
theorem dTypeBook_enumeration_70 : decode bTypeBook_enumeration 70 = .ok (.getfield 26, 3) := by decide +kernel
theorem dTypeBook_enumeration_73 : decode bTypeBook_enumeration 73 = .ok (.getfield 137, 3) := by decide +kernel
theorem dTypeBook_enumeration_76 : decode bTypeBook_enumeration 76 = .ok (.sipush 1000, 3) := by decide +kernel
theorem dTypeBook_enumeration_79 : decode bTypeBook_enumeration 79 = .ok (.if_icmp .ge 17, 3) := by decide +kernel
theorem dTypeBook_enumeration_82 : decode bTypeBook_enumeration 82 = .ok (.aload_n 0, 1) := by decide +kernel
theorem dTypeBook_enumeration_83 : decode bTypeBook_enumeration 83 = .ok (.getfield 19, 3) := by decide +kernel
theorem dTypeBook_enumeration_86 : decode bTypeBook_enumeration 86 = .ok (.iload 4, 2) := by decide +kernel
theorem dTypeBook_enumeration_88 : decode bTypeBook_enumeration 88 = .ok (.iconst 1, 1) := by decide +kernel
theorem dTypeBook_enumeration_89 : decode bTypeBook_enumeration 89 = .ok (.iadd, 1) := by decide +kernel
theorem dTypeBook_enumeration_90 : decode bTypeBook_enumeration 90 = .ok (.invokevirtual 159, 3) := by decide +kernel
theorem dTypeBook_enumeration_93 : decode bTypeBook_enumeration 93 = .ok (.ifCond .ne 13, 3) := by decide +kernel
theorem dTypeBook_enumeration_96 : decode bTypeBook_enumeration 96 = .ok (.new 79, 3) := by decide +kernel
theorem dTypeBook_enumeration_99 : decode bTypeBook_enumeration 99 = .ok (.dup, 1) := by decide +kernel
theorem dTypeBook_enumeration_100 : decode bTypeBook_enumeration 100 = .ok (.ldc 162, 2) := by decide +kernel
theorem dTypeBook_enumeration_102 : decode bTypeBook_enumeration 102 = .ok (.invokespecial 83, 3) := by decide +kernel
theorem dTypeBook_enumeration_105 : decode bTypeBook_enumeration 105 = .ok (.athrow, 1) := by decide +kernel
theorem dTypeBook_enumeration_106 : decode bTypeBook_enumeration 106 = .ok (.aload_n 0, 1) := by decide +kernel
theorem dTypeBook_enumeration_107 : decode bTypeBook_enumeration 107 = .ok (.getfield 26, 3) := by decide +kernel
theorem dTypeBook_enumeration_110 : decode bTypeBook_enumeration 110 = .ok (.iconst 4, 1) := by decide +kernel
theorem dTypeBook_enumeration_111 : decode bTypeBook_enumeration 111 = .ok (.iconst 0, 1) := by decide +kernel
theorem dTypeBook_enumeration_112 : decode bTypeBook_enumeration 112 = .ok (.iload 4, 2) := by decide +kernel
theorem dTypeBook_enumeration_114 : decode bTypeBook_enumeration 114 = .ok (.iconst 1, 1) := by decide +kernel
theorem dTypeBook_enumeration_115 : decode bTypeBook_enumeration 115 = .ok (.isub, 1) := by decide +kernel
theorem dTypeBook_enumeration_116 : decode bTypeBook_enumeration 116 = .ok (.iload 4, 2) := by decide +kernel
theorem dTypeBook_enumeration_118 : decode bTypeBook_enumeration 118 = .ok (.invokevirtual 164, 3) := by decide +kernel
theorem dTypeBook_enumeration_121 : decode bTypeBook_enumeration 121 = .ok (.istore 5, 2) := by decide +kernel
theorem dTypeBook_enumeration_123 : decode bTypeBook_enumeration 123 = .ok (.aload_n 0, 1) := by decide +kernel
theorem dTypeBook_enumeration_124 : decode bTypeBook_enumeration 124 = .ok (.getfield 19, 3) := by decide +kernel
theorem dTypeBook_enumeration_127 : decode bTypeBook_enumeration 127 = .ok (.aload_n 0, 1) := by decide +kernel
theorem dTypeBook_enumeration_128 : decode bTypeBook_enumeration 128 = .ok (.getfield 10, 3) := by decide +kernel
theorem dTypeBook_enumeration_131 : decode bTypeBook_enumeration 131 = .ok (.iload_n 1, 1) := by decide +kernel
theorem dTypeBook_enumeration_132 : decode bTypeBook_enumeration 132 = .ok (.invokevirtual 168, 3) := by decide +kernel
theorem dTypeBook_enumeration_135 : decode bTypeBook_enumeration 135 = .ok (.iconst 1, 1) := by decide +kernel
theorem dTypeBook_enumeration_136 : decode bTypeBook_enumeration 136 = .ok (.iload 5, 2) := by decide +kernel
theorem dTypeBook_enumeration_138 : decode bTypeBook_enumeration 138 = .ok (.iconst 0, 1) := by decide +kernel
theorem dTypeBook_enumeration_139 : decode bTypeBook_enumeration 139 = .ok (.invokevirtual 171, 3) := by decide +kernel
theorem dTypeBook_enumeration_142 : decode bTypeBook_enumeration 142 = .ok (.iconst 0, 1) := by decide +kernel
theorem dTypeBook_enumeration_143 : decode bTypeBook_enumeration 143 = .ok (.istore 6, 2) := by decide +kernel
theorem dTypeBook_enumeration_145 : decode bTypeBook_enumeration 145 = .ok (.iload 6, 2) := by decide +kernel
theorem dTypeBook_enumeration_147 : decode bTypeBook_enumeration 147 = .ok (.iload 4, 2) := by decide +kernel
theorem dTypeBook_enumeration_149 : decode bTypeBook_enumeration 149 = .ok (.if_icmp .ge 35, 3) := by decide +kernel
theorem dTypeBook_enumeration_152 : decode bTypeBook_enumeration 152 = .ok (.aload_n 0, 1) := by decide +kernel
theorem dTypeBook_enumeration_153 : decode bTypeBook_enumeration 153 = .ok (.getfield 19, 3) := by decide +kernel
theorem dTypeBook_enumeration_156 : decode bTypeBook_enumeration 156 = .ok (.aload_n 0, 1) := by decide +kernel
theorem dTypeBook_enumeration_157 : decode bTypeBook_enumeration 157 = .ok (.getfield 10, 3) := by decide +kernel
theorem dTypeBook_enumeration_160 : decode bTypeBook_enumeration 160 = .ok (.iload_n 1, 1) := by decide +kernel
theorem dTypeBook_enumeration_161 : decode bTypeBook_enumeration 161 = .ok (.iload 4, 2) := by decide +kernel
theorem dTypeBook_enumeration_163 : decode bTypeBook_enumeration 163 = .ok (.isub, 1) := by decide +kernel
theorem dTypeBook_enumeration_164 : decode bTypeBook_enumeration 164 = .ok (.iload 6, 2) := by decide +kernel
theorem dTypeBook_enumeration_166 : decode bTypeBook_enumeration 166 = .ok (.iadd, 1) := by decide +kernel
theorem dTypeBook_enumeration_167 : decode bTypeBook_enumeration 167 = .ok (.invokevirtual 168, 3) := by decide +kernel
theorem dTypeBook_enumeration_170 : decode bTypeBook_enumeration 170 = .ok (.iconst 3, 1) := by decide +kernel
theorem dTypeBook_enumeration_171 : decode bTypeBook_enumeration 171 = .ok (.iload 5, 2) := by decide +kernel
theorem dTypeBook_enumeration_173 : decode bTypeBook_enumeration 173 = .ok (.iload 6, 2) := by decide +kernel
theorem dTypeBook_enumeration_175 : decode bTypeBook_enumeration 175 = .ok (.invokevirtual 171, 3) := by decide +kernel
theorem dTypeBook_enumeration_178 : decode bTypeBook_enumeration 178 = .ok (.iinc 6 1, 3) := by decide +kernel
theorem dTypeBook_enumeration_181 : decode bTypeBook_enumeration 181 = .ok (.goto (-36), 3) := by decide +kernel
theorem dTypeBook_enumeration_184 : decode bTypeBook_enumeration 184 = .ok (.aload_n 0, 1) := by decide +kernel
theorem dTypeBook_enumeration_185 : decode bTypeBook_enumeration 185 = .ok (.iconst (-1), 1) := by decide +kernel
theorem dTypeBook_enumeration_186 : decode bTypeBook_enumeration 186 = .ok (.putfield 53, 3) := by decide +kernel
theorem dTypeBook_enumeration_189 : decode bTypeBook_enumeration 189 = .ok (.iload 5, 2) := by decide +kernel
theorem dTypeBook_enumeration_191 : decode bTypeBook_enumeration 191 = .ok (.ireturn, 1) := by decide +kernel
theorem dTypeBook_subtype_0 : decode bTypeBook_subtype 0 = .ok (.aload_n 0, 1) := by decide +kernel
theorem dTypeBook_subtype_1 : decode bTypeBook_subtype 1 = .ok (.getfield 26, 3) := by decide +kernel
theorem dTypeBook_subtype_4 : decode bTypeBook_subtype 4 = .ok (.iload_n 2, 1) := by decide +kernel
theorem dTypeBook_subtype_5 : decode bTypeBook_subtype 5 = .ok (.invokevirtual 174, 3) := by decide +kernel
theorem dTypeBook_subtype_8 : decode bTypeBook_subtype 8 = .ok (.ifCond .ne 13, 3) := by decide +kernel
theorem dTypeBook_subtype_11 : decode bTypeBook_subtype 11 = .ok (.new 115, 3) := by decide +kernel
theorem dTypeBook_subtype_14 : decode bTypeBook_subtype 14 = .ok (.dup, 1) := by decide +kernel
theorem dTypeBook_subtype_15 : decode bTypeBook_subtype 15 = .ok (.ldc 175, 2) := by decide +kernel
theorem dTypeBook_subtype_17 : decode bTypeBook_subtype 17 = .ok (.invokespecial 119, 3) := by decide +kernel
theorem dTypeBook_subtype_20 : decode bTypeBook_subtype 20 = .ok (.athrow, 1) := by decide +kernel
theorem dTypeBook_subtype_21 : decode bTypeBook_subtype 21 = .ok (.iload_n 1, 1) := by decide +kernel
theorem dTypeBook_subtype_22 : decode bTypeBook_subtype 22 = .ok (.invokestatic 71, 3) := by decide +kernel
theorem dTypeBook_subtype_25 : decode bTypeBook_subtype 25 = .ok (.ifCond .ne 13, 3) := by decide +kernel
theorem dTypeBook_subtype_28 : decode bTypeBook_subtype 28 = .ok (.new 60, 3) := by decide +kernel
theorem dTypeBook_subtype_31 : decode bTypeBook_subtype 31 = .ok (.dup, 1) := by decide +kernel
theorem dTypeBook_subtype_32 : decode bTypeBook_subtype 32 = .ok (.ldc 74, 2) := by decide +kernel
theorem dTypeBook_subtype_34 : decode bTypeBook_subtype 34 = .ok (.invokespecial 64, 3) := by decide +kernel
theorem dTypeBook_subtype_37 : decode bTypeBook_subtype 37 = .ok (.athrow, 1) := by decide +kernel
theorem dTypeBook_subtype_38 : decode bTypeBook_subtype 38 = .ok (.aload_n 0, 1) := by decide +kernel
theorem dTypeBook_subtype_39 : decode bTypeBook_subtype 39 = .ok (.getfield 19, 3) := by decide +kernel
theorem dTypeBook_subtype_42 : decode bTypeBook_subtype 42 = .ok (.iload_n 1, 1) := by decide +kernel
theorem dTypeBook_subtype_43 : decode bTypeBook_subtype 43 = .ok (.invokevirtual 177, 3) := by decide +kernel
theorem dTypeBook_subtype_46 : decode bTypeBook_subtype 46 = .ok (.ifCond .eq 11, 3) := by decide +kernel
theorem dTypeBook_subtype_49 : decode bTypeBook_subtype 49 = .ok (.aload_n 0, 1) := by decide +kernel
theorem dTypeBook_subtype_50 : decode bTypeBook_subtype 50 = .ok (.bipush 7, 2) := by decide +kernel
theorem dTypeBook_subtype_52 : decode bTypeBook_subtype 52 = .ok (.iconst (-1), 1) := by decide +kernel
theorem dTypeBook_subtype_53 : decode bTypeBook_subtype 53 = .ok (.invokevirtual 127, 3) := by decide +kernel
theorem dTypeBook_subtype_56 : decode bTypeBook_subtype 56 = .ok (.ireturn, 1) := by decide +kernel
theorem dTypeBook_subtype_57 : decode bTypeBook_subtype 57 = .ok (.aload_n 0, 1) := by decide +kernel
theorem dTypeBook_subtype_58 : decode bTypeBook_subtype 58 = .ok (.getfield 19, 3) := by decide +kernel
theorem dTypeBook_subtype_61 : decode bTypeBook_subtype 61 = .ok (.iconst 1, 1) := by decide +kernel
theorem dTypeBook_subtype_62 : decode bTypeBook_subtype 62 = .ok (.invokevirtual 159, 3) := by decide +kernel
theorem dTypeBook_subtype_65 : decode bTypeBook_subtype 65 = .ok (.ifCond .ne 13, 3) := by decide +kernel
theorem dTypeBook_subtype_68 : decode bTypeBook_subtype 68 = .ok (.new 79, 3) := by decide +kernel
theorem dTypeBook_subtype_71 : decode bTypeBook_subtype 71 = .ok (.dup, 1) := by decide +kernel
theorem dTypeBook_subtype_72 : decode bTypeBook_subtype 72 = .ok (.ldc 180, 2) := by decide +kernel
theorem dTypeBook_subtype_74 : decode bTypeBook_subtype 74 = .ok (.invokespecial 83, 3) := by decide +kernel
theorem dTypeBook_subtype_77 : decode bTypeBook_subtype 77 = .ok (.athrow, 1) := by decide +kernel
theorem dTypeBook_subtype_78 : decode bTypeBook_subtype 78 = .ok (.aload_n 0, 1) := by decide +kernel
theorem dTypeBook_subtype_79 : decode bTypeBook_subtype 79 = .ok (.getfield 19, 3) := by decide +kernel
theorem dTypeBook_subtype_82 : decode bTypeBook_subtype 82 = .ok (.iload_n 1, 1) := by decide +kernel
theorem dTypeBook_subtype_83 : decode bTypeBook_subtype 83 = .ok (.iconst 1, 1) := by decide +kernel
theorem dTypeBook_subtype_84 : decode bTypeBook_subtype 84 = .ok (.iload_n 2, 1) := by decide +kernel
theorem dTypeBook_subtype_85 : decode bTypeBook_subtype 85 = .ok (.iconst 0, 1) := by decide +kernel
theorem dTypeBook_subtype_86 : decode bTypeBook_subtype 86 = .ok (.invokevirtual 171, 3) := by decide +kernel
theorem dTypeBook_subtype_89 : decode bTypeBook_subtype 89 = .ok (.aload_n 0, 1) := by decide +kernel
theorem dTypeBook_subtype_90 : decode bTypeBook_subtype 90 = .ok (.iconst (-1), 1) := by decide +kernel
theorem dTypeBook_subtype_91 : decode bTypeBook_subtype 91 = .ok (.putfield 53, 3) := by decide +kernel
theorem dTypeBook_subtype_94 : decode bTypeBook_subtype 94 = .ok (.iconst 0, 1) := by decide +kernel
theorem dTypeBook_subtype_95 : decode bTypeBook_subtype 95 = .ok (.ireturn, 1) := by decide +kernel
theorem dTypeBook_declare_0 : decode bTypeBook_declare 0 = .ok (.aload_n 0, 1) := by decide +kernel
theorem dTypeBook_declare_1 : decode bTypeBook_declare 1 = .ok (.getfield 26, 3) := by decide +kernel
theorem dTypeBook_declare_4 : decode bTypeBook_declare 4 = .ok (.iload_n 3, 1) := by decide +kernel
theorem dTypeBook_declare_5 : decode bTypeBook_declare 5 = .ok (.invokevirtual 174, 3) := by decide +kernel
theorem dTypeBook_declare_8 : decode bTypeBook_declare 8 = .ok (.ifCond .eq 19, 3) := by decide +kernel
theorem dTypeBook_declare_11 : decode bTypeBook_declare 11 = .ok (.iload_n 1, 1) := by decide +kernel
theorem dTypeBook_declare_12 : decode bTypeBook_declare 12 = .ok (.ifCond .ne 25, 3) := by decide +kernel
theorem dTypeBook_declare_15 : decode bTypeBook_declare 15 = .ok (.aload_n 0, 1) := by decide +kernel
theorem dTypeBook_declare_16 : decode bTypeBook_declare 16 = .ok (.getfield 10, 3) := by decide +kernel
theorem dTypeBook_declare_19 : decode bTypeBook_declare 19 = .ok (.iload 4, 2) := by decide +kernel
theorem dTypeBook_declare_21 : decode bTypeBook_declare 21 = .ok (.invokevirtual 112, 3) := by decide +kernel
theorem dTypeBook_declare_24 : decode bTypeBook_declare 24 = .ok (.ifCond .ne 13, 3) := by decide +kernel
theorem dTypeBook_declare_27 : decode bTypeBook_declare 27 = .ok (.new 115, 3) := by decide +kernel
theorem dTypeBook_declare_30 : decode bTypeBook_declare 30 = .ok (.dup, 1) := by decide +kernel
theorem dTypeBook_declare_31 : decode bTypeBook_declare 31 = .ok (.ldc 182, 2) := by decide +kernel
theorem dTypeBook_declare_33 : decode bTypeBook_declare 33 = .ok (.invokespecial 119, 3) := by decide +kernel
theorem dTypeBook_declare_36 : decode bTypeBook_declare 36 = .ok (.athrow, 1) := by decide +kernel
theorem dTypeBook_declare_37 : decode bTypeBook_declare 37 = .ok (.iload_n 1, 1) := by decide +kernel
theorem dTypeBook_declare_38 : decode bTypeBook_declare 38 = .ok (.ifCond .lt 15, 3) := by decide +kernel
theorem dTypeBook_declare_41 : decode bTypeBook_declare 41 = .ok (.iload_n 1, 1) := by decide +kernel
theorem dTypeBook_declare_42 : decode bTypeBook_declare 42 = .ok (.iconst 2, 1) := by decide +kernel
theorem dTypeBook_declare_43 : decode bTypeBook_declare 43 = .ok (.if_icmp .gt 10, 3) := by decide +kernel
theorem dTypeBook_declare_46 : decode bTypeBook_declare 46 = .ok (.iload_n 2, 1) := by decide +kernel
theorem dTypeBook_declare_47 : decode bTypeBook_declare 47 = .ok (.invokestatic 71, 3) := by decide +kernel
theorem dTypeBook_declare_50 : decode bTypeBook_declare 50 = .ok (.ifCond .ne 13, 3) := by decide +kernel
theorem dTypeBook_declare_53 : decode bTypeBook_declare 53 = .ok (.new 60, 3) := by decide +kernel
theorem dTypeBook_declare_56 : decode bTypeBook_declare 56 = .ok (.dup, 1) := by decide +kernel
theorem dTypeBook_declare_57 : decode bTypeBook_declare 57 = .ok (.ldc 184, 2) := by decide +kernel
theorem dTypeBook_declare_59 : decode bTypeBook_declare 59 = .ok (.invokespecial 64, 3) := by decide +kernel
theorem dTypeBook_declare_62 : decode bTypeBook_declare 62 = .ok (.athrow, 1) := by decide +kernel
theorem dTypeBook_declare_63 : decode bTypeBook_declare 63 = .ok (.iload_n 1, 1) := by decide +kernel
theorem dTypeBook_declare_64 : decode bTypeBook_declare 64 = .ok (.ifCond .ne 28, 3) := by decide +kernel
theorem dTypeBook_declare_67 : decode bTypeBook_declare 67 = .ok (.aload_n 0, 1) := by decide +kernel
theorem dTypeBook_declare_68 : decode bTypeBook_declare 68 = .ok (.getfield 49, 3) := by decide +kernel
theorem dTypeBook_declare_71 : decode bTypeBook_declare 71 = .ok (.aload_n 0, 1) := by decide +kernel
theorem dTypeBook_declare_72 : decode bTypeBook_declare 72 = .ok (.getfield 49, 3) := by decide +kernel
theorem dTypeBook_declare_75 : decode bTypeBook_declare 75 = .ok (.iload 4, 2) := by decide +kernel
theorem dTypeBook_declare_77 : decode bTypeBook_declare 77 = .ok (.iload 4, 2) := by decide +kernel
theorem dTypeBook_declare_79 : decode bTypeBook_declare 79 = .ok (.invokevirtual 120, 3) := by decide +kernel
theorem dTypeBook_declare_82 : decode bTypeBook_declare 82 = .ok (.iload 4, 2) := by decide +kernel
theorem dTypeBook_declare_84 : decode bTypeBook_declare 84 = .ok (.iload_n 3, 1) := by decide +kernel
theorem dTypeBook_declare_85 : decode bTypeBook_declare 85 = .ok (.iconst 1, 1) := by decide +kernel
theorem dTypeBook_declare_86 : decode bTypeBook_declare 86 = .ok (.invokevirtual 186, 3) := by decide +kernel
theorem dTypeBook_declare_89 : decode bTypeBook_declare 89 = .ok (.goto 4, 3) := by decide +kernel
theorem dTypeBook_declare_92 : decode bTypeBook_declare 92 = .ok (.iconst 0, 1) := by decide +kernel
theorem dTypeBook_declare_93 : decode bTypeBook_declare 93 = .ok (.istore 5, 2) := by decide +kernel
theorem dTypeBook_declare_95 : decode bTypeBook_declare 95 = .ok (.iload 5, 2) := by decide +kernel
theorem dTypeBook_declare_97 : decode bTypeBook_declare 97 = .ok (.ifCond .eq 17, 3) := by decide +kernel
theorem dTypeBook_declare_100 : decode bTypeBook_declare 100 = .ok (.aload_n 0, 1) := by decide +kernel
theorem dTypeBook_declare_101 : decode bTypeBook_declare 101 = .ok (.iload 5, 2) := by decide +kernel
theorem dTypeBook_declare_103 : decode bTypeBook_declare 103 = .ok (.aload_n 0, 1) := by decide +kernel
theorem dTypeBook_declare_104 : decode bTypeBook_declare 104 = .ok (.getfield 49, 3) := by decide +kernel
theorem dTypeBook_declare_107 : decode bTypeBook_declare 107 = .ok (.getfield 124, 3) := by decide +kernel
theorem dTypeBook_declare_110 : decode bTypeBook_declare 110 = .ok (.invokevirtual 127, 3) := by decide +kernel
theorem dTypeBook_declare_113 : decode bTypeBook_declare 113 = .ok (.ireturn, 1) := by decide +kernel
theorem dTypeBook_declare_114 : decode bTypeBook_declare 114 = .ok (.aload_n 0, 1) := by decide +kernel
theorem dTypeBook_declare_115 : decode bTypeBook_declare 115 = .ok (.getfield 19, 3) := by decide +kernel
theorem dTypeBook_declare_118 : decode bTypeBook_declare 118 = .ok (.iload_n 2, 1) := by decide +kernel
theorem dTypeBook_declare_119 : decode bTypeBook_declare 119 = .ok (.invokevirtual 177, 3) := by decide +kernel
theorem dTypeBook_declare_122 : decode bTypeBook_declare 122 = .ok (.ifCond .eq 11, 3) := by decide +kernel
theorem dTypeBook_declare_125 : decode bTypeBook_declare 125 = .ok (.aload_n 0, 1) := by decide +kernel
theorem dTypeBook_declare_126 : decode bTypeBook_declare 126 = .ok (.bipush 7, 2) := by decide +kernel
theorem dTypeBook_declare_128 : decode bTypeBook_declare 128 = .ok (.iconst (-1), 1) := by decide +kernel
theorem dTypeBook_declare_129 : decode bTypeBook_declare 129 = .ok (.invokevirtual 127, 3) := by decide +kernel
theorem dTypeBook_declare_132 : decode bTypeBook_declare 132 = .ok (.ireturn, 1) := by decide +kernel
theorem dTypeBook_declare_133 : decode bTypeBook_declare 133 = .ok (.aload_n 0, 1) := by decide +kernel
theorem dTypeBook_declare_134 : decode bTypeBook_declare 134 = .ok (.getfield 33, 3) := by decide +kernel
theorem dTypeBook_declare_137 : decode bTypeBook_declare 137 = .ok (.getfield 190, 3) := by decide +kernel
theorem dTypeBook_declare_140 : decode bTypeBook_declare 140 = .ok (.sipush 2000, 3) := by decide +kernel
theorem dTypeBook_declare_143 : decode bTypeBook_declare 143 = .ok (.if_icmp .ge 14, 3) := by decide +kernel
theorem dTypeBook_declare_146 : decode bTypeBook_declare 146 = .ok (.aload_n 0, 1) := by decide +kernel
theorem dTypeBook_declare_147 : decode bTypeBook_declare 147 = .ok (.getfield 19, 3) := by decide +kernel
theorem dTypeBook_declare_150 : decode bTypeBook_declare 150 = .ok (.iconst 1, 1) := by decide +kernel
theorem dTypeBook_declare_151 : decode bTypeBook_declare 151 = .ok (.invokevirtual 159, 3) := by decide +kernel
theorem dTypeBook_declare_154 : decode bTypeBook_declare 154 = .ok (.ifCond .ne 13, 3) := by decide +kernel
theorem dTypeBook_declare_157 : decode bTypeBook_declare 157 = .ok (.new 79, 3) := by decide +kernel
theorem dTypeBook_declare_160 : decode bTypeBook_declare 160 = .ok (.dup, 1) := by decide +kernel
theorem dTypeBook_declare_161 : decode bTypeBook_declare 161 = .ok (.ldc 191, 2) := by decide +kernel
theorem dTypeBook_declare_163 : decode bTypeBook_declare 163 = .ok (.invokespecial 83, 3) := by decide +kernel
theorem dTypeBook_declare_166 : decode bTypeBook_declare 166 = .ok (.athrow, 1) := by decide +kernel
theorem dTypeBook_declare_167 : decode bTypeBook_declare 167 = .ok (.aload_n 0, 1) := by decide +kernel
theorem dTypeBook_declare_168 : decode bTypeBook_declare 168 = .ok (.getfield 33, 3) := by decide +kernel
theorem dTypeBook_declare_171 : decode bTypeBook_declare 171 = .ok (.iload_n 1, 1) := by decide +kernel
theorem dTypeBook_declare_172 : decode bTypeBook_declare 172 = .ok (.iload_n 3, 1) := by decide +kernel
theorem dTypeBook_declare_173 : decode bTypeBook_declare 173 = .ok (.invokevirtual 193, 3) := by decide +kernel
theorem dTypeBook_declare_176 : decode bTypeBook_declare 176 = .ok (.istore 6, 2) := by decide +kernel
theorem dTypeBook_declare_178 : decode bTypeBook_declare 178 = .ok (.iload_n 1, 1) := by decide +kernel
theorem dTypeBook_declare_179 : decode bTypeBook_declare 179 = .ok (.ifCond .ne 33, 3) := by decide +kernel
theorem dTypeBook_declare_182 : decode bTypeBook_declare 182 = .ok (.aload_n 0, 1) := by decide +kernel
theorem dTypeBook_declare_183 : decode bTypeBook_declare 183 = .ok (.getfield 49, 3) := by decide +kernel
theorem dTypeBook_declare_186 : decode bTypeBook_declare 186 = .ok (.aload_n 0, 1) := by decide +kernel
theorem dTypeBook_declare_187 : decode bTypeBook_declare 187 = .ok (.getfield 40, 3) := by decide +kernel
theorem dTypeBook_declare_190 : decode bTypeBook_declare 190 = .ok (.iload 4, 2) := by decide +kernel
theorem dTypeBook_declare_192 : decode bTypeBook_declare 192 = .ok (.iload 4, 2) := by decide +kernel
theorem dTypeBook_declare_194 : decode bTypeBook_declare 194 = .ok (.invokevirtual 140, 3) := by decide +kernel
theorem dTypeBook_declare_197 : decode bTypeBook_declare 197 = .ok (.aload_n 0, 1) := by decide +kernel
theorem dTypeBook_declare_198 : decode bTypeBook_declare 198 = .ok (.getfield 33, 3) := by decide +kernel
theorem dTypeBook_declare_201 : decode bTypeBook_declare 201 = .ok (.iload 6, 2) := by decide +kernel
theorem dTypeBook_declare_203 : decode bTypeBook_declare 203 = .ok (.aload_n 0, 1) := by decide +kernel
theorem dTypeBook_declare_204 : decode bTypeBook_declare 204 = .ok (.getfield 40, 3) := by decide +kernel
theorem dTypeBook_declare_207 : decode bTypeBook_declare 207 = .ok (.iload 4, 2) := by decide +kernel
theorem dTypeBook_declare_209 : decode bTypeBook_declare 209 = .ok (.invokevirtual 195, 3) := by decide +kernel
theorem dTypeBook_declare_212 : decode bTypeBook_declare 212 = .ok (.aload_n 0, 1) := by decide +kernel
theorem dTypeBook_declare_213 : decode bTypeBook_declare 213 = .ok (.getfield 19, 3) := by decide +kernel
theorem dTypeBook_declare_216 : decode bTypeBook_declare 216 = .ok (.iload_n 2, 1) := by decide +kernel
theorem dTypeBook_declare_217 : decode bTypeBook_declare 217 = .ok (.iconst 2, 1) := by decide +kernel
theorem dTypeBook_declare_218 : decode bTypeBook_declare 218 = .ok (.iload 6, 2) := by decide +kernel
theorem dTypeBook_declare_220 : decode bTypeBook_declare 220 = .ok (.iconst 0, 1) := by decide +kernel
theorem dTypeBook_declare_221 : decode bTypeBook_declare 221 = .ok (.invokevirtual 171, 3) := by decide +kernel
theorem dTypeBook_declare_224 : decode bTypeBook_declare 224 = .ok (.aload_n 0, 1) := by decide +kernel
theorem dTypeBook_declare_225 : decode bTypeBook_declare 225 = .ok (.iconst (-1), 1) := by decide +kernel
theorem dTypeBook_declare_226 : decode bTypeBook_declare 226 = .ok (.putfield 53, 3) := by decide +kernel
theorem dTypeBook_declare_229 : decode bTypeBook_declare 229 = .ok (.iload 6, 2) := by decide +kernel
theorem dTypeBook_declare_231 : decode bTypeBook_declare 231 = .ok (.ireturn, 1) := by decide +kernel
theorem dTypeBook_check_0 : decode bTypeBook_check 0 = .ok (.aload_n 0, 1) := by decide +kernel
theorem dTypeBook_check_1 : decode bTypeBook_check 1 = .ok (.getfield 10, 3) := by decide +kernel
theorem dTypeBook_check_4 : decode bTypeBook_check 4 = .ok (.iload_n 1, 1) := by decide +kernel
theorem dTypeBook_check_5 : decode bTypeBook_check 5 = .ok (.invokevirtual 112, 3) := by decide +kernel
theorem dTypeBook_check_8 : decode bTypeBook_check 8 = .ok (.ifCond .eq 19, 3) := by decide +kernel
theorem dTypeBook_check_11 : decode bTypeBook_check 11 = .ok (.iload_n 2, 1) := by decide +kernel
theorem dTypeBook_check_12 : decode bTypeBook_check 12 = .ok (.iconst (-1), 1) := by decide +kernel
theorem dTypeBook_check_13 : decode bTypeBook_check 13 = .ok (.if_icmp .eq 24, 3) := by decide +kernel
theorem dTypeBook_check_16 : decode bTypeBook_check 16 = .ok (.aload_n 0, 1) := by decide +kernel
theorem dTypeBook_check_17 : decode bTypeBook_check 17 = .ok (.getfield 26, 3) := by decide +kernel
theorem dTypeBook_check_20 : decode bTypeBook_check 20 = .ok (.iload_n 2, 1) := by decide +kernel
theorem dTypeBook_check_21 : decode bTypeBook_check 21 = .ok (.invokevirtual 174, 3) := by decide +kernel
theorem dTypeBook_check_24 : decode bTypeBook_check 24 = .ok (.ifCond .ne 13, 3) := by decide +kernel
theorem dTypeBook_check_27 : decode bTypeBook_check 27 = .ok (.new 115, 3) := by decide +kernel
theorem dTypeBook_check_30 : decode bTypeBook_check 30 = .ok (.dup, 1) := by decide +kernel
theorem dTypeBook_check_31 : decode bTypeBook_check 31 = .ok (.ldc 199, 2) := by decide +kernel
theorem dTypeBook_check_33 : decode bTypeBook_check 33 = .ok (.invokespecial 119, 3) := by decide +kernel
theorem dTypeBook_check_36 : decode bTypeBook_check 36 = .ok (.athrow, 1) := by decide +kernel
theorem dTypeBook_check_37 : decode bTypeBook_check 37 = .ok (.aload_n 0, 1) := by decide +kernel
theorem dTypeBook_check_38 : decode bTypeBook_check 38 = .ok (.getfield 49, 3) := by decide +kernel
theorem dTypeBook_check_41 : decode bTypeBook_check 41 = .ok (.aload_n 0, 1) := by decide +kernel
theorem dTypeBook_check_42 : decode bTypeBook_check 42 = .ok (.getfield 49, 3) := by decide +kernel
theorem dTypeBook_check_45 : decode bTypeBook_check 45 = .ok (.iload_n 1, 1) := by decide +kernel
theorem dTypeBook_check_46 : decode bTypeBook_check 46 = .ok (.iload_n 1, 1) := by decide +kernel
theorem dTypeBook_check_47 : decode bTypeBook_check 47 = .ok (.invokevirtual 120, 3) := by decide +kernel
theorem dTypeBook_check_50 : decode bTypeBook_check 50 = .ok (.iload_n 1, 1) := by decide +kernel
theorem dTypeBook_check_51 : decode bTypeBook_check 51 = .ok (.iload_n 2, 1) := by decide +kernel
theorem dTypeBook_check_52 : decode bTypeBook_check 52 = .ok (.iconst 0, 1) := by decide +kernel
theorem dTypeBook_check_53 : decode bTypeBook_check 53 = .ok (.invokevirtual 186, 3) := by decide +kernel
theorem dTypeBook_check_56 : decode bTypeBook_check 56 = .ok (.istore_n 3, 1) := by decide +kernel
theorem dTypeBook_check_57 : decode bTypeBook_check 57 = .ok (.iload_n 3, 1) := by decide +kernel
theorem dTypeBook_check_58 : decode bTypeBook_check 58 = .ok (.ifCond .eq 16, 3) := by decide +kernel
theorem dTypeBook_check_61 : decode bTypeBook_check 61 = .ok (.aload_n 0, 1) := by decide +kernel
theorem dTypeBook_check_62 : decode bTypeBook_check 62 = .ok (.iload_n 3, 1) := by decide +kernel
theorem dTypeBook_check_63 : decode bTypeBook_check 63 = .ok (.aload_n 0, 1) := by decide +kernel
theorem dTypeBook_check_64 : decode bTypeBook_check 64 = .ok (.getfield 49, 3) := by decide +kernel
theorem dTypeBook_check_67 : decode bTypeBook_check 67 = .ok (.getfield 124, 3) := by decide +kernel
theorem dTypeBook_check_70 : decode bTypeBook_check 70 = .ok (.invokevirtual 127, 3) := by decide +kernel
theorem dTypeBook_check_73 : decode bTypeBook_check 73 = .ok (.ireturn, 1) := by decide +kernel
theorem dTypeBook_check_74 : decode bTypeBook_check 74 = .ok (.aload_n 0, 1) := by decide +kernel
theorem dTypeBook_check_75 : decode bTypeBook_check 75 = .ok (.getfield 49, 3) := by decide +kernel
theorem dTypeBook_check_78 : decode bTypeBook_check 78 = .ok (.aload_n 0, 1) := by decide +kernel
theorem dTypeBook_check_79 : decode bTypeBook_check 79 = .ok (.getfield 40, 3) := by decide +kernel
theorem dTypeBook_check_82 : decode bTypeBook_check 82 = .ok (.iload_n 1, 1) := by decide +kernel
theorem dTypeBook_check_83 : decode bTypeBook_check 83 = .ok (.iload_n 1, 1) := by decide +kernel
theorem dTypeBook_check_84 : decode bTypeBook_check 84 = .ok (.invokevirtual 140, 3) := by decide +kernel
theorem dTypeBook_check_87 : decode bTypeBook_check 87 = .ok (.aload_n 0, 1) := by decide +kernel
theorem dTypeBook_check_88 : decode bTypeBook_check 88 = .ok (.iconst (-1), 1) := by decide +kernel
theorem dTypeBook_check_89 : decode bTypeBook_check 89 = .ok (.putfield 53, 3) := by decide +kernel
theorem dTypeBook_check_92 : decode bTypeBook_check 92 = .ok (.iconst 0, 1) := by decide +kernel
theorem dTypeBook_check_93 : decode bTypeBook_check 93 = .ok (.ireturn, 1) := by decide +kernel
theorem dTypeBook_place_0 : decode bTypeBook_place 0 = .ok (.aload_n 0, 1) := by decide +kernel
theorem dTypeBook_place_1 : decode bTypeBook_place 1 = .ok (.getfield 53, 3) := by decide +kernel
theorem dTypeBook_place_4 : decode bTypeBook_place 4 = .ok (.ireturn, 1) := by decide +kernel
theorem dTypeBook_typeOf_0 : decode bTypeBook_typeOf 0 = .ok (.aload_n 0, 1) := by decide +kernel
theorem dTypeBook_typeOf_1 : decode bTypeBook_typeOf 1 = .ok (.getfield 26, 3) := by decide +kernel
theorem dTypeBook_typeOf_4 : decode bTypeBook_typeOf 4 = .ok (.iload_n 1, 1) := by decide +kernel
theorem dTypeBook_typeOf_5 : decode bTypeBook_typeOf 5 = .ok (.invokevirtual 174, 3) := by decide +kernel
theorem dTypeBook_typeOf_8 : decode bTypeBook_typeOf 8 = .ok (.ifCond .eq 12, 3) := by decide +kernel
theorem dTypeBook_typeOf_11 : decode bTypeBook_typeOf 11 = .ok (.iload_n 2, 1) := by decide +kernel
theorem dTypeBook_typeOf_12 : decode bTypeBook_typeOf 12 = .ok (.ifCond .lt 8, 3) := by decide +kernel
theorem dTypeBook_typeOf_15 : decode bTypeBook_typeOf 15 = .ok (.iload_n 2, 1) := by decide +kernel
theorem dTypeBook_typeOf_16 : decode bTypeBook_typeOf 16 = .ok (.iconst 4, 1) := by decide +kernel
theorem dTypeBook_typeOf_17 : decode bTypeBook_typeOf 17 = .ok (.if_icmp .le 13, 3) := by decide +kernel
theorem dTypeBook_typeOf_20 : decode bTypeBook_typeOf 20 = .ok (.new 115, 3) := by decide +kernel
theorem dTypeBook_typeOf_23 : decode bTypeBook_typeOf 23 = .ok (.dup, 1) := by decide +kernel
theorem dTypeBook_typeOf_24 : decode bTypeBook_typeOf 24 = .ok (.ldc 201, 2) := by decide +kernel
theorem dTypeBook_typeOf_26 : decode bTypeBook_typeOf 26 = .ok (.invokespecial 119, 3) := by decide +kernel
theorem dTypeBook_typeOf_29 : decode bTypeBook_typeOf 29 = .ok (.athrow, 1) := by decide +kernel
theorem dTypeBook_typeOf_30 : decode bTypeBook_typeOf 30 = .ok (.iload_n 2, 1) := by decide +kernel
theorem dTypeBook_typeOf_31 : decode bTypeBook_typeOf 31 = .ok (.tableswitch 65 0 3 #[29, 38, 47, 56], 29) := by decide +kernel
theorem dTypeBook_typeOf_60 : decode bTypeBook_typeOf 60 = .ok (.aload_n 0, 1) := by decide +kernel
theorem dTypeBook_typeOf_61 : decode bTypeBook_typeOf 61 = .ok (.getfield 26, 3) := by decide +kernel
theorem dTypeBook_typeOf_64 : decode bTypeBook_typeOf 64 = .ok (.iload_n 1, 1) := by decide +kernel
theorem dTypeBook_typeOf_65 : decode bTypeBook_typeOf 65 = .ok (.invokevirtual 203, 3) := by decide +kernel
theorem dTypeBook_typeOf_68 : decode bTypeBook_typeOf 68 = .ok (.ireturn, 1) := by decide +kernel
theorem dTypeBook_typeOf_69 : decode bTypeBook_typeOf 69 = .ok (.aload_n 0, 1) := by decide +kernel
theorem dTypeBook_typeOf_70 : decode bTypeBook_typeOf 70 = .ok (.getfield 26, 3) := by decide +kernel
theorem dTypeBook_typeOf_73 : decode bTypeBook_typeOf 73 = .ok (.iload_n 1, 1) := by decide +kernel
theorem dTypeBook_typeOf_74 : decode bTypeBook_typeOf 74 = .ok (.invokevirtual 206, 3) := by decide +kernel
theorem dTypeBook_typeOf_77 : decode bTypeBook_typeOf 77 = .ok (.ireturn, 1) := by decide +kernel
theorem dTypeBook_typeOf_78 : decode bTypeBook_typeOf 78 = .ok (.aload_n 0, 1) := by decide +kernel
theorem dTypeBook_typeOf_79 : decode bTypeBook_typeOf 79 = .ok (.getfield 26, 3) := by decide +kernel
theorem dTypeBook_typeOf_82 : decode bTypeBook_typeOf 82 = .ok (.iload_n 1, 1) := by decide +kernel
theorem dTypeBook_typeOf_83 : decode bTypeBook_typeOf 83 = .ok (.invokevirtual 209, 3) := by decide +kernel
theorem dTypeBook_typeOf_86 : decode bTypeBook_typeOf 86 = .ok (.ireturn, 1) := by decide +kernel
theorem dTypeBook_typeOf_87 : decode bTypeBook_typeOf 87 = .ok (.aload_n 0, 1) := by decide +kernel
theorem dTypeBook_typeOf_88 : decode bTypeBook_typeOf 88 = .ok (.getfield 26, 3) := by decide +kernel
theorem dTypeBook_typeOf_91 : decode bTypeBook_typeOf 91 = .ok (.iload_n 1, 1) := by decide +kernel
theorem dTypeBook_typeOf_92 : decode bTypeBook_typeOf 92 = .ok (.invokevirtual 212, 3) := by decide +kernel
theorem dTypeBook_typeOf_95 : decode bTypeBook_typeOf 95 = .ok (.ireturn, 1) := by decide +kernel
theorem dTypeBook_typeOf_96 : decode bTypeBook_typeOf 96 = .ok (.aload_n 0, 1) := by decide +kernel
theorem dTypeBook_typeOf_97 : decode bTypeBook_typeOf 97 = .ok (.getfield 26, 3) := by decide +kernel
theorem dTypeBook_typeOf_100 : decode bTypeBook_typeOf 100 = .ok (.iload_n 1, 1) := by decide +kernel
theorem dTypeBook_typeOf_101 : decode bTypeBook_typeOf 101 = .ok (.invokevirtual 213, 3) := by decide +kernel
theorem dTypeBook_typeOf_104 : decode bTypeBook_typeOf 104 = .ok (.ifCond .eq 7, 3) := by decide +kernel
theorem dTypeBook_typeOf_107 : decode bTypeBook_typeOf 107 = .ok (.iconst 1, 1) := by decide +kernel
theorem dTypeBook_typeOf_108 : decode bTypeBook_typeOf 108 = .ok (.goto 4, 3) := by decide +kernel
theorem dTypeBook_typeOf_111 : decode bTypeBook_typeOf 111 = .ok (.iconst 0, 1) := by decide +kernel
theorem dTypeBook_typeOf_112 : decode bTypeBook_typeOf 112 = .ok (.ireturn, 1) := by decide +kernel
theorem dTypeBook_about_0 : decode bTypeBook_about 0 = .ok (.aload_n 0, 1) := by decide +kernel
theorem dTypeBook_about_1 : decode bTypeBook_about 1 = .ok (.getfield 10, 3) := by decide +kernel
theorem dTypeBook_about_4 : decode bTypeBook_about 4 = .ok (.iload_n 1, 1) := by decide +kernel
theorem dTypeBook_about_5 : decode bTypeBook_about 5 = .ok (.invokevirtual 112, 3) := by decide +kernel
theorem dTypeBook_about_8 : decode bTypeBook_about 8 = .ok (.ifCond .eq 12, 3) := by decide +kernel
theorem dTypeBook_about_11 : decode bTypeBook_about 11 = .ok (.iload_n 2, 1) := by decide +kernel
theorem dTypeBook_about_12 : decode bTypeBook_about 12 = .ok (.ifCond .lt 8, 3) := by decide +kernel
theorem dTypeBook_about_15 : decode bTypeBook_about 15 = .ok (.iload_n 2, 1) := by decide +kernel
theorem dTypeBook_about_16 : decode bTypeBook_about 16 = .ok (.iconst 3, 1) := by decide +kernel
theorem dTypeBook_about_17 : decode bTypeBook_about 17 = .ok (.if_icmp .le 13, 3) := by decide +kernel
theorem dTypeBook_about_20 : decode bTypeBook_about 20 = .ok (.new 115, 3) := by decide +kernel
theorem dTypeBook_about_23 : decode bTypeBook_about 23 = .ok (.dup, 1) := by decide +kernel
theorem dTypeBook_about_24 : decode bTypeBook_about 24 = .ok (.ldc 216, 2) := by decide +kernel
theorem dTypeBook_about_26 : decode bTypeBook_about 26 = .ok (.invokespecial 119, 3) := by decide +kernel
theorem dTypeBook_about_29 : decode bTypeBook_about 29 = .ok (.athrow, 1) := by decide +kernel
theorem dTypeBook_about_30 : decode bTypeBook_about 30 = .ok (.aload_n 0, 1) := by decide +kernel
theorem dTypeBook_about_31 : decode bTypeBook_about 31 = .ok (.getfield 40, 3) := by decide +kernel
theorem dTypeBook_about_34 : decode bTypeBook_about 34 = .ok (.iload_n 1, 1) := by decide +kernel
theorem dTypeBook_about_35 : decode bTypeBook_about 35 = .ok (.invokevirtual 218, 3) := by decide +kernel
theorem dTypeBook_about_38 : decode bTypeBook_about 38 = .ok (.iconst (-1), 1) := by decide +kernel
theorem dTypeBook_about_39 : decode bTypeBook_about 39 = .ok (.if_icmp .ne 5, 3) := by decide +kernel
theorem dTypeBook_about_42 : decode bTypeBook_about 42 = .ok (.iconst (-1), 1) := by decide +kernel
theorem dTypeBook_about_43 : decode bTypeBook_about 43 = .ok (.ireturn, 1) := by decide +kernel
theorem dTypeBook_about_44 : decode bTypeBook_about 44 = .ok (.iload_n 2, 1) := by decide +kernel
theorem dTypeBook_about_45 : decode bTypeBook_about 45 = .ok (.tableswitch 62 0 2 #[27, 36, 45], 27) := by decide +kernel
theorem dTypeBook_about_72 : decode bTypeBook_about 72 = .ok (.aload_n 0, 1) := by decide +kernel
theorem dTypeBook_about_73 : decode bTypeBook_about 73 = .ok (.getfield 40, 3) := by decide +kernel
theorem dTypeBook_about_76 : decode bTypeBook_about 76 = .ok (.iload_n 1, 1) := by decide +kernel
theorem dTypeBook_about_77 : decode bTypeBook_about 77 = .ok (.invokevirtual 218, 3) := by decide +kernel
theorem dTypeBook_about_80 : decode bTypeBook_about 80 = .ok (.ireturn, 1) := by decide +kernel
theorem dTypeBook_about_81 : decode bTypeBook_about 81 = .ok (.aload_n 0, 1) := by decide +kernel
theorem dTypeBook_about_82 : decode bTypeBook_about 82 = .ok (.getfield 40, 3) := by decide +kernel
theorem dTypeBook_about_85 : decode bTypeBook_about 85 = .ok (.iload_n 1, 1) := by decide +kernel
theorem dTypeBook_about_86 : decode bTypeBook_about 86 = .ok (.invokevirtual 219, 3) := by decide +kernel
theorem dTypeBook_about_89 : decode bTypeBook_about 89 = .ok (.ireturn, 1) := by decide +kernel
theorem dTypeBook_about_90 : decode bTypeBook_about 90 = .ok (.aload_n 0, 1) := by decide +kernel
theorem dTypeBook_about_91 : decode bTypeBook_about 91 = .ok (.getfield 40, 3) := by decide +kernel
theorem dTypeBook_about_94 : decode bTypeBook_about 94 = .ok (.iload_n 1, 1) := by decide +kernel
theorem dTypeBook_about_95 : decode bTypeBook_about 95 = .ok (.invokevirtual 222, 3) := by decide +kernel
theorem dTypeBook_about_98 : decode bTypeBook_about 98 = .ok (.ifCond .eq 7, 3) := by decide +kernel
theorem dTypeBook_about_101 : decode bTypeBook_about 101 = .ok (.iconst 1, 1) := by decide +kernel
theorem dTypeBook_about_102 : decode bTypeBook_about 102 = .ok (.goto 4, 3) := by decide +kernel
theorem dTypeBook_about_105 : decode bTypeBook_about 105 = .ok (.iconst 0, 1) := by decide +kernel
theorem dTypeBook_about_106 : decode bTypeBook_about 106 = .ok (.ireturn, 1) := by decide +kernel
theorem dTypeBook_about_107 : decode bTypeBook_about 107 = .ok (.aload_n 0, 1) := by decide +kernel
theorem dTypeBook_about_108 : decode bTypeBook_about 108 = .ok (.getfield 40, 3) := by decide +kernel
theorem dTypeBook_about_111 : decode bTypeBook_about 111 = .ok (.iload_n 1, 1) := by decide +kernel
theorem dTypeBook_about_112 : decode bTypeBook_about 112 = .ok (.invokevirtual 225, 3) := by decide +kernel
theorem dTypeBook_about_115 : decode bTypeBook_about 115 = .ok (.ireturn, 1) := by decide +kernel
theorem dTypeBook_value_0 : decode bTypeBook_value 0 = .ok (.aload_n 0, 1) := by decide +kernel
theorem dTypeBook_value_1 : decode bTypeBook_value 1 = .ok (.getfield 10, 3) := by decide +kernel
theorem dTypeBook_value_4 : decode bTypeBook_value 4 = .ok (.iload_n 1, 1) := by decide +kernel
theorem dTypeBook_value_5 : decode bTypeBook_value 5 = .ok (.invokevirtual 112, 3) := by decide +kernel
theorem dTypeBook_value_8 : decode bTypeBook_value 8 = .ok (.ifCond .ne 13, 3) := by decide +kernel
theorem dTypeBook_value_11 : decode bTypeBook_value 11 = .ok (.new 115, 3) := by decide +kernel
theorem dTypeBook_value_14 : decode bTypeBook_value 14 = .ok (.dup, 1) := by decide +kernel
theorem dTypeBook_value_15 : decode bTypeBook_value 15 = .ok (.ldc 117, 2) := by decide +kernel
theorem dTypeBook_value_17 : decode bTypeBook_value 17 = .ok (.invokespecial 119, 3) := by decide +kernel
theorem dTypeBook_value_20 : decode bTypeBook_value 20 = .ok (.athrow, 1) := by decide +kernel
theorem dTypeBook_value_21 : decode bTypeBook_value 21 = .ok (.aload_n 0, 1) := by decide +kernel
theorem dTypeBook_value_22 : decode bTypeBook_value 22 = .ok (.getfield 40, 3) := by decide +kernel
theorem dTypeBook_value_25 : decode bTypeBook_value 25 = .ok (.iload_n 1, 1) := by decide +kernel
theorem dTypeBook_value_26 : decode bTypeBook_value 26 = .ok (.invokevirtual 218, 3) := by decide +kernel
theorem dTypeBook_value_29 : decode bTypeBook_value 29 = .ok (.iconst (-1), 1) := by decide +kernel
theorem dTypeBook_value_30 : decode bTypeBook_value 30 = .ok (.if_icmp .eq 14, 3) := by decide +kernel
theorem dTypeBook_value_33 : decode bTypeBook_value 33 = .ok (.aload_n 0, 1) := by decide +kernel
theorem dTypeBook_value_34 : decode bTypeBook_value 34 = .ok (.getfield 40, 3) := by decide +kernel
theorem dTypeBook_value_37 : decode bTypeBook_value 37 = .ok (.iload_n 1, 1) := by decide +kernel
theorem dTypeBook_value_38 : decode bTypeBook_value 38 = .ok (.invokevirtual 222, 3) := by decide +kernel
theorem dTypeBook_value_41 : decode bTypeBook_value 41 = .ok (.ifCond .ne 13, 3) := by decide +kernel
theorem dTypeBook_value_44 : decode bTypeBook_value 44 = .ok (.new 79, 3) := by decide +kernel
theorem dTypeBook_value_47 : decode bTypeBook_value 47 = .ok (.dup, 1) := by decide +kernel
theorem dTypeBook_value_48 : decode bTypeBook_value 48 = .ok (.ldc 228, 2) := by decide +kernel
theorem dTypeBook_value_50 : decode bTypeBook_value 50 = .ok (.invokespecial 83, 3) := by decide +kernel
theorem dTypeBook_value_53 : decode bTypeBook_value 53 = .ok (.athrow, 1) := by decide +kernel
theorem dTypeBook_value_54 : decode bTypeBook_value 54 = .ok (.aload_n 0, 1) := by decide +kernel
theorem dTypeBook_value_55 : decode bTypeBook_value 55 = .ok (.getfield 40, 3) := by decide +kernel
theorem dTypeBook_value_58 : decode bTypeBook_value 58 = .ok (.iload_n 1, 1) := by decide +kernel
theorem dTypeBook_value_59 : decode bTypeBook_value 59 = .ok (.invokevirtual 218, 3) := by decide +kernel
theorem dTypeBook_value_62 : decode bTypeBook_value 62 = .ok (.iconst 3, 1) := by decide +kernel
theorem dTypeBook_value_63 : decode bTypeBook_value 63 = .ok (.if_icmp .eq 12, 3) := by decide +kernel
theorem dTypeBook_value_66 : decode bTypeBook_value 66 = .ok (.aload_n 0, 1) := by decide +kernel
theorem dTypeBook_value_67 : decode bTypeBook_value 67 = .ok (.getfield 40, 3) := by decide +kernel
theorem dTypeBook_value_70 : decode bTypeBook_value 70 = .ok (.iload_n 1, 1) := by decide +kernel
theorem dTypeBook_value_71 : decode bTypeBook_value 71 = .ok (.invokevirtual 230, 3) := by decide +kernel
theorem dTypeBook_value_74 : decode bTypeBook_value 74 = .ok (.ireturn, 1) := by decide +kernel
theorem dTypeBook_value_75 : decode bTypeBook_value 75 = .ok (.iload_n 2, 1) := by decide +kernel
theorem dTypeBook_value_76 : decode bTypeBook_value 76 = .ok (.ifCond .lt 15, 3) := by decide +kernel
theorem dTypeBook_value_79 : decode bTypeBook_value 79 = .ok (.iload_n 2, 1) := by decide +kernel
theorem dTypeBook_value_80 : decode bTypeBook_value 80 = .ok (.aload_n 0, 1) := by decide +kernel
theorem dTypeBook_value_81 : decode bTypeBook_value 81 = .ok (.getfield 40, 3) := by decide +kernel
theorem dTypeBook_value_84 : decode bTypeBook_value 84 = .ok (.iload_n 1, 1) := by decide +kernel
theorem dTypeBook_value_85 : decode bTypeBook_value 85 = .ok (.invokevirtual 219, 3) := by decide +kernel
theorem dTypeBook_value_88 : decode bTypeBook_value 88 = .ok (.if_icmp .lt 13, 3) := by decide +kernel
theorem dTypeBook_value_91 : decode bTypeBook_value 91 = .ok (.new 115, 3) := by decide +kernel
theorem dTypeBook_value_94 : decode bTypeBook_value 94 = .ok (.dup, 1) := by decide +kernel
theorem dTypeBook_value_95 : decode bTypeBook_value 95 = .ok (.ldc 233, 2) := by decide +kernel
theorem dTypeBook_value_97 : decode bTypeBook_value 97 = .ok (.invokespecial 119, 3) := by decide +kernel
theorem dTypeBook_value_100 : decode bTypeBook_value 100 = .ok (.athrow, 1) := by decide +kernel
theorem dTypeBook_value_101 : decode bTypeBook_value 101 = .ok (.aload_n 0, 1) := by decide +kernel
theorem dTypeBook_value_102 : decode bTypeBook_value 102 = .ok (.getfield 40, 3) := by decide +kernel
theorem dTypeBook_value_105 : decode bTypeBook_value 105 = .ok (.getfield 235, 3) := by decide +kernel
theorem dTypeBook_value_108 : decode bTypeBook_value 108 = .ok (.iload_n 1, 1) := by decide +kernel
theorem dTypeBook_value_109 : decode bTypeBook_value 109 = .ok (.iload_n 2, 1) := by decide +kernel
theorem dTypeBook_value_110 : decode bTypeBook_value 110 = .ok (.invokevirtual 239, 3) := by decide +kernel
theorem dTypeBook_value_113 : decode bTypeBook_value 113 = .ok (.ireturn, 1) := by decide +kernel
theorem dTypeBook_refused_0 : decode bTypeBook_refused 0 = .ok (.aload_n 0, 1) := by decide +kernel
theorem dTypeBook_refused_1 : decode bTypeBook_refused 1 = .ok (.iload_n 2, 1) := by decide +kernel
theorem dTypeBook_refused_2 : decode bTypeBook_refused 2 = .ok (.putfield 53, 3) := by decide +kernel
theorem dTypeBook_refused_5 : decode bTypeBook_refused 5 = .ok (.iload_n 1, 1) := by decide +kernel
theorem dTypeBook_refused_6 : decode bTypeBook_refused 6 = .ok (.ineg, 1) := by decide +kernel
theorem dTypeBook_refused_7 : decode bTypeBook_refused 7 = .ok (.ireturn, 1) := by decide +kernel
theorem dTypeBook_isName_0 : decode bTypeBook_isName 0 = .ok (.iload_n 0, 1) := by decide +kernel
theorem dTypeBook_isName_1 : decode bTypeBook_isName 1 = .ok (.ifCond .lt 14, 3) := by decide +kernel
theorem dTypeBook_isName_4 : decode bTypeBook_isName 4 = .ok (.iload_n 0, 1) := by decide +kernel
theorem dTypeBook_isName_5 : decode bTypeBook_isName 5 = .ok (.sipush 9999, 3) := by decide +kernel
theorem dTypeBook_isName_8 : decode bTypeBook_isName 8 = .ok (.if_icmp .gt 7, 3) := by decide +kernel
theorem dTypeBook_isName_11 : decode bTypeBook_isName 11 = .ok (.iconst 1, 1) := by decide +kernel
theorem dTypeBook_isName_12 : decode bTypeBook_isName 12 = .ok (.goto 4, 3) := by decide +kernel
theorem dTypeBook_isName_15 : decode bTypeBook_isName 15 = .ok (.iconst 0, 1) := by decide +kernel
theorem dTypeBook_isName_16 : decode bTypeBook_isName 16 = .ok (.ireturn, 1) := by decide +kernel
theorem dTypeBook_malformedEnumNode_0 : decode bTypeBook_malformedEnumNode 0 = .ok (.aload_n 0, 1) := by decide +kernel
theorem dTypeBook_malformedEnumNode_1 : decode bTypeBook_malformedEnumNode 1 = .ok (.getfield 10, 3) := by decide +kernel
theorem dTypeBook_malformedEnumNode_4 : decode bTypeBook_malformedEnumNode 4 = .ok (.iload_n 1, 1) := by decide +kernel
theorem dTypeBook_malformedEnumNode_5 : decode bTypeBook_malformedEnumNode 5 = .ok (.invokevirtual 134, 3) := by decide +kernel
theorem dTypeBook_malformedEnumNode_8 : decode bTypeBook_malformedEnumNode 8 = .ok (.bipush 53, 2) := by decide +kernel
theorem dTypeBook_malformedEnumNode_10 : decode bTypeBook_malformedEnumNode 10 = .ok (.if_icmp .eq 5, 3) := by decide +kernel
theorem dTypeBook_malformedEnumNode_13 : decode bTypeBook_malformedEnumNode 13 = .ok (.iload_n 1, 1) := by decide +kernel
theorem dTypeBook_malformedEnumNode_14 : decode bTypeBook_malformedEnumNode 14 = .ok (.ireturn, 1) := by decide +kernel
theorem dTypeBook_malformedEnumNode_15 : decode bTypeBook_malformedEnumNode 15 = .ok (.aload_n 0, 1) := by decide +kernel
theorem dTypeBook_malformedEnumNode_16 : decode bTypeBook_malformedEnumNode 16 = .ok (.getfield 10, 3) := by decide +kernel
theorem dTypeBook_malformedEnumNode_19 : decode bTypeBook_malformedEnumNode 19 = .ok (.iload_n 1, 1) := by decide +kernel
theorem dTypeBook_malformedEnumNode_20 : decode bTypeBook_malformedEnumNode 20 = .ok (.invokevirtual 156, 3) := by decide +kernel
theorem dTypeBook_malformedEnumNode_23 : decode bTypeBook_malformedEnumNode 23 = .ok (.istore_n 2, 1) := by decide +kernel
theorem dTypeBook_malformedEnumNode_24 : decode bTypeBook_malformedEnumNode 24 = .ok (.iload_n 2, 1) := by decide +kernel
theorem dTypeBook_malformedEnumNode_25 : decode bTypeBook_malformedEnumNode 25 = .ok (.iconst 1, 1) := by decide +kernel
theorem dTypeBook_malformedEnumNode_26 : decode bTypeBook_malformedEnumNode 26 = .ok (.if_icmp .lt 9, 3) := by decide +kernel
theorem dTypeBook_malformedEnumNode_29 : decode bTypeBook_malformedEnumNode 29 = .ok (.iload_n 2, 1) := by decide +kernel
theorem dTypeBook_malformedEnumNode_30 : decode bTypeBook_malformedEnumNode 30 = .ok (.bipush 64, 2) := by decide +kernel
theorem dTypeBook_malformedEnumNode_32 : decode bTypeBook_malformedEnumNode 32 = .ok (.if_icmp .le 7, 3) := by decide +kernel
theorem dTypeBook_malformedEnumNode_35 : decode bTypeBook_malformedEnumNode 35 = .ok (.iload_n 1, 1) := by decide +kernel
theorem dTypeBook_malformedEnumNode_36 : decode bTypeBook_malformedEnumNode 36 = .ok (.goto 4, 3) := by decide +kernel
theorem dTypeBook_malformedEnumNode_39 : decode bTypeBook_malformedEnumNode 39 = .ok (.iconst (-1), 1) := by decide +kernel
theorem dTypeBook_malformedEnumNode_40 : decode bTypeBook_malformedEnumNode 40 = .ok (.istore_n 3, 1) := by decide +kernel
theorem dTypeBook_malformedEnumNode_41 : decode bTypeBook_malformedEnumNode 41 = .ok (.iload_n 1, 1) := by decide +kernel
theorem dTypeBook_malformedEnumNode_42 : decode bTypeBook_malformedEnumNode 42 = .ok (.iconst 1, 1) := by decide +kernel
theorem dTypeBook_malformedEnumNode_43 : decode bTypeBook_malformedEnumNode 43 = .ok (.isub, 1) := by decide +kernel
theorem dTypeBook_malformedEnumNode_44 : decode bTypeBook_malformedEnumNode 44 = .ok (.istore 4, 2) := by decide +kernel
theorem dTypeBook_malformedEnumNode_46 : decode bTypeBook_malformedEnumNode 46 = .ok (.iconst 0, 1) := by decide +kernel
theorem dTypeBook_malformedEnumNode_47 : decode bTypeBook_malformedEnumNode 47 = .ok (.istore 5, 2) := by decide +kernel
theorem dTypeBook_malformedEnumNode_49 : decode bTypeBook_malformedEnumNode 49 = .ok (.iload 5, 2) := by decide +kernel
theorem dTypeBook_malformedEnumNode_51 : decode bTypeBook_malformedEnumNode 51 = .ok (.iload_n 2, 1) := by decide +kernel
theorem dTypeBook_malformedEnumNode_52 : decode bTypeBook_malformedEnumNode 52 = .ok (.if_icmp .ge 50, 3) := by decide +kernel
theorem dTypeBook_malformedEnumNode_55 : decode bTypeBook_malformedEnumNode 55 = .ok (.aload_n 0, 1) := by decide +kernel
theorem dTypeBook_malformedEnumNode_56 : decode bTypeBook_malformedEnumNode 56 = .ok (.getfield 10, 3) := by decide +kernel
theorem dTypeBook_malformedEnumNode_59 : decode bTypeBook_malformedEnumNode 59 = .ok (.iload 4, 2) := by decide +kernel
theorem dTypeBook_malformedEnumNode_61 : decode bTypeBook_malformedEnumNode 61 = .ok (.invokevirtual 134, 3) := by decide +kernel
theorem dTypeBook_malformedEnumNode_64 : decode bTypeBook_malformedEnumNode 64 = .ok (.iconst 1, 1) := by decide +kernel
theorem dTypeBook_malformedEnumNode_65 : decode bTypeBook_malformedEnumNode 65 = .ok (.if_icmp .ne 15, 3) := by decide +kernel
theorem dTypeBook_malformedEnumNode_68 : decode bTypeBook_malformedEnumNode 68 = .ok (.aload_n 0, 1) := by decide +kernel
theorem dTypeBook_malformedEnumNode_69 : decode bTypeBook_malformedEnumNode 69 = .ok (.getfield 10, 3) := by decide +kernel
theorem dTypeBook_malformedEnumNode_72 : decode bTypeBook_malformedEnumNode 72 = .ok (.iload 4, 2) := by decide +kernel
theorem dTypeBook_malformedEnumNode_74 : decode bTypeBook_malformedEnumNode 74 = .ok (.invokevirtual 156, 3) := by decide +kernel
theorem dTypeBook_malformedEnumNode_77 : decode bTypeBook_malformedEnumNode 77 = .ok (.ifCond .eq 6, 3) := by decide +kernel
theorem dTypeBook_malformedEnumNode_80 : decode bTypeBook_malformedEnumNode 80 = .ok (.iload 4, 2) := by decide +kernel
theorem dTypeBook_malformedEnumNode_82 : decode bTypeBook_malformedEnumNode 82 = .ok (.istore_n 3, 1) := by decide +kernel
theorem dTypeBook_malformedEnumNode_83 : decode bTypeBook_malformedEnumNode 83 = .ok (.aload_n 0, 1) := by decide +kernel
theorem dTypeBook_malformedEnumNode_84 : decode bTypeBook_malformedEnumNode 84 = .ok (.getfield 10, 3) := by decide +kernel
theorem dTypeBook_malformedEnumNode_87 : decode bTypeBook_malformedEnumNode 87 = .ok (.iload 4, 2) := by decide +kernel
theorem dTypeBook_malformedEnumNode_89 : decode bTypeBook_malformedEnumNode 89 = .ok (.invokevirtual 244, 3) := by decide +kernel
theorem dTypeBook_malformedEnumNode_92 : decode bTypeBook_malformedEnumNode 92 = .ok (.iconst 1, 1) := by decide +kernel
theorem dTypeBook_malformedEnumNode_93 : decode bTypeBook_malformedEnumNode 93 = .ok (.isub, 1) := by decide +kernel
theorem dTypeBook_malformedEnumNode_94 : decode bTypeBook_malformedEnumNode 94 = .ok (.istore 4, 2) := by decide +kernel
theorem dTypeBook_malformedEnumNode_96 : decode bTypeBook_malformedEnumNode 96 = .ok (.iinc 5 1, 3) := by decide +kernel
theorem dTypeBook_malformedEnumNode_99 : decode bTypeBook_malformedEnumNode 99 = .ok (.goto (-50), 3) := by decide +kernel
theorem dTypeBook_malformedEnumNode_102 : decode bTypeBook_malformedEnumNode 102 = .ok (.iload_n 3, 1) := by decide +kernel
theorem dTypeBook_malformedEnumNode_103 : decode bTypeBook_malformedEnumNode 103 = .ok (.ireturn, 1) := by decide +kernel
theorem dTypeBook_takenEnumNode_0 : decode bTypeBook_takenEnumNode 0 = .ok (.aload_n 0, 1) := by decide +kernel
theorem dTypeBook_takenEnumNode_1 : decode bTypeBook_takenEnumNode 1 = .ok (.getfield 10, 3) := by decide +kernel
theorem dTypeBook_takenEnumNode_4 : decode bTypeBook_takenEnumNode 4 = .ok (.iload_n 1, 1) := by decide +kernel
theorem dTypeBook_takenEnumNode_5 : decode bTypeBook_takenEnumNode 5 = .ok (.invokevirtual 168, 3) := by decide +kernel
theorem dTypeBook_takenEnumNode_8 : decode bTypeBook_takenEnumNode 8 = .ok (.istore_n 2, 1) := by decide +kernel
theorem dTypeBook_takenEnumNode_9 : decode bTypeBook_takenEnumNode 9 = .ok (.aload_n 0, 1) := by decide +kernel
theorem dTypeBook_takenEnumNode_10 : decode bTypeBook_takenEnumNode 10 = .ok (.getfield 19, 3) := by decide +kernel
theorem dTypeBook_takenEnumNode_13 : decode bTypeBook_takenEnumNode 13 = .ok (.iload_n 2, 1) := by decide +kernel
theorem dTypeBook_takenEnumNode_14 : decode bTypeBook_takenEnumNode 14 = .ok (.invokevirtual 177, 3) := by decide +kernel
theorem dTypeBook_takenEnumNode_17 : decode bTypeBook_takenEnumNode 17 = .ok (.ifCond .eq 5, 3) := by decide +kernel
theorem dTypeBook_takenEnumNode_20 : decode bTypeBook_takenEnumNode 20 = .ok (.iload_n 1, 1) := by decide +kernel
theorem dTypeBook_takenEnumNode_21 : decode bTypeBook_takenEnumNode 21 = .ok (.ireturn, 1) := by decide +kernel
theorem dTypeBook_takenEnumNode_22 : decode bTypeBook_takenEnumNode 22 = .ok (.aload_n 0, 1) := by decide +kernel
theorem dTypeBook_takenEnumNode_23 : decode bTypeBook_takenEnumNode 23 = .ok (.getfield 10, 3) := by decide +kernel
theorem dTypeBook_takenEnumNode_26 : decode bTypeBook_takenEnumNode 26 = .ok (.iload_n 1, 1) := by decide +kernel
theorem dTypeBook_takenEnumNode_27 : decode bTypeBook_takenEnumNode 27 = .ok (.invokevirtual 244, 3) := by decide +kernel
theorem dTypeBook_takenEnumNode_30 : decode bTypeBook_takenEnumNode 30 = .ok (.istore_n 3, 1) := by decide +kernel
theorem dTypeBook_takenEnumNode_31 : decode bTypeBook_takenEnumNode 31 = .ok (.iload_n 3, 1) := by decide +kernel
theorem dTypeBook_takenEnumNode_32 : decode bTypeBook_takenEnumNode 32 = .ok (.istore 4, 2) := by decide +kernel
theorem dTypeBook_takenEnumNode_34 : decode bTypeBook_takenEnumNode 34 = .ok (.iload 4, 2) := by decide +kernel
theorem dTypeBook_takenEnumNode_36 : decode bTypeBook_takenEnumNode 36 = .ok (.iload_n 1, 1) := by decide +kernel
theorem dTypeBook_takenEnumNode_37 : decode bTypeBook_takenEnumNode 37 = .ok (.if_icmp .ge 51, 3) := by decide +kernel
theorem dTypeBook_takenEnumNode_40 : decode bTypeBook_takenEnumNode 40 = .ok (.aload_n 0, 1) := by decide +kernel
theorem dTypeBook_takenEnumNode_41 : decode bTypeBook_takenEnumNode 41 = .ok (.getfield 10, 3) := by decide +kernel
theorem dTypeBook_takenEnumNode_44 : decode bTypeBook_takenEnumNode 44 = .ok (.iload 4, 2) := by decide +kernel
theorem dTypeBook_takenEnumNode_46 : decode bTypeBook_takenEnumNode 46 = .ok (.invokevirtual 168, 3) := by decide +kernel
theorem dTypeBook_takenEnumNode_49 : decode bTypeBook_takenEnumNode 49 = .ok (.istore 5, 2) := by decide +kernel
theorem dTypeBook_takenEnumNode_51 : decode bTypeBook_takenEnumNode 51 = .ok (.iload 5, 2) := by decide +kernel
theorem dTypeBook_takenEnumNode_53 : decode bTypeBook_takenEnumNode 53 = .ok (.iload_n 2, 1) := by decide +kernel
theorem dTypeBook_takenEnumNode_54 : decode bTypeBook_takenEnumNode 54 = .ok (.if_icmp .eq 25, 3) := by decide +kernel
theorem dTypeBook_takenEnumNode_57 : decode bTypeBook_takenEnumNode 57 = .ok (.aload_n 0, 1) := by decide +kernel
theorem dTypeBook_takenEnumNode_58 : decode bTypeBook_takenEnumNode 58 = .ok (.getfield 19, 3) := by decide +kernel
theorem dTypeBook_takenEnumNode_61 : decode bTypeBook_takenEnumNode 61 = .ok (.iload 5, 2) := by decide +kernel
theorem dTypeBook_takenEnumNode_63 : decode bTypeBook_takenEnumNode 63 = .ok (.invokevirtual 177, 3) := by decide +kernel
theorem dTypeBook_takenEnumNode_66 : decode bTypeBook_takenEnumNode 66 = .ok (.ifCond .ne 13, 3) := by decide +kernel
theorem dTypeBook_takenEnumNode_69 : decode bTypeBook_takenEnumNode 69 = .ok (.aload_n 0, 1) := by decide +kernel
theorem dTypeBook_takenEnumNode_70 : decode bTypeBook_takenEnumNode 70 = .ok (.iload_n 3, 1) := by decide +kernel
theorem dTypeBook_takenEnumNode_71 : decode bTypeBook_takenEnumNode 71 = .ok (.iload 4, 2) := by decide +kernel
theorem dTypeBook_takenEnumNode_73 : decode bTypeBook_takenEnumNode 73 = .ok (.invokevirtual 247, 3) := by decide +kernel
theorem dTypeBook_takenEnumNode_76 : decode bTypeBook_takenEnumNode 76 = .ok (.ifCond .eq 6, 3) := by decide +kernel
theorem dTypeBook_takenEnumNode_79 : decode bTypeBook_takenEnumNode 79 = .ok (.iload 4, 2) := by decide +kernel
theorem dTypeBook_takenEnumNode_81 : decode bTypeBook_takenEnumNode 81 = .ok (.ireturn, 1) := by decide +kernel
theorem dTypeBook_takenEnumNode_82 : decode bTypeBook_takenEnumNode 82 = .ok (.iinc 4 1, 3) := by decide +kernel
theorem dTypeBook_takenEnumNode_85 : decode bTypeBook_takenEnumNode 85 = .ok (.goto (-51), 3) := by decide +kernel
theorem dTypeBook_takenEnumNode_88 : decode bTypeBook_takenEnumNode 88 = .ok (.iconst (-1), 1) := by decide +kernel
theorem dTypeBook_takenEnumNode_89 : decode bTypeBook_takenEnumNode 89 = .ok (.ireturn, 1) := by decide +kernel
theorem dTypeBook_isNameOfOneBefore_0 : decode bTypeBook_isNameOfOneBefore 0 = .ok (.iload_n 1, 1) := by decide +kernel
theorem dTypeBook_isNameOfOneBefore_1 : decode bTypeBook_isNameOfOneBefore 1 = .ok (.istore_n 3, 1) := by decide +kernel
theorem dTypeBook_isNameOfOneBefore_2 : decode bTypeBook_isNameOfOneBefore 2 = .ok (.iload_n 3, 1) := by decide +kernel
theorem dTypeBook_isNameOfOneBefore_3 : decode bTypeBook_isNameOfOneBefore 3 = .ok (.iload_n 2, 1) := by decide +kernel
theorem dTypeBook_isNameOfOneBefore_4 : decode bTypeBook_isNameOfOneBefore 4 = .ok (.if_icmp .ge 30, 3) := by decide +kernel
theorem dTypeBook_isNameOfOneBefore_7 : decode bTypeBook_isNameOfOneBefore 7 = .ok (.aload_n 0, 1) := by decide +kernel
theorem dTypeBook_isNameOfOneBefore_8 : decode bTypeBook_isNameOfOneBefore 8 = .ok (.getfield 10, 3) := by decide +kernel
theorem dTypeBook_isNameOfOneBefore_11 : decode bTypeBook_isNameOfOneBefore 11 = .ok (.iload_n 3, 1) := by decide +kernel
theorem dTypeBook_isNameOfOneBefore_12 : decode bTypeBook_isNameOfOneBefore 12 = .ok (.invokevirtual 168, 3) := by decide +kernel
theorem dTypeBook_isNameOfOneBefore_15 : decode bTypeBook_isNameOfOneBefore 15 = .ok (.aload_n 0, 1) := by decide +kernel
theorem dTypeBook_isNameOfOneBefore_16 : decode bTypeBook_isNameOfOneBefore 16 = .ok (.getfield 10, 3) := by decide +kernel
theorem dTypeBook_isNameOfOneBefore_19 : decode bTypeBook_isNameOfOneBefore 19 = .ok (.iload_n 2, 1) := by decide +kernel
theorem dTypeBook_isNameOfOneBefore_20 : decode bTypeBook_isNameOfOneBefore 20 = .ok (.invokevirtual 168, 3) := by decide +kernel
theorem dTypeBook_isNameOfOneBefore_23 : decode bTypeBook_isNameOfOneBefore 23 = .ok (.if_icmp .ne 5, 3) := by decide +kernel
theorem dTypeBook_isNameOfOneBefore_26 : decode bTypeBook_isNameOfOneBefore 26 = .ok (.iconst 1, 1) := by decide +kernel
theorem dTypeBook_isNameOfOneBefore_27 : decode bTypeBook_isNameOfOneBefore 27 = .ok (.ireturn, 1) := by decide +kernel
theorem dTypeBook_isNameOfOneBefore_28 : decode bTypeBook_isNameOfOneBefore 28 = .ok (.iinc 3 1, 3) := by decide +kernel
theorem dTypeBook_isNameOfOneBefore_31 : decode bTypeBook_isNameOfOneBefore 31 = .ok (.goto (-29), 3) := by decide +kernel
theorem dTypeBook_isNameOfOneBefore_34 : decode bTypeBook_isNameOfOneBefore 34 = .ok (.iconst 0, 1) := by decide +kernel
theorem dTypeBook_isNameOfOneBefore_35 : decode bTypeBook_isNameOfOneBefore 35 = .ok (.ireturn, 1) := by decide +kernel
theorem dTypeBook_withRoom_0 : decode bTypeBook_withRoom 0 = .ok (.iload_n 1, 1) := by decide +kernel
theorem dTypeBook_withRoom_1 : decode bTypeBook_withRoom 1 = .ok (.aload_n 0, 1) := by decide +kernel
theorem dTypeBook_withRoom_2 : decode bTypeBook_withRoom 2 = .ok (.arraylength, 1) := by decide +kernel
theorem dTypeBook_withRoom_3 : decode bTypeBook_withRoom 3 = .ok (.if_icmp .gt 7, 3) := by decide +kernel
theorem dTypeBook_withRoom_6 : decode bTypeBook_withRoom 6 = .ok (.aload_n 0, 1) := by decide +kernel
theorem dTypeBook_withRoom_7 : decode bTypeBook_withRoom 7 = .ok (.goto 15, 3) := by decide +kernel
theorem dTypeBook_withRoom_10 : decode bTypeBook_withRoom 10 = .ok (.aload_n 0, 1) := by decide +kernel
theorem dTypeBook_withRoom_11 : decode bTypeBook_withRoom 11 = .ok (.iload_n 1, 1) := by decide +kernel
theorem dTypeBook_withRoom_12 : decode bTypeBook_withRoom 12 = .ok (.iconst 2, 1) := by decide +kernel
theorem dTypeBook_withRoom_13 : decode bTypeBook_withRoom 13 = .ok (.aload_n 0, 1) := by decide +kernel
theorem dTypeBook_withRoom_14 : decode bTypeBook_withRoom 14 = .ok (.arraylength, 1) := by decide +kernel
theorem dTypeBook_withRoom_15 : decode bTypeBook_withRoom 15 = .ok (.imul, 1) := by decide +kernel
theorem dTypeBook_withRoom_16 : decode bTypeBook_withRoom 16 = .ok (.invokestatic 251, 3) := by decide +kernel
theorem dTypeBook_withRoom_19 : decode bTypeBook_withRoom 19 = .ok (.invokestatic 256, 3) := by decide +kernel
theorem dTypeBook_withRoom_22 : decode bTypeBook_withRoom 22 = .ok (.areturn, 1) := by decide +kernel
theorem dTrees_init_0 : decode bTrees_init 0 = .ok (.aload_n 0, 1) := by decide +kernel
theorem dTrees_init_1 : decode bTrees_init 1 = .ok (.invokespecial 3, 3) := by decide +kernel
theorem dTrees_init_4 : decode bTrees_init 4 = .ok (.aload_n 0, 1) := by decide +kernel
theorem dTrees_init_5 : decode bTrees_init 5 = .ok (.bipush 64, 2) := by decide +kernel
theorem dTrees_init_7 : decode bTrees_init 7 = .ok (.newarray .int, 2) := by decide +kernel
theorem dTrees_init_9 : decode bTrees_init 9 = .ok (.putfield 9, 3) := by decide +kernel
theorem dTrees_init_12 : decode bTrees_init 12 = .ok (.aload_n 0, 1) := by decide +kernel
theorem dTrees_init_13 : decode bTrees_init 13 = .ok (.bipush 64, 2) := by decide +kernel
theorem dTrees_init_15 : decode bTrees_init 15 = .ok (.newarray .int, 2) := by decide +kernel
theorem dTrees_init_17 : decode bTrees_init 17 = .ok (.putfield 15, 3) := by decide +kernel
theorem dTrees_init_20 : decode bTrees_init 20 = .ok (.aload_n 0, 1) := by decide +kernel
theorem dTrees_init_21 : decode bTrees_init 21 = .ok (.bipush 64, 2) := by decide +kernel
theorem dTrees_init_23 : decode bTrees_init 23 = .ok (.newarray .int, 2) := by decide +kernel
theorem dTrees_init_25 : decode bTrees_init 25 = .ok (.putfield 18, 3) := by decide +kernel
theorem dTrees_init_28 : decode bTrees_init 28 = .ok (.aload_n 0, 1) := by decide +kernel
theorem dTrees_init_29 : decode bTrees_init 29 = .ok (.bipush 64, 2) := by decide +kernel
theorem dTrees_init_31 : decode bTrees_init 31 = .ok (.newarray .int, 2) := by decide +kernel
theorem dTrees_init_33 : decode bTrees_init 33 = .ok (.putfield 21, 3) := by decide +kernel
theorem dTrees_init_36 : decode bTrees_init 36 = .ok (.aload_n 0, 1) := by decide +kernel
theorem dTrees_init_37 : decode bTrees_init 37 = .ok (.iconst 0, 1) := by decide +kernel
theorem dTrees_init_38 : decode bTrees_init 38 = .ok (.putfield 24, 3) := by decide +kernel
theorem dTrees_init_41 : decode bTrees_init 41 = .ok (.aload_n 0, 1) := by decide +kernel
theorem dTrees_init_42 : decode bTrees_init 42 = .ok (.iconst 0, 1) := by decide +kernel
theorem dTrees_init_43 : decode bTrees_init 43 = .ok (.putfield 28, 3) := by decide +kernel
theorem dTrees_init_46 : decode bTrees_init 46 = .ok (.return_, 1) := by decide +kernel
theorem dTrees_bearsName_0 : decode bTrees_bearsName 0 = .ok (.iload_n 0, 1) := by decide +kernel
theorem dTrees_bearsName_1 : decode bTrees_bearsName 1 = .ok (.iconst 1, 1) := by decide +kernel
theorem dTrees_bearsName_2 : decode bTrees_bearsName 2 = .ok (.if_icmp .eq 27, 3) := by decide +kernel
theorem dTrees_bearsName_5 : decode bTrees_bearsName 5 = .ok (.iload_n 0, 1) := by decide +kernel
theorem dTrees_bearsName_6 : decode bTrees_bearsName 6 = .ok (.bipush 10, 2) := by decide +kernel
theorem dTrees_bearsName_8 : decode bTrees_bearsName 8 = .ok (.if_icmp .eq 21, 3) := by decide +kernel
theorem dTrees_bearsName_11 : decode bTrees_bearsName 11 = .ok (.iload_n 0, 1) := by decide +kernel
theorem dTrees_bearsName_12 : decode bTrees_bearsName 12 = .ok (.bipush 22, 2) := by decide +kernel
theorem dTrees_bearsName_14 : decode bTrees_bearsName 14 = .ok (.if_icmp .lt 9, 3) := by decide +kernel
theorem dTrees_bearsName_17 : decode bTrees_bearsName 17 = .ok (.iload_n 0, 1) := by decide +kernel
theorem dTrees_bearsName_18 : decode bTrees_bearsName 18 = .ok (.bipush 25, 2) := by decide +kernel
theorem dTrees_bearsName_20 : decode bTrees_bearsName 20 = .ok (.if_icmp .le 9, 3) := by decide +kernel
theorem dTrees_bearsName_23 : decode bTrees_bearsName 23 = .ok (.iload_n 0, 1) := by decide +kernel
theorem dTrees_bearsName_24 : decode bTrees_bearsName 24 = .ok (.bipush 53, 2) := by decide +kernel
theorem dTrees_bearsName_26 : decode bTrees_bearsName 26 = .ok (.if_icmp .ne 7, 3) := by decide +kernel
theorem dTrees_bearsName_29 : decode bTrees_bearsName 29 = .ok (.iconst 1, 1) := by decide +kernel
theorem dTrees_bearsName_30 : decode bTrees_bearsName 30 = .ok (.goto 4, 3) := by decide +kernel
theorem dTrees_bearsName_33 : decode bTrees_bearsName 33 = .ok (.iconst 0, 1) := by decide +kernel
theorem dTrees_bearsName_34 : decode bTrees_bearsName 34 = .ok (.ireturn, 1) := by decide +kernel
theorem dTrees_has_0 : decode bTrees_has 0 = .ok (.iload_n 1, 1) := by decide +kernel
theorem dTrees_has_1 : decode bTrees_has 1 = .ok (.ifCond .lt 15, 3) := by decide +kernel
theorem dTrees_has_4 : decode bTrees_has 4 = .ok (.iload_n 1, 1) := by decide +kernel
theorem dTrees_has_5 : decode bTrees_has 5 = .ok (.aload_n 0, 1) := by decide +kernel
theorem dTrees_has_6 : decode bTrees_has 6 = .ok (.getfield 24, 3) := by decide +kernel
theorem dTrees_has_9 : decode bTrees_has 9 = .ok (.if_icmp .ge 7, 3) := by decide +kernel
theorem dTrees_has_12 : decode bTrees_has 12 = .ok (.iconst 1, 1) := by decide +kernel
theorem dTrees_has_13 : decode bTrees_has 13 = .ok (.goto 4, 3) := by decide +kernel
theorem dTrees_has_16 : decode bTrees_has 16 = .ok (.iconst 0, 1) := by decide +kernel
theorem dTrees_has_17 : decode bTrees_has 17 = .ok (.ireturn, 1) := by decide +kernel
theorem dTrees_kindOf_0 : decode bTrees_kindOf 0 = .ok (.aload_n 0, 1) := by decide +kernel
theorem dTrees_kindOf_1 : decode bTrees_kindOf 1 = .ok (.iload_n 1, 1) := by decide +kernel
theorem dTrees_kindOf_2 : decode bTrees_kindOf 2 = .ok (.invokevirtual 31, 3) := by decide +kernel
theorem dTrees_kindOf_5 : decode bTrees_kindOf 5 = .ok (.ifCond .eq 12, 3) := by decide +kernel
theorem dTrees_kindOf_8 : decode bTrees_kindOf 8 = .ok (.aload_n 0, 1) := by decide +kernel
theorem dTrees_kindOf_9 : decode bTrees_kindOf 9 = .ok (.getfield 9, 3) := by decide +kernel
theorem dTrees_kindOf_12 : decode bTrees_kindOf 12 = .ok (.iload_n 1, 1) := by decide +kernel
theorem dTrees_kindOf_13 : decode bTrees_kindOf 13 = .ok (.iaload, 1) := by decide +kernel
theorem dTrees_kindOf_14 : decode bTrees_kindOf 14 = .ok (.goto 4, 3) := by decide +kernel
theorem dTrees_kindOf_17 : decode bTrees_kindOf 17 = .ok (.iconst (-1), 1) := by decide +kernel
theorem dTrees_kindOf_18 : decode bTrees_kindOf 18 = .ok (.ireturn, 1) := by decide +kernel
theorem dTrees_valueOf_0 : decode bTrees_valueOf 0 = .ok (.aload_n 0, 1) := by decide +kernel
theorem dTrees_valueOf_1 : decode bTrees_valueOf 1 = .ok (.iload_n 1, 1) := by decide +kernel
theorem dTrees_valueOf_2 : decode bTrees_valueOf 2 = .ok (.invokevirtual 31, 3) := by decide +kernel
theorem dTrees_valueOf_5 : decode bTrees_valueOf 5 = .ok (.ifCond .eq 12, 3) := by decide +kernel
theorem dTrees_valueOf_8 : decode bTrees_valueOf 8 = .ok (.aload_n 0, 1) := by decide +kernel
theorem dTrees_valueOf_9 : decode bTrees_valueOf 9 = .ok (.getfield 15, 3) := by decide +kernel
theorem dTrees_valueOf_12 : decode bTrees_valueOf 12 = .ok (.iload_n 1, 1) := by decide +kernel
theorem dTrees_valueOf_13 : decode bTrees_valueOf 13 = .ok (.iaload, 1) := by decide +kernel
theorem dTrees_valueOf_14 : decode bTrees_valueOf 14 = .ok (.goto 4, 3) := by decide +kernel
theorem dTrees_valueOf_17 : decode bTrees_valueOf 17 = .ok (.iconst (-1), 1) := by decide +kernel
theorem dTrees_valueOf_18 : decode bTrees_valueOf 18 = .ok (.ireturn, 1) := by decide +kernel
theorem dTrees_countOf_0 : decode bTrees_countOf 0 = .ok (.aload_n 0, 1) := by decide +kernel
theorem dTrees_countOf_1 : decode bTrees_countOf 1 = .ok (.iload_n 1, 1) := by decide +kernel
theorem dTrees_countOf_2 : decode bTrees_countOf 2 = .ok (.invokevirtual 31, 3) := by decide +kernel
theorem dTrees_countOf_5 : decode bTrees_countOf 5 = .ok (.ifCond .eq 12, 3) := by decide +kernel
theorem dTrees_countOf_8 : decode bTrees_countOf 8 = .ok (.aload_n 0, 1) := by decide +kernel
theorem dTrees_countOf_9 : decode bTrees_countOf 9 = .ok (.getfield 18, 3) := by decide +kernel
theorem dTrees_countOf_12 : decode bTrees_countOf 12 = .ok (.iload_n 1, 1) := by decide +kernel
theorem dTrees_countOf_13 : decode bTrees_countOf 13 = .ok (.iaload, 1) := by decide +kernel
theorem dTrees_countOf_14 : decode bTrees_countOf 14 = .ok (.goto 4, 3) := by decide +kernel
theorem dTrees_countOf_17 : decode bTrees_countOf 17 = .ok (.iconst 0, 1) := by decide +kernel
theorem dTrees_countOf_18 : decode bTrees_countOf 18 = .ok (.ireturn, 1) := by decide +kernel
theorem dTrees_firstOf_0 : decode bTrees_firstOf 0 = .ok (.aload_n 0, 1) := by decide +kernel
theorem dTrees_firstOf_1 : decode bTrees_firstOf 1 = .ok (.iload_n 1, 1) := by decide +kernel
theorem dTrees_firstOf_2 : decode bTrees_firstOf 2 = .ok (.invokevirtual 31, 3) := by decide +kernel
theorem dTrees_firstOf_5 : decode bTrees_firstOf 5 = .ok (.ifCond .eq 12, 3) := by decide +kernel
theorem dTrees_firstOf_8 : decode bTrees_firstOf 8 = .ok (.aload_n 0, 1) := by decide +kernel
theorem dTrees_firstOf_9 : decode bTrees_firstOf 9 = .ok (.getfield 21, 3) := by decide +kernel
theorem dTrees_firstOf_12 : decode bTrees_firstOf 12 = .ok (.iload_n 1, 1) := by decide +kernel
theorem dTrees_firstOf_13 : decode bTrees_firstOf 13 = .ok (.iaload, 1) := by decide +kernel
theorem dTrees_firstOf_14 : decode bTrees_firstOf 14 = .ok (.goto 4, 3) := by decide +kernel
theorem dTrees_firstOf_17 : decode bTrees_firstOf 17 = .ok (.iconst 0, 1) := by decide +kernel
theorem dTrees_firstOf_18 : decode bTrees_firstOf 18 = .ok (.ireturn, 1) := by decide +kernel
theorem dTrees_leftOfTwo_0 : decode bTrees_leftOfTwo 0 = .ok (.aload_n 0, 1) := by decide +kernel
theorem dTrees_leftOfTwo_1 : decode bTrees_leftOfTwo 1 = .ok (.iload_n 1, 1) := by decide +kernel
theorem dTrees_leftOfTwo_2 : decode bTrees_leftOfTwo 2 = .ok (.iconst 1, 1) := by decide +kernel
theorem dTrees_leftOfTwo_3 : decode bTrees_leftOfTwo 3 = .ok (.isub, 1) := by decide +kernel
theorem dTrees_leftOfTwo_4 : decode bTrees_leftOfTwo 4 = .ok (.invokevirtual 35, 3) := by decide +kernel
theorem dTrees_leftOfTwo_7 : decode bTrees_leftOfTwo 7 = .ok (.iconst 1, 1) := by decide +kernel
theorem dTrees_leftOfTwo_8 : decode bTrees_leftOfTwo 8 = .ok (.isub, 1) := by decide +kernel
theorem dTrees_leftOfTwo_9 : decode bTrees_leftOfTwo 9 = .ok (.ireturn, 1) := by decide +kernel
theorem dTrees_grow_0 : decode bTrees_grow 0 = .ok (.aload_n 0, 1) := by decide +kernel
theorem dTrees_grow_1 : decode bTrees_grow 1 = .ok (.getfield 24, 3) := by decide +kernel
theorem dTrees_grow_4 : decode bTrees_grow 4 = .ok (.istore 4, 2) := by decide +kernel
theorem dTrees_grow_6 : decode bTrees_grow 6 = .ok (.aload_n 0, 1) := by decide +kernel
theorem dTrees_grow_7 : decode bTrees_grow 7 = .ok (.aload_n 0, 1) := by decide +kernel
theorem dTrees_grow_8 : decode bTrees_grow 8 = .ok (.getfield 9, 3) := by decide +kernel
theorem dTrees_grow_11 : decode bTrees_grow 11 = .ok (.iload 4, 2) := by decide +kernel
theorem dTrees_grow_13 : decode bTrees_grow 13 = .ok (.iconst 1, 1) := by decide +kernel
theorem dTrees_grow_14 : decode bTrees_grow 14 = .ok (.iadd, 1) := by decide +kernel
theorem dTrees_grow_15 : decode bTrees_grow 15 = .ok (.invokestatic 39, 3) := by decide +kernel
theorem dTrees_grow_18 : decode bTrees_grow 18 = .ok (.putfield 9, 3) := by decide +kernel
theorem dTrees_grow_21 : decode bTrees_grow 21 = .ok (.aload_n 0, 1) := by decide +kernel
theorem dTrees_grow_22 : decode bTrees_grow 22 = .ok (.aload_n 0, 1) := by decide +kernel
theorem dTrees_grow_23 : decode bTrees_grow 23 = .ok (.getfield 15, 3) := by decide +kernel
theorem dTrees_grow_26 : decode bTrees_grow 26 = .ok (.iload 4, 2) := by decide +kernel
theorem dTrees_grow_28 : decode bTrees_grow 28 = .ok (.iconst 1, 1) := by decide +kernel
theorem dTrees_grow_29 : decode bTrees_grow 29 = .ok (.iadd, 1) := by decide +kernel
theorem dTrees_grow_30 : decode bTrees_grow 30 = .ok (.invokestatic 39, 3) := by decide +kernel
theorem dTrees_grow_33 : decode bTrees_grow 33 = .ok (.putfield 15, 3) := by decide +kernel
theorem dTrees_grow_36 : decode bTrees_grow 36 = .ok (.aload_n 0, 1) := by decide +kernel
theorem dTrees_grow_37 : decode bTrees_grow 37 = .ok (.aload_n 0, 1) := by decide +kernel
theorem dTrees_grow_38 : decode bTrees_grow 38 = .ok (.getfield 18, 3) := by decide +kernel
theorem dTrees_grow_41 : decode bTrees_grow 41 = .ok (.iload 4, 2) := by decide +kernel
theorem dTrees_grow_43 : decode bTrees_grow 43 = .ok (.iconst 1, 1) := by decide +kernel
theorem dTrees_grow_44 : decode bTrees_grow 44 = .ok (.iadd, 1) := by decide +kernel
theorem dTrees_grow_45 : decode bTrees_grow 45 = .ok (.invokestatic 39, 3) := by decide +kernel
theorem dTrees_grow_48 : decode bTrees_grow 48 = .ok (.putfield 18, 3) := by decide +kernel
theorem dTrees_grow_51 : decode bTrees_grow 51 = .ok (.aload_n 0, 1) := by decide +kernel
theorem dTrees_grow_52 : decode bTrees_grow 52 = .ok (.aload_n 0, 1) := by decide +kernel
theorem dTrees_grow_53 : decode bTrees_grow 53 = .ok (.getfield 21, 3) := by decide +kernel
theorem dTrees_grow_56 : decode bTrees_grow 56 = .ok (.iload 4, 2) := by decide +kernel
theorem dTrees_grow_58 : decode bTrees_grow 58 = .ok (.iconst 1, 1) := by decide +kernel
theorem dTrees_grow_59 : decode bTrees_grow 59 = .ok (.iadd, 1) := by decide +kernel
theorem dTrees_grow_60 : decode bTrees_grow 60 = .ok (.invokestatic 39, 3) := by decide +kernel
theorem dTrees_grow_63 : decode bTrees_grow 63 = .ok (.putfield 21, 3) := by decide +kernel
theorem dTrees_grow_66 : decode bTrees_grow 66 = .ok (.iload 4, 2) := by decide +kernel
theorem dTrees_grow_68 : decode bTrees_grow 68 = .ok (.istore 5, 2) := by decide +kernel
theorem dTrees_grow_70 : decode bTrees_grow 70 = .ok (.iconst 0, 1) := by decide +kernel
theorem dTrees_grow_71 : decode bTrees_grow 71 = .ok (.istore 6, 2) := by decide +kernel
theorem dTrees_grow_73 : decode bTrees_grow 73 = .ok (.iload 6, 2) := by decide +kernel
theorem dTrees_grow_75 : decode bTrees_grow 75 = .ok (.iload_n 3, 1) := by decide +kernel
theorem dTrees_grow_76 : decode bTrees_grow 76 = .ok (.if_icmp .ge 19, 3) := by decide +kernel
theorem dTrees_grow_79 : decode bTrees_grow 79 = .ok (.aload_n 0, 1) := by decide +kernel
theorem dTrees_grow_80 : decode bTrees_grow 80 = .ok (.iload 5, 2) := by decide +kernel
theorem dTrees_grow_82 : decode bTrees_grow 82 = .ok (.iconst 1, 1) := by decide +kernel
theorem dTrees_grow_83 : decode bTrees_grow 83 = .ok (.isub, 1) := by decide +kernel
theorem dTrees_grow_84 : decode bTrees_grow 84 = .ok (.invokevirtual 35, 3) := by decide +kernel
theorem dTrees_grow_87 : decode bTrees_grow 87 = .ok (.istore 5, 2) := by decide +kernel
theorem dTrees_grow_89 : decode bTrees_grow 89 = .ok (.iinc 6 1, 3) := by decide +kernel
theorem dTrees_grow_92 : decode bTrees_grow 92 = .ok (.goto (-19), 3) := by decide +kernel
theorem dTrees_grow_95 : decode bTrees_grow 95 = .ok (.aload_n 0, 1) := by decide +kernel
theorem dTrees_grow_96 : decode bTrees_grow 96 = .ok (.getfield 9, 3) := by decide +kernel
theorem dTrees_grow_99 : decode bTrees_grow 99 = .ok (.iload 4, 2) := by decide +kernel
theorem dTrees_grow_101 : decode bTrees_grow 101 = .ok (.iload_n 1, 1) := by decide +kernel
theorem dTrees_grow_102 : decode bTrees_grow 102 = .ok (.iastore, 1) := by decide +kernel
theorem dTrees_grow_103 : decode bTrees_grow 103 = .ok (.aload_n 0, 1) := by decide +kernel
theorem dTrees_grow_104 : decode bTrees_grow 104 = .ok (.getfield 15, 3) := by decide +kernel
theorem dTrees_grow_107 : decode bTrees_grow 107 = .ok (.iload 4, 2) := by decide +kernel
theorem dTrees_grow_109 : decode bTrees_grow 109 = .ok (.iload_n 2, 1) := by decide +kernel
theorem dTrees_grow_110 : decode bTrees_grow 110 = .ok (.iastore, 1) := by decide +kernel
theorem dTrees_grow_111 : decode bTrees_grow 111 = .ok (.aload_n 0, 1) := by decide +kernel
theorem dTrees_grow_112 : decode bTrees_grow 112 = .ok (.getfield 18, 3) := by decide +kernel
theorem dTrees_grow_115 : decode bTrees_grow 115 = .ok (.iload 4, 2) := by decide +kernel
theorem dTrees_grow_117 : decode bTrees_grow 117 = .ok (.iload_n 3, 1) := by decide +kernel
theorem dTrees_grow_118 : decode bTrees_grow 118 = .ok (.iastore, 1) := by decide +kernel
theorem dTrees_grow_119 : decode bTrees_grow 119 = .ok (.aload_n 0, 1) := by decide +kernel
theorem dTrees_grow_120 : decode bTrees_grow 120 = .ok (.getfield 21, 3) := by decide +kernel
theorem dTrees_grow_123 : decode bTrees_grow 123 = .ok (.iload 4, 2) := by decide +kernel
theorem dTrees_grow_125 : decode bTrees_grow 125 = .ok (.iload 5, 2) := by decide +kernel
theorem dTrees_grow_127 : decode bTrees_grow 127 = .ok (.iastore, 1) := by decide +kernel
theorem dTrees_grow_128 : decode bTrees_grow 128 = .ok (.aload_n 0, 1) := by decide +kernel
theorem dTrees_grow_129 : decode bTrees_grow 129 = .ok (.dup, 1) := by decide +kernel
theorem dTrees_grow_130 : decode bTrees_grow 130 = .ok (.getfield 24, 3) := by decide +kernel
theorem dTrees_grow_133 : decode bTrees_grow 133 = .ok (.iconst 1, 1) := by decide +kernel
theorem dTrees_grow_134 : decode bTrees_grow 134 = .ok (.iadd, 1) := by decide +kernel
theorem dTrees_grow_135 : decode bTrees_grow 135 = .ok (.putfield 24, 3) := by decide +kernel
theorem dTrees_grow_138 : decode bTrees_grow 138 = .ok (.aload_n 0, 1) := by decide +kernel
theorem dTrees_grow_139 : decode bTrees_grow 139 = .ok (.dup, 1) := by decide +kernel
theorem dTrees_grow_140 : decode bTrees_grow 140 = .ok (.getfield 28, 3) := by decide +kernel
theorem dTrees_grow_143 : decode bTrees_grow 143 = .ok (.iconst 1, 1) := by decide +kernel
theorem dTrees_grow_144 : decode bTrees_grow 144 = .ok (.iload_n 3, 1) := by decide +kernel
theorem dTrees_grow_145 : decode bTrees_grow 145 = .ok (.isub, 1) := by decide +kernel
theorem dTrees_grow_146 : decode bTrees_grow 146 = .ok (.iadd, 1) := by decide +kernel
theorem dTrees_grow_147 : decode bTrees_grow 147 = .ok (.putfield 28, 3) := by decide +kernel
theorem dTrees_grow_150 : decode bTrees_grow 150 = .ok (.iload 4, 2) := by decide +kernel
theorem dTrees_grow_152 : decode bTrees_grow 152 = .ok (.ireturn, 1) := by decide +kernel
theorem dTrees_fell_0 : decode bTrees_fell 0 = .ok (.aload_n 0, 1) := by decide +kernel
theorem dTrees_fell_1 : decode bTrees_fell 1 = .ok (.iconst 0, 1) := by decide +kernel
theorem dTrees_fell_2 : decode bTrees_fell 2 = .ok (.putfield 24, 3) := by decide +kernel
theorem dTrees_fell_5 : decode bTrees_fell 5 = .ok (.aload_n 0, 1) := by decide +kernel
theorem dTrees_fell_6 : decode bTrees_fell 6 = .ok (.iconst 0, 1) := by decide +kernel
theorem dTrees_fell_7 : decode bTrees_fell 7 = .ok (.putfield 28, 3) := by decide +kernel
theorem dTrees_fell_10 : decode bTrees_fell 10 = .ok (.return_, 1) := by decide +kernel
theorem dNames_init_0 : decode bNames_init 0 = .ok (.aload_n 0, 1) := by decide +kernel
theorem dNames_init_1 : decode bNames_init 1 = .ok (.invokespecial 3, 3) := by decide +kernel
theorem dNames_init_4 : decode bNames_init 4 = .ok (.aload_n 0, 1) := by decide +kernel
theorem dNames_init_5 : decode bNames_init 5 = .ok (.bipush 64, 2) := by decide +kernel
theorem dNames_init_7 : decode bNames_init 7 = .ok (.newarray .int, 2) := by decide +kernel
theorem dNames_init_9 : decode bNames_init 9 = .ok (.putfield 9, 3) := by decide +kernel
theorem dNames_init_12 : decode bNames_init 12 = .ok (.aload_n 0, 1) := by decide +kernel
theorem dNames_init_13 : decode bNames_init 13 = .ok (.bipush 64, 2) := by decide +kernel
theorem dNames_init_15 : decode bNames_init 15 = .ok (.newarray .int, 2) := by decide +kernel
theorem dNames_init_17 : decode bNames_init 17 = .ok (.putfield 15, 3) := by decide +kernel
theorem dNames_init_20 : decode bNames_init 20 = .ok (.aload_n 0, 1) := by decide +kernel
theorem dNames_init_21 : decode bNames_init 21 = .ok (.bipush 64, 2) := by decide +kernel
theorem dNames_init_23 : decode bNames_init 23 = .ok (.newarray .int, 2) := by decide +kernel
theorem dNames_init_25 : decode bNames_init 25 = .ok (.putfield 18, 3) := by decide +kernel
theorem dNames_init_28 : decode bNames_init 28 = .ok (.aload_n 0, 1) := by decide +kernel
theorem dNames_init_29 : decode bNames_init 29 = .ok (.bipush 64, 2) := by decide +kernel
theorem dNames_init_31 : decode bNames_init 31 = .ok (.newarray .int, 2) := by decide +kernel
theorem dNames_init_33 : decode bNames_init 33 = .ok (.putfield 21, 3) := by decide +kernel
theorem dNames_init_36 : decode bNames_init 36 = .ok (.aload_n 0, 1) := by decide +kernel
theorem dNames_init_37 : decode bNames_init 37 = .ok (.bipush 64, 2) := by decide +kernel
theorem dNames_init_39 : decode bNames_init 39 = .ok (.newarray .int, 2) := by decide +kernel
theorem dNames_init_41 : decode bNames_init 41 = .ok (.putfield 24, 3) := by decide +kernel
theorem dNames_init_44 : decode bNames_init 44 = .ok (.aload_n 0, 1) := by decide +kernel
theorem dNames_init_45 : decode bNames_init 45 = .ok (.sipush 256, 3) := by decide +kernel
theorem dNames_init_48 : decode bNames_init 48 = .ok (.newarray .int, 2) := by decide +kernel
theorem dNames_init_50 : decode bNames_init 50 = .ok (.putfield 27, 3) := by decide +kernel
theorem dNames_init_53 : decode bNames_init 53 = .ok (.aload_n 0, 1) := by decide +kernel
theorem dNames_init_54 : decode bNames_init 54 = .ok (.bipush 32, 2) := by decide +kernel
theorem dNames_init_56 : decode bNames_init 56 = .ok (.newarray .int, 2) := by decide +kernel
theorem dNames_init_58 : decode bNames_init 58 = .ok (.putfield 30, 3) := by decide +kernel
theorem dNames_init_61 : decode bNames_init 61 = .ok (.aload_n 0, 1) := by decide +kernel
theorem dNames_init_62 : decode bNames_init 62 = .ok (.iconst 0, 1) := by decide +kernel
theorem dNames_init_63 : decode bNames_init 63 = .ok (.putfield 33, 3) := by decide +kernel
theorem dNames_init_66 : decode bNames_init 66 = .ok (.aload_n 0, 1) := by decide +kernel
theorem dNames_init_67 : decode bNames_init 67 = .ok (.iconst 1, 1) := by decide +kernel
theorem dNames_init_68 : decode bNames_init 68 = .ok (.putfield 37, 3) := by decide +kernel
theorem dNames_init_71 : decode bNames_init 71 = .ok (.aload_n 0, 1) := by decide +kernel
theorem dNames_init_72 : decode bNames_init 72 = .ok (.getfield 27, 3) := by decide +kernel
theorem dNames_init_75 : decode bNames_init 75 = .ok (.iconst (-1), 1) := by decide +kernel
theorem dNames_init_76 : decode bNames_init 76 = .ok (.invokestatic 40, 3) := by decide +kernel
theorem dNames_init_79 : decode bNames_init 79 = .ok (.iconst 0, 1) := by decide +kernel
theorem dNames_init_80 : decode bNames_init 80 = .ok (.istore_n 1, 1) := by decide +kernel
theorem dNames_init_81 : decode bNames_init 81 = .ok (.iload_n 1, 1) := by decide +kernel
theorem dNames_init_82 : decode bNames_init 82 = .ok (.getstatic 46, 3) := by decide +kernel
theorem dNames_init_85 : decode bNames_init 85 = .ok (.arraylength, 1) := by decide +kernel
theorem dNames_init_86 : decode bNames_init 86 = .ok (.if_icmp .ge 25, 3) := by decide +kernel
theorem dNames_init_89 : decode bNames_init 89 = .ok (.aload_n 0, 1) := by decide +kernel
theorem dNames_init_90 : decode bNames_init 90 = .ok (.iload_n 1, 1) := by decide +kernel
theorem dNames_init_91 : decode bNames_init 91 = .ok (.getstatic 46, 3) := by decide +kernel
theorem dNames_init_94 : decode bNames_init 94 = .ok (.iload_n 1, 1) := by decide +kernel
theorem dNames_init_95 : decode bNames_init 95 = .ok (.iaload, 1) := by decide +kernel
theorem dNames_init_96 : decode bNames_init 96 = .ok (.getstatic 49, 3) := by decide +kernel
theorem dNames_init_99 : decode bNames_init 99 = .ok (.iload_n 1, 1) := by decide +kernel
theorem dNames_init_100 : decode bNames_init 100 = .ok (.iaload, 1) := by decide +kernel
theorem dNames_init_101 : decode bNames_init 101 = .ok (.iconst 0, 1) := by decide +kernel
theorem dNames_init_102 : decode bNames_init 102 = .ok (.invokevirtual 52, 3) := by decide +kernel
theorem dNames_init_105 : decode bNames_init 105 = .ok (.iinc 1 1, 3) := by decide +kernel
theorem dNames_init_108 : decode bNames_init 108 = .ok (.goto (-27), 3) := by decide +kernel
theorem dNames_init_111 : decode bNames_init 111 = .ok (.aload_n 0, 1) := by decide +kernel
theorem dNames_init_112 : decode bNames_init 112 = .ok (.getfield 30, 3) := by decide +kernel
theorem dNames_init_115 : decode bNames_init 115 = .ok (.iconst 0, 1) := by decide +kernel
theorem dNames_init_116 : decode bNames_init 116 = .ok (.aload_n 0, 1) := by decide +kernel
theorem dNames_init_117 : decode bNames_init 117 = .ok (.getfield 33, 3) := by decide +kernel
theorem dNames_init_120 : decode bNames_init 120 = .ok (.iastore, 1) := by decide +kernel
theorem dNames_init_121 : decode bNames_init 121 = .ok (.return_, 1) := by decide +kernel
theorem dNames_has_0 : decode bNames_has 0 = .ok (.iload_n 1, 1) := by decide +kernel
theorem dNames_has_1 : decode bNames_has 1 = .ok (.ifCond .lt 15, 3) := by decide +kernel
theorem dNames_has_4 : decode bNames_has 4 = .ok (.iload_n 1, 1) := by decide +kernel
theorem dNames_has_5 : decode bNames_has 5 = .ok (.aload_n 0, 1) := by decide +kernel
theorem dNames_has_6 : decode bNames_has 6 = .ok (.getfield 33, 3) := by decide +kernel
theorem dNames_has_9 : decode bNames_has 9 = .ok (.if_icmp .ge 7, 3) := by decide +kernel
theorem dNames_has_12 : decode bNames_has 12 = .ok (.iconst 1, 1) := by decide +kernel
theorem dNames_has_13 : decode bNames_has 13 = .ok (.goto 4, 3) := by decide +kernel
theorem dNames_has_16 : decode bNames_has 16 = .ok (.iconst 0, 1) := by decide +kernel
theorem dNames_has_17 : decode bNames_has 17 = .ok (.ireturn, 1) := by decide +kernel
theorem dNames_sortOf_0 : decode bNames_sortOf 0 = .ok (.aload_n 0, 1) := by decide +kernel
theorem dNames_sortOf_1 : decode bNames_sortOf 1 = .ok (.iload_n 1, 1) := by decide +kernel
theorem dNames_sortOf_2 : decode bNames_sortOf 2 = .ok (.invokevirtual 56, 3) := by decide +kernel
theorem dNames_sortOf_5 : decode bNames_sortOf 5 = .ok (.ifCond .eq 12, 3) := by decide +kernel
theorem dNames_sortOf_8 : decode bNames_sortOf 8 = .ok (.aload_n 0, 1) := by decide +kernel
theorem dNames_sortOf_9 : decode bNames_sortOf 9 = .ok (.getfield 15, 3) := by decide +kernel
theorem dNames_sortOf_12 : decode bNames_sortOf 12 = .ok (.iload_n 1, 1) := by decide +kernel
theorem dNames_sortOf_13 : decode bNames_sortOf 13 = .ok (.iaload, 1) := by decide +kernel
theorem dNames_sortOf_14 : decode bNames_sortOf 14 = .ok (.goto 4, 3) := by decide +kernel
theorem dNames_sortOf_17 : decode bNames_sortOf 17 = .ok (.iconst (-1), 1) := by decide +kernel
theorem dNames_sortOf_18 : decode bNames_sortOf 18 = .ok (.ireturn, 1) := by decide +kernel
theorem dNames_numberOf_0 : decode bNames_numberOf 0 = .ok (.aload_n 0, 1) := by decide +kernel
theorem dNames_numberOf_1 : decode bNames_numberOf 1 = .ok (.iload_n 1, 1) := by decide +kernel
theorem dNames_numberOf_2 : decode bNames_numberOf 2 = .ok (.invokevirtual 56, 3) := by decide +kernel
theorem dNames_numberOf_5 : decode bNames_numberOf 5 = .ok (.ifCond .eq 12, 3) := by decide +kernel
theorem dNames_numberOf_8 : decode bNames_numberOf 8 = .ok (.aload_n 0, 1) := by decide +kernel
theorem dNames_numberOf_9 : decode bNames_numberOf 9 = .ok (.getfield 18, 3) := by decide +kernel
theorem dNames_numberOf_12 : decode bNames_numberOf 12 = .ok (.iload_n 1, 1) := by decide +kernel
theorem dNames_numberOf_13 : decode bNames_numberOf 13 = .ok (.iaload, 1) := by decide +kernel
theorem dNames_numberOf_14 : decode bNames_numberOf 14 = .ok (.goto 4, 3) := by decide +kernel
theorem dNames_numberOf_17 : decode bNames_numberOf 17 = .ok (.iconst (-1), 1) := by decide +kernel
theorem dNames_numberOf_18 : decode bNames_numberOf 18 = .ok (.ireturn, 1) := by decide +kernel
theorem dNames_partOf_0 : decode bNames_partOf 0 = .ok (.aload_n 0, 1) := by decide +kernel
theorem dNames_partOf_1 : decode bNames_partOf 1 = .ok (.iload_n 1, 1) := by decide +kernel
theorem dNames_partOf_2 : decode bNames_partOf 2 = .ok (.invokevirtual 56, 3) := by decide +kernel
theorem dNames_partOf_5 : decode bNames_partOf 5 = .ok (.ifCond .eq 12, 3) := by decide +kernel
theorem dNames_partOf_8 : decode bNames_partOf 8 = .ok (.aload_n 0, 1) := by decide +kernel
theorem dNames_partOf_9 : decode bNames_partOf 9 = .ok (.getfield 21, 3) := by decide +kernel
theorem dNames_partOf_12 : decode bNames_partOf 12 = .ok (.iload_n 1, 1) := by decide +kernel
theorem dNames_partOf_13 : decode bNames_partOf 13 = .ok (.iaload, 1) := by decide +kernel
theorem dNames_partOf_14 : decode bNames_partOf 14 = .ok (.goto 4, 3) := by decide +kernel
theorem dNames_partOf_17 : decode bNames_partOf 17 = .ok (.iconst (-1), 1) := by decide +kernel
theorem dNames_partOf_18 : decode bNames_partOf 18 = .ok (.ireturn, 1) := by decide +kernel
theorem dNames_find_0 : decode bNames_find 0 = .ok (.aload_n 0, 1) := by decide +kernel
theorem dNames_find_1 : decode bNames_find 1 = .ok (.getfield 27, 3) := by decide +kernel
theorem dNames_find_4 : decode bNames_find 4 = .ok (.iload_n 1, 1) := by decide +kernel
theorem dNames_find_5 : decode bNames_find 5 = .ok (.sipush 255, 3) := by decide +kernel
theorem dNames_find_8 : decode bNames_find 8 = .ok (.iand, 1) := by decide +kernel
theorem dNames_find_9 : decode bNames_find 9 = .ok (.iaload, 1) := by decide +kernel
theorem dNames_find_10 : decode bNames_find 10 = .ok (.istore_n 2, 1) := by decide +kernel
theorem dNames_find_11 : decode bNames_find 11 = .ok (.iconst 0, 1) := by decide +kernel
theorem dNames_find_12 : decode bNames_find 12 = .ok (.istore_n 3, 1) := by decide +kernel
theorem dNames_find_13 : decode bNames_find 13 = .ok (.iload_n 3, 1) := by decide +kernel
theorem dNames_find_14 : decode bNames_find 14 = .ok (.aload_n 0, 1) := by decide +kernel
theorem dNames_find_15 : decode bNames_find 15 = .ok (.getfield 33, 3) := by decide +kernel
theorem dNames_find_18 : decode bNames_find 18 = .ok (.if_icmp .ge 36, 3) := by decide +kernel
theorem dNames_find_21 : decode bNames_find 21 = .ok (.aload_n 0, 1) := by decide +kernel
theorem dNames_find_22 : decode bNames_find 22 = .ok (.iload_n 2, 1) := by decide +kernel
theorem dNames_find_23 : decode bNames_find 23 = .ok (.invokevirtual 56, 3) := by decide +kernel
theorem dNames_find_26 : decode bNames_find 26 = .ok (.ifCond .eq 28, 3) := by decide +kernel
theorem dNames_find_29 : decode bNames_find 29 = .ok (.aload_n 0, 1) := by decide +kernel
theorem dNames_find_30 : decode bNames_find 30 = .ok (.getfield 9, 3) := by decide +kernel
theorem dNames_find_33 : decode bNames_find 33 = .ok (.iload_n 2, 1) := by decide +kernel
theorem dNames_find_34 : decode bNames_find 34 = .ok (.iaload, 1) := by decide +kernel
theorem dNames_find_35 : decode bNames_find 35 = .ok (.iload_n 1, 1) := by decide +kernel
theorem dNames_find_36 : decode bNames_find 36 = .ok (.if_icmp .ne 5, 3) := by decide +kernel
theorem dNames_find_39 : decode bNames_find 39 = .ok (.iload_n 2, 1) := by decide +kernel
theorem dNames_find_40 : decode bNames_find 40 = .ok (.ireturn, 1) := by decide +kernel
theorem dNames_find_41 : decode bNames_find 41 = .ok (.aload_n 0, 1) := by decide +kernel
theorem dNames_find_42 : decode bNames_find 42 = .ok (.getfield 24, 3) := by decide +kernel
theorem dNames_find_45 : decode bNames_find 45 = .ok (.iload_n 2, 1) := by decide +kernel
theorem dNames_find_46 : decode bNames_find 46 = .ok (.iaload, 1) := by decide +kernel
theorem dNames_find_47 : decode bNames_find 47 = .ok (.istore_n 2, 1) := by decide +kernel
theorem dNames_find_48 : decode bNames_find 48 = .ok (.iinc 3 1, 3) := by decide +kernel
theorem dNames_find_51 : decode bNames_find 51 = .ok (.goto (-38), 3) := by decide +kernel
theorem dNames_find_54 : decode bNames_find 54 = .ok (.iconst (-1), 1) := by decide +kernel
theorem dNames_find_55 : decode bNames_find 55 = .ok (.ireturn, 1) := by decide +kernel
theorem dNames_isTaken_0 : decode bNames_isTaken 0 = .ok (.aload_n 0, 1) := by decide +kernel
theorem dNames_isTaken_1 : decode bNames_isTaken 1 = .ok (.iload_n 1, 1) := by decide +kernel
theorem dNames_isTaken_2 : decode bNames_isTaken 2 = .ok (.invokevirtual 60, 3) := by decide +kernel
theorem dNames_isTaken_5 : decode bNames_isTaken 5 = .ok (.aload_n 0, 1) := by decide +kernel
theorem dNames_isTaken_6 : decode bNames_isTaken 6 = .ok (.getfield 30, 3) := by decide +kernel
theorem dNames_isTaken_9 : decode bNames_isTaken 9 = .ok (.aload_n 0, 1) := by decide +kernel
theorem dNames_isTaken_10 : decode bNames_isTaken 10 = .ok (.getfield 37, 3) := by decide +kernel
theorem dNames_isTaken_13 : decode bNames_isTaken 13 = .ok (.iconst 1, 1) := by decide +kernel
theorem dNames_isTaken_14 : decode bNames_isTaken 14 = .ok (.isub, 1) := by decide +kernel
theorem dNames_isTaken_15 : decode bNames_isTaken 15 = .ok (.iaload, 1) := by decide +kernel
theorem dNames_isTaken_16 : decode bNames_isTaken 16 = .ok (.if_icmp .lt 7, 3) := by decide +kernel
theorem dNames_isTaken_19 : decode bNames_isTaken 19 = .ok (.iconst 1, 1) := by decide +kernel
theorem dNames_isTaken_20 : decode bNames_isTaken 20 = .ok (.goto 4, 3) := by decide +kernel
theorem dNames_isTaken_23 : decode bNames_isTaken 23 = .ok (.iconst 0, 1) := by decide +kernel
theorem dNames_isTaken_24 : decode bNames_isTaken 24 = .ok (.ireturn, 1) := by decide +kernel
theorem dNames_haveRoom_0 : decode bNames_haveRoom 0 = .ok (.aload_n 0, 1) := by decide +kernel
theorem dNames_haveRoom_1 : decode bNames_haveRoom 1 = .ok (.getfield 33, 3) := by decide +kernel
theorem dNames_haveRoom_4 : decode bNames_haveRoom 4 = .ok (.getstatic 46, 3) := by decide +kernel
theorem dNames_haveRoom_7 : decode bNames_haveRoom 7 = .ok (.arraylength, 1) := by decide +kernel
theorem dNames_haveRoom_8 : decode bNames_haveRoom 8 = .ok (.isub, 1) := by decide +kernel
theorem dNames_haveRoom_9 : decode bNames_haveRoom 9 = .ok (.iload_n 1, 1) := by decide +kernel
theorem dNames_haveRoom_10 : decode bNames_haveRoom 10 = .ok (.iadd, 1) := by decide +kernel
theorem dNames_haveRoom_11 : decode bNames_haveRoom 11 = .ok (.sipush 3000, 3) := by decide +kernel
theorem dNames_haveRoom_14 : decode bNames_haveRoom 14 = .ok (.if_icmp .gt 7, 3) := by decide +kernel
theorem dNames_haveRoom_17 : decode bNames_haveRoom 17 = .ok (.iconst 1, 1) := by decide +kernel
theorem dNames_haveRoom_18 : decode bNames_haveRoom 18 = .ok (.goto 4, 3) := by decide +kernel
theorem dNames_haveRoom_21 : decode bNames_haveRoom 21 = .ok (.iconst 0, 1) := by decide +kernel
theorem dNames_haveRoom_22 : decode bNames_haveRoom 22 = .ok (.ireturn, 1) := by decide +kernel
theorem dNames_put_0 : decode bNames_put 0 = .ok (.aload_n 0, 1) := by decide +kernel
theorem dNames_put_1 : decode bNames_put 1 = .ok (.aload_n 0, 1) := by decide +kernel
theorem dNames_put_2 : decode bNames_put 2 = .ok (.getfield 9, 3) := by decide +kernel
theorem dNames_put_5 : decode bNames_put 5 = .ok (.aload_n 0, 1) := by decide +kernel
theorem dNames_put_6 : decode bNames_put 6 = .ok (.getfield 33, 3) := by decide +kernel
theorem dNames_put_9 : decode bNames_put 9 = .ok (.iconst 1, 1) := by decide +kernel
theorem dNames_put_10 : decode bNames_put 10 = .ok (.iadd, 1) := by decide +kernel
theorem dNames_put_11 : decode bNames_put 11 = .ok (.invokestatic 64, 3) := by decide +kernel
theorem dNames_put_14 : decode bNames_put 14 = .ok (.putfield 9, 3) := by decide +kernel
theorem dNames_put_17 : decode bNames_put 17 = .ok (.aload_n 0, 1) := by decide +kernel
theorem dNames_put_18 : decode bNames_put 18 = .ok (.aload_n 0, 1) := by decide +kernel
theorem dNames_put_19 : decode bNames_put 19 = .ok (.getfield 15, 3) := by decide +kernel
theorem dNames_put_22 : decode bNames_put 22 = .ok (.aload_n 0, 1) := by decide +kernel
theorem dNames_put_23 : decode bNames_put 23 = .ok (.getfield 33, 3) := by decide +kernel
theorem dNames_put_26 : decode bNames_put 26 = .ok (.iconst 1, 1) := by decide +kernel
theorem dNames_put_27 : decode bNames_put 27 = .ok (.iadd, 1) := by decide +kernel
theorem dNames_put_28 : decode bNames_put 28 = .ok (.invokestatic 64, 3) := by decide +kernel
theorem dNames_put_31 : decode bNames_put 31 = .ok (.putfield 15, 3) := by decide +kernel
theorem dNames_put_34 : decode bNames_put 34 = .ok (.aload_n 0, 1) := by decide +kernel
theorem dNames_put_35 : decode bNames_put 35 = .ok (.aload_n 0, 1) := by decide +kernel
theorem dNames_put_36 : decode bNames_put 36 = .ok (.getfield 18, 3) := by decide +kernel
theorem dNames_put_39 : decode bNames_put 39 = .ok (.aload_n 0, 1) := by decide +kernel
theorem dNames_put_40 : decode bNames_put 40 = .ok (.getfield 33, 3) := by decide +kernel
theorem dNames_put_43 : decode bNames_put 43 = .ok (.iconst 1, 1) := by decide +kernel
theorem dNames_put_44 : decode bNames_put 44 = .ok (.iadd, 1) := by decide +kernel
theorem dNames_put_45 : decode bNames_put 45 = .ok (.invokestatic 64, 3) := by decide +kernel
theorem dNames_put_48 : decode bNames_put 48 = .ok (.putfield 18, 3) := by decide +kernel
theorem dNames_put_51 : decode bNames_put 51 = .ok (.aload_n 0, 1) := by decide +kernel
theorem dNames_put_52 : decode bNames_put 52 = .ok (.aload_n 0, 1) := by decide +kernel
theorem dNames_put_53 : decode bNames_put 53 = .ok (.getfield 21, 3) := by decide +kernel
theorem dNames_put_56 : decode bNames_put 56 = .ok (.aload_n 0, 1) := by decide +kernel
theorem dNames_put_57 : decode bNames_put 57 = .ok (.getfield 33, 3) := by decide +kernel
theorem dNames_put_60 : decode bNames_put 60 = .ok (.iconst 1, 1) := by decide +kernel
theorem dNames_put_61 : decode bNames_put 61 = .ok (.iadd, 1) := by decide +kernel
theorem dNames_put_62 : decode bNames_put 62 = .ok (.invokestatic 64, 3) := by decide +kernel
theorem dNames_put_65 : decode bNames_put 65 = .ok (.putfield 21, 3) := by decide +kernel
theorem dNames_put_68 : decode bNames_put 68 = .ok (.aload_n 0, 1) := by decide +kernel
theorem dNames_put_69 : decode bNames_put 69 = .ok (.aload_n 0, 1) := by decide +kernel
theorem dNames_put_70 : decode bNames_put 70 = .ok (.getfield 24, 3) := by decide +kernel
theorem dNames_put_73 : decode bNames_put 73 = .ok (.aload_n 0, 1) := by decide +kernel
theorem dNames_put_74 : decode bNames_put 74 = .ok (.getfield 33, 3) := by decide +kernel
theorem dNames_put_77 : decode bNames_put 77 = .ok (.iconst 1, 1) := by decide +kernel
theorem dNames_put_78 : decode bNames_put 78 = .ok (.iadd, 1) := by decide +kernel
theorem dNames_put_79 : decode bNames_put 79 = .ok (.invokestatic 64, 3) := by decide +kernel
theorem dNames_put_82 : decode bNames_put 82 = .ok (.putfield 24, 3) := by decide +kernel
theorem dNames_put_85 : decode bNames_put 85 = .ok (.iload_n 1, 1) := by decide +kernel
theorem dNames_put_86 : decode bNames_put 86 = .ok (.sipush 255, 3) := by decide +kernel
theorem dNames_put_89 : decode bNames_put 89 = .ok (.iand, 1) := by decide +kernel
theorem dNames_put_90 : decode bNames_put 90 = .ok (.istore 5, 2) := by decide +kernel
theorem dNames_put_92 : decode bNames_put 92 = .ok (.aload_n 0, 1) := by decide +kernel
theorem dNames_put_93 : decode bNames_put 93 = .ok (.getfield 9, 3) := by decide +kernel
theorem dNames_put_96 : decode bNames_put 96 = .ok (.aload_n 0, 1) := by decide +kernel
theorem dNames_put_97 : decode bNames_put 97 = .ok (.getfield 33, 3) := by decide +kernel
theorem dNames_put_100 : decode bNames_put 100 = .ok (.iload_n 1, 1) := by decide +kernel
theorem dNames_put_101 : decode bNames_put 101 = .ok (.iastore, 1) := by decide +kernel
theorem dNames_put_102 : decode bNames_put 102 = .ok (.aload_n 0, 1) := by decide +kernel
theorem dNames_put_103 : decode bNames_put 103 = .ok (.getfield 15, 3) := by decide +kernel
theorem dNames_put_106 : decode bNames_put 106 = .ok (.aload_n 0, 1) := by decide +kernel
theorem dNames_put_107 : decode bNames_put 107 = .ok (.getfield 33, 3) := by decide +kernel
theorem dNames_put_110 : decode bNames_put 110 = .ok (.iload_n 2, 1) := by decide +kernel
theorem dNames_put_111 : decode bNames_put 111 = .ok (.iastore, 1) := by decide +kernel
theorem dNames_put_112 : decode bNames_put 112 = .ok (.aload_n 0, 1) := by decide +kernel
theorem dNames_put_113 : decode bNames_put 113 = .ok (.getfield 18, 3) := by decide +kernel
theorem dNames_put_116 : decode bNames_put 116 = .ok (.aload_n 0, 1) := by decide +kernel
theorem dNames_put_117 : decode bNames_put 117 = .ok (.getfield 33, 3) := by decide +kernel
theorem dNames_put_120 : decode bNames_put 120 = .ok (.iload_n 3, 1) := by decide +kernel
theorem dNames_put_121 : decode bNames_put 121 = .ok (.iastore, 1) := by decide +kernel
theorem dNames_put_122 : decode bNames_put 122 = .ok (.aload_n 0, 1) := by decide +kernel
theorem dNames_put_123 : decode bNames_put 123 = .ok (.getfield 21, 3) := by decide +kernel
theorem dNames_put_126 : decode bNames_put 126 = .ok (.aload_n 0, 1) := by decide +kernel
theorem dNames_put_127 : decode bNames_put 127 = .ok (.getfield 33, 3) := by decide +kernel
theorem dNames_put_130 : decode bNames_put 130 = .ok (.iload 4, 2) := by decide +kernel
theorem dNames_put_132 : decode bNames_put 132 = .ok (.iastore, 1) := by decide +kernel
theorem dNames_put_133 : decode bNames_put 133 = .ok (.aload_n 0, 1) := by decide +kernel
theorem dNames_put_134 : decode bNames_put 134 = .ok (.getfield 24, 3) := by decide +kernel
theorem dNames_put_137 : decode bNames_put 137 = .ok (.aload_n 0, 1) := by decide +kernel
theorem dNames_put_138 : decode bNames_put 138 = .ok (.getfield 33, 3) := by decide +kernel
theorem dNames_put_141 : decode bNames_put 141 = .ok (.aload_n 0, 1) := by decide +kernel
theorem dNames_put_142 : decode bNames_put 142 = .ok (.getfield 27, 3) := by decide +kernel
theorem dNames_put_145 : decode bNames_put 145 = .ok (.iload 5, 2) := by decide +kernel
theorem dNames_put_147 : decode bNames_put 147 = .ok (.iaload, 1) := by decide +kernel
theorem dNames_put_148 : decode bNames_put 148 = .ok (.iastore, 1) := by decide +kernel
theorem dNames_put_149 : decode bNames_put 149 = .ok (.aload_n 0, 1) := by decide +kernel
theorem dNames_put_150 : decode bNames_put 150 = .ok (.getfield 27, 3) := by decide +kernel
theorem dNames_put_153 : decode bNames_put 153 = .ok (.iload 5, 2) := by decide +kernel
theorem dNames_put_155 : decode bNames_put 155 = .ok (.aload_n 0, 1) := by decide +kernel
theorem dNames_put_156 : decode bNames_put 156 = .ok (.getfield 33, 3) := by decide +kernel
theorem dNames_put_159 : decode bNames_put 159 = .ok (.iastore, 1) := by decide +kernel
theorem dNames_put_160 : decode bNames_put 160 = .ok (.aload_n 0, 1) := by decide +kernel
theorem dNames_put_161 : decode bNames_put 161 = .ok (.dup, 1) := by decide +kernel
theorem dNames_put_162 : decode bNames_put 162 = .ok (.getfield 33, 3) := by decide +kernel
theorem dNames_put_165 : decode bNames_put 165 = .ok (.iconst 1, 1) := by decide +kernel
theorem dNames_put_166 : decode bNames_put 166 = .ok (.iadd, 1) := by decide +kernel
theorem dNames_put_167 : decode bNames_put 167 = .ok (.putfield 33, 3) := by decide +kernel
theorem dNames_put_170 : decode bNames_put 170 = .ok (.return_, 1) := by decide +kernel
theorem dNames_open_0 : decode bNames_open 0 = .ok (.aload_n 0, 1) := by decide +kernel
theorem dNames_open_1 : decode bNames_open 1 = .ok (.getfield 37, 3) := by decide +kernel
theorem dNames_open_4 : decode bNames_open 4 = .ok (.bipush 32, 2) := by decide +kernel
theorem dNames_open_6 : decode bNames_open 6 = .ok (.if_icmp .ge 26, 3) := by decide +kernel
theorem dNames_open_9 : decode bNames_open 9 = .ok (.aload_n 0, 1) := by decide +kernel
theorem dNames_open_10 : decode bNames_open 10 = .ok (.getfield 30, 3) := by decide +kernel
theorem dNames_open_13 : decode bNames_open 13 = .ok (.aload_n 0, 1) := by decide +kernel
theorem dNames_open_14 : decode bNames_open 14 = .ok (.getfield 37, 3) := by decide +kernel
theorem dNames_open_17 : decode bNames_open 17 = .ok (.aload_n 0, 1) := by decide +kernel
theorem dNames_open_18 : decode bNames_open 18 = .ok (.getfield 33, 3) := by decide +kernel
theorem dNames_open_21 : decode bNames_open 21 = .ok (.iastore, 1) := by decide +kernel
theorem dNames_open_22 : decode bNames_open 22 = .ok (.aload_n 0, 1) := by decide +kernel
theorem dNames_open_23 : decode bNames_open 23 = .ok (.dup, 1) := by decide +kernel
theorem dNames_open_24 : decode bNames_open 24 = .ok (.getfield 37, 3) := by decide +kernel
theorem dNames_open_27 : decode bNames_open 27 = .ok (.iconst 1, 1) := by decide +kernel
theorem dNames_open_28 : decode bNames_open 28 = .ok (.iadd, 1) := by decide +kernel
theorem dNames_open_29 : decode bNames_open 29 = .ok (.putfield 37, 3) := by decide +kernel
theorem dNames_open_32 : decode bNames_open 32 = .ok (.return_, 1) := by decide +kernel
theorem dNames_close_0 : decode bNames_close 0 = .ok (.aload_n 0, 1) := by decide +kernel
theorem dNames_close_1 : decode bNames_close 1 = .ok (.getfield 37, 3) := by decide +kernel
theorem dNames_close_4 : decode bNames_close 4 = .ok (.iconst 1, 1) := by decide +kernel
theorem dNames_close_5 : decode bNames_close 5 = .ok (.if_icmp .le 67, 3) := by decide +kernel
theorem dNames_close_8 : decode bNames_close 8 = .ok (.aload_n 0, 1) := by decide +kernel
theorem dNames_close_9 : decode bNames_close 9 = .ok (.dup, 1) := by decide +kernel
theorem dNames_close_10 : decode bNames_close 10 = .ok (.getfield 37, 3) := by decide +kernel
theorem dNames_close_13 : decode bNames_close 13 = .ok (.iconst 1, 1) := by decide +kernel
theorem dNames_close_14 : decode bNames_close 14 = .ok (.isub, 1) := by decide +kernel
theorem dNames_close_15 : decode bNames_close 15 = .ok (.putfield 37, 3) := by decide +kernel
theorem dNames_close_18 : decode bNames_close 18 = .ok (.aload_n 0, 1) := by decide +kernel
theorem dNames_close_19 : decode bNames_close 19 = .ok (.getfield 30, 3) := by decide +kernel
theorem dNames_close_22 : decode bNames_close 22 = .ok (.aload_n 0, 1) := by decide +kernel
theorem dNames_close_23 : decode bNames_close 23 = .ok (.getfield 37, 3) := by decide +kernel
theorem dNames_close_26 : decode bNames_close 26 = .ok (.iaload, 1) := by decide +kernel
theorem dNames_close_27 : decode bNames_close 27 = .ok (.istore_n 1, 1) := by decide +kernel
theorem dNames_close_28 : decode bNames_close 28 = .ok (.aload_n 0, 1) := by decide +kernel
theorem dNames_close_29 : decode bNames_close 29 = .ok (.getfield 33, 3) := by decide +kernel
theorem dNames_close_32 : decode bNames_close 32 = .ok (.iconst 1, 1) := by decide +kernel
theorem dNames_close_33 : decode bNames_close 33 = .ok (.isub, 1) := by decide +kernel
theorem dNames_close_34 : decode bNames_close 34 = .ok (.istore_n 2, 1) := by decide +kernel
theorem dNames_close_35 : decode bNames_close 35 = .ok (.iload_n 2, 1) := by decide +kernel
theorem dNames_close_36 : decode bNames_close 36 = .ok (.iload_n 1, 1) := by decide +kernel
theorem dNames_close_37 : decode bNames_close 37 = .ok (.if_icmp .lt 30, 3) := by decide +kernel
theorem dNames_close_40 : decode bNames_close 40 = .ok (.aload_n 0, 1) := by decide +kernel
theorem dNames_close_41 : decode bNames_close 41 = .ok (.getfield 27, 3) := by decide +kernel
theorem dNames_close_44 : decode bNames_close 44 = .ok (.aload_n 0, 1) := by decide +kernel
theorem dNames_close_45 : decode bNames_close 45 = .ok (.getfield 9, 3) := by decide +kernel
theorem dNames_close_48 : decode bNames_close 48 = .ok (.iload_n 2, 1) := by decide +kernel
theorem dNames_close_49 : decode bNames_close 49 = .ok (.iaload, 1) := by decide +kernel
theorem dNames_close_50 : decode bNames_close 50 = .ok (.sipush 255, 3) := by decide +kernel
theorem dNames_close_53 : decode bNames_close 53 = .ok (.iand, 1) := by decide +kernel
theorem dNames_close_54 : decode bNames_close 54 = .ok (.aload_n 0, 1) := by decide +kernel
theorem dNames_close_55 : decode bNames_close 55 = .ok (.getfield 24, 3) := by decide +kernel
theorem dNames_close_58 : decode bNames_close 58 = .ok (.iload_n 2, 1) := by decide +kernel
theorem dNames_close_59 : decode bNames_close 59 = .ok (.iaload, 1) := by decide +kernel
theorem dNames_close_60 : decode bNames_close 60 = .ok (.iastore, 1) := by decide +kernel
theorem dNames_close_61 : decode bNames_close 61 = .ok (.iinc 2 (-1), 3) := by decide +kernel
theorem dNames_close_64 : decode bNames_close 64 = .ok (.goto (-29), 3) := by decide +kernel
theorem dNames_close_67 : decode bNames_close 67 = .ok (.aload_n 0, 1) := by decide +kernel
theorem dNames_close_68 : decode bNames_close 68 = .ok (.iload_n 1, 1) := by decide +kernel
theorem dNames_close_69 : decode bNames_close 69 = .ok (.putfield 33, 3) := by decide +kernel
theorem dNames_close_72 : decode bNames_close 72 = .ok (.return_, 1) := by decide +kernel
