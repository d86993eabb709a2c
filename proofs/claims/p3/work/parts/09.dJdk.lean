theorem djInteger_compare_0 : decode bjInteger_compare 0 = .ok (.iload_n 0, 1) := by decide +kernel
theorem djInteger_compare_1 : decode bjInteger_compare 1 = .ok (.iload_n 1, 1) := by decide +kernel
theorem djInteger_compare_2 : decode bjInteger_compare 2 = .ok (.if_icmp .ge 7, 3) := by decide +kernel
theorem djInteger_compare_5 : decode bjInteger_compare 5 = .ok (.iconst (-1), 1) := by decide +kernel
theorem djInteger_compare_6 : decode bjInteger_compare 6 = .ok (.goto 13, 3) := by decide +kernel
theorem djInteger_compare_9 : decode bjInteger_compare 9 = .ok (.iload_n 0, 1) := by decide +kernel
theorem djInteger_compare_10 : decode bjInteger_compare 10 = .ok (.iload_n 1, 1) := by decide +kernel
theorem djInteger_compare_11 : decode bjInteger_compare 11 = .ok (.if_icmp .ne 7, 3) := by decide +kernel
theorem djInteger_compare_14 : decode bjInteger_compare 14 = .ok (.iconst 0, 1) := by decide +kernel
theorem djInteger_compare_15 : decode bjInteger_compare 15 = .ok (.goto 4, 3) := by decide +kernel
theorem djInteger_compare_18 : decode bjInteger_compare 18 = .ok (.iconst 1, 1) := by decide +kernel
theorem djInteger_compare_19 : decode bjInteger_compare 19 = .ok (.ireturn, 1) := by decide +kernel
theorem djLong_compare_0 : decode bjLong_compare 0 = .ok (.lload_n 0, 1) := by decide +kernel
theorem djLong_compare_1 : decode bjLong_compare 1 = .ok (.lload_n 2, 1) := by decide +kernel
theorem djLong_compare_2 : decode bjLong_compare 2 = .ok (.lcmp, 1) := by decide +kernel
theorem djLong_compare_3 : decode bjLong_compare 3 = .ok (.ifCond .ge 7, 3) := by decide +kernel
theorem djLong_compare_6 : decode bjLong_compare 6 = .ok (.iconst (-1), 1) := by decide +kernel
theorem djLong_compare_7 : decode bjLong_compare 7 = .ok (.goto 14, 3) := by decide +kernel
theorem djLong_compare_10 : decode bjLong_compare 10 = .ok (.lload_n 0, 1) := by decide +kernel
theorem djLong_compare_11 : decode bjLong_compare 11 = .ok (.lload_n 2, 1) := by decide +kernel
theorem djLong_compare_12 : decode bjLong_compare 12 = .ok (.lcmp, 1) := by decide +kernel
theorem djLong_compare_13 : decode bjLong_compare 13 = .ok (.ifCond .ne 7, 3) := by decide +kernel
theorem djLong_compare_16 : decode bjLong_compare 16 = .ok (.iconst 0, 1) := by decide +kernel
theorem djLong_compare_17 : decode bjLong_compare 17 = .ok (.goto 4, 3) := by decide +kernel
theorem djLong_compare_20 : decode bjLong_compare 20 = .ok (.iconst 1, 1) := by decide +kernel
theorem djLong_compare_21 : decode bjLong_compare 21 = .ok (.ireturn, 1) := by decide +kernel
theorem djMath_floorMod_0 : decode bjMath_floorMod 0 = .ok (.lload_n 0, 1) := by decide +kernel
theorem djMath_floorMod_1 : decode bjMath_floorMod 1 = .ok (.lload_n 2, 1) := by decide +kernel
theorem djMath_floorMod_2 : decode bjMath_floorMod 2 = .ok (.lrem, 1) := by decide +kernel
theorem djMath_floorMod_3 : decode bjMath_floorMod 3 = .ok (.lstore 4, 2) := by decide +kernel
theorem djMath_floorMod_5 : decode bjMath_floorMod 5 = .ok (.lload_n 0, 1) := by decide +kernel
theorem djMath_floorMod_6 : decode bjMath_floorMod 6 = .ok (.lload_n 2, 1) := by decide +kernel
theorem djMath_floorMod_7 : decode bjMath_floorMod 7 = .ok (.lxor, 1) := by decide +kernel
theorem djMath_floorMod_8 : decode bjMath_floorMod 8 = .ok (.lconst 0, 1) := by decide +kernel
theorem djMath_floorMod_9 : decode bjMath_floorMod 9 = .ok (.lcmp, 1) := by decide +kernel
theorem djMath_floorMod_10 : decode bjMath_floorMod 10 = .ok (.ifCond .ge 15, 3) := by decide +kernel
theorem djMath_floorMod_13 : decode bjMath_floorMod 13 = .ok (.lload 4, 2) := by decide +kernel
theorem djMath_floorMod_15 : decode bjMath_floorMod 15 = .ok (.lconst 0, 1) := by decide +kernel
theorem djMath_floorMod_16 : decode bjMath_floorMod 16 = .ok (.lcmp, 1) := by decide +kernel
theorem djMath_floorMod_17 : decode bjMath_floorMod 17 = .ok (.ifCond .eq 8, 3) := by decide +kernel
theorem djMath_floorMod_20 : decode bjMath_floorMod 20 = .ok (.lload 4, 2) := by decide +kernel
theorem djMath_floorMod_22 : decode bjMath_floorMod 22 = .ok (.lload_n 2, 1) := by decide +kernel
theorem djMath_floorMod_23 : decode bjMath_floorMod 23 = .ok (.ladd, 1) := by decide +kernel
theorem djMath_floorMod_24 : decode bjMath_floorMod 24 = .ok (.lreturn, 1) := by decide +kernel
theorem djMath_floorMod_25 : decode bjMath_floorMod 25 = .ok (.lload 4, 2) := by decide +kernel
theorem djMath_floorMod_27 : decode bjMath_floorMod 27 = .ok (.lreturn, 1) := by decide +kernel
theorem djArrays_copyOf_0 : decode bjArrays_copyOf 0 = .ok (.iload_n 1, 1) := by decide +kernel
theorem djArrays_copyOf_1 : decode bjArrays_copyOf 1 = .ok (.aload_n 0, 1) := by decide +kernel
theorem djArrays_copyOf_2 : decode bjArrays_copyOf 2 = .ok (.arraylength, 1) := by decide +kernel
theorem djArrays_copyOf_3 : decode bjArrays_copyOf 3 = .ok (.if_icmp .ne 11, 3) := by decide +kernel
theorem djArrays_copyOf_6 : decode bjArrays_copyOf 6 = .ok (.aload_n 0, 1) := by decide +kernel
theorem djArrays_copyOf_7 : decode bjArrays_copyOf 7 = .ok (.invokevirtual 316, 3) := by decide +kernel
theorem djArrays_copyOf_10 : decode bjArrays_copyOf 10 = .ok (.checkcast 317, 3) := by decide +kernel
theorem djArrays_copyOf_13 : decode bjArrays_copyOf 13 = .ok (.areturn, 1) := by decide +kernel
theorem djArrays_copyOf_14 : decode bjArrays_copyOf 14 = .ok (.iload_n 1, 1) := by decide +kernel
theorem djArrays_copyOf_15 : decode bjArrays_copyOf 15 = .ok (.newarray .int, 2) := by decide +kernel
theorem djArrays_copyOf_17 : decode bjArrays_copyOf 17 = .ok (.astore_n 2, 1) := by decide +kernel
theorem djArrays_copyOf_18 : decode bjArrays_copyOf 18 = .ok (.aload_n 0, 1) := by decide +kernel
theorem djArrays_copyOf_19 : decode bjArrays_copyOf 19 = .ok (.iconst 0, 1) := by decide +kernel
theorem djArrays_copyOf_20 : decode bjArrays_copyOf 20 = .ok (.aload_n 2, 1) := by decide +kernel
theorem djArrays_copyOf_21 : decode bjArrays_copyOf 21 = .ok (.iconst 0, 1) := by decide +kernel
theorem djArrays_copyOf_22 : decode bjArrays_copyOf 22 = .ok (.aload_n 0, 1) := by decide +kernel
theorem djArrays_copyOf_23 : decode bjArrays_copyOf 23 = .ok (.arraylength, 1) := by decide +kernel
theorem djArrays_copyOf_24 : decode bjArrays_copyOf 24 = .ok (.iload_n 1, 1) := by decide +kernel
theorem djArrays_copyOf_25 : decode bjArrays_copyOf 25 = .ok (.invokestatic 304, 3) := by decide +kernel
theorem djArrays_copyOf_28 : decode bjArrays_copyOf 28 = .ok (.invokestatic 150, 3) := by decide +kernel
theorem djArrays_copyOf_31 : decode bjArrays_copyOf 31 = .ok (.aload_n 2, 1) := by decide +kernel
theorem djArrays_copyOf_32 : decode bjArrays_copyOf 32 = .ok (.areturn, 1) := by decide +kernel
theorem djArrays_copyOfL_0 : decode bjArrays_copyOfL 0 = .ok (.iload_n 1, 1) := by decide +kernel
theorem djArrays_copyOfL_1 : decode bjArrays_copyOfL 1 = .ok (.aload_n 0, 1) := by decide +kernel
theorem djArrays_copyOfL_2 : decode bjArrays_copyOfL 2 = .ok (.arraylength, 1) := by decide +kernel
theorem djArrays_copyOfL_3 : decode bjArrays_copyOfL 3 = .ok (.if_icmp .ne 11, 3) := by decide +kernel
theorem djArrays_copyOfL_6 : decode bjArrays_copyOfL 6 = .ok (.aload_n 0, 1) := by decide +kernel
theorem djArrays_copyOfL_7 : decode bjArrays_copyOfL 7 = .ok (.invokevirtual 319, 3) := by decide +kernel
theorem djArrays_copyOfL_10 : decode bjArrays_copyOfL 10 = .ok (.checkcast 320, 3) := by decide +kernel
theorem djArrays_copyOfL_13 : decode bjArrays_copyOfL 13 = .ok (.areturn, 1) := by decide +kernel
theorem djArrays_copyOfL_14 : decode bjArrays_copyOfL 14 = .ok (.iload_n 1, 1) := by decide +kernel
theorem djArrays_copyOfL_15 : decode bjArrays_copyOfL 15 = .ok (.newarray .long, 2) := by decide +kernel
theorem djArrays_copyOfL_17 : decode bjArrays_copyOfL 17 = .ok (.astore_n 2, 1) := by decide +kernel
theorem djArrays_copyOfL_18 : decode bjArrays_copyOfL 18 = .ok (.aload_n 0, 1) := by decide +kernel
theorem djArrays_copyOfL_19 : decode bjArrays_copyOfL 19 = .ok (.iconst 0, 1) := by decide +kernel
theorem djArrays_copyOfL_20 : decode bjArrays_copyOfL 20 = .ok (.aload_n 2, 1) := by decide +kernel
theorem djArrays_copyOfL_21 : decode bjArrays_copyOfL 21 = .ok (.iconst 0, 1) := by decide +kernel
theorem djArrays_copyOfL_22 : decode bjArrays_copyOfL 22 = .ok (.aload_n 0, 1) := by decide +kernel
theorem djArrays_copyOfL_23 : decode bjArrays_copyOfL 23 = .ok (.arraylength, 1) := by decide +kernel
theorem djArrays_copyOfL_24 : decode bjArrays_copyOfL 24 = .ok (.iload_n 1, 1) := by decide +kernel
theorem djArrays_copyOfL_25 : decode bjArrays_copyOfL 25 = .ok (.invokestatic 304, 3) := by decide +kernel
theorem djArrays_copyOfL_28 : decode bjArrays_copyOfL 28 = .ok (.invokestatic 150, 3) := by decide +kernel
theorem djArrays_copyOfL_31 : decode bjArrays_copyOfL 31 = .ok (.aload_n 2, 1) := by decide +kernel
theorem djArrays_copyOfL_32 : decode bjArrays_copyOfL 32 = .ok (.areturn, 1) := by decide +kernel
theorem djArrays_fill_0 : decode bjArrays_fill 0 = .ok (.iconst 0, 1) := by decide +kernel
theorem djArrays_fill_1 : decode bjArrays_fill 1 = .ok (.istore_n 2, 1) := by decide +kernel
theorem djArrays_fill_2 : decode bjArrays_fill 2 = .ok (.aload_n 0, 1) := by decide +kernel
theorem djArrays_fill_3 : decode bjArrays_fill 3 = .ok (.arraylength, 1) := by decide +kernel
theorem djArrays_fill_4 : decode bjArrays_fill 4 = .ok (.istore_n 3, 1) := by decide +kernel
theorem djArrays_fill_5 : decode bjArrays_fill 5 = .ok (.iload_n 2, 1) := by decide +kernel
theorem djArrays_fill_6 : decode bjArrays_fill 6 = .ok (.iload_n 3, 1) := by decide +kernel
theorem djArrays_fill_7 : decode bjArrays_fill 7 = .ok (.if_icmp .ge 13, 3) := by decide +kernel
theorem djArrays_fill_10 : decode bjArrays_fill 10 = .ok (.aload_n 0, 1) := by decide +kernel
theorem djArrays_fill_11 : decode bjArrays_fill 11 = .ok (.iload_n 2, 1) := by decide +kernel
theorem djArrays_fill_12 : decode bjArrays_fill 12 = .ok (.iload_n 1, 1) := by decide +kernel
theorem djArrays_fill_13 : decode bjArrays_fill 13 = .ok (.iastore, 1) := by decide +kernel
theorem djArrays_fill_14 : decode bjArrays_fill 14 = .ok (.iinc 2 1, 3) := by decide +kernel
theorem djArrays_fill_17 : decode bjArrays_fill 17 = .ok (.goto (-12), 3) := by decide +kernel
theorem djArrays_fill_20 : decode bjArrays_fill 20 = .ok (.return_, 1) := by decide +kernel
