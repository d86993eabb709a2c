theorem dLogic_isLow_0 : decode bLogic_isLow 0 = .ok (.iload_n 0, 1) := by decide +kernel
theorem dLogic_isLow_1 : decode bLogic_isLow 1 = .ok (.iconst 2, 1) := by decide +kernel
theorem dLogic_isLow_2 : decode bLogic_isLow 2 = .ok (.if_icmp .eq 9, 3) := by decide +kernel
theorem dLogic_isLow_5 : decode bLogic_isLow 5 = .ok (.iload_n 0, 1) := by decide +kernel
theorem dLogic_isLow_6 : decode bLogic_isLow 6 = .ok (.bipush 6, 2) := by decide +kernel
theorem dLogic_isLow_8 : decode bLogic_isLow 8 = .ok (.if_icmp .ne 7, 3) := by decide +kernel
theorem dLogic_isLow_11 : decode bLogic_isLow 11 = .ok (.iconst 1, 1) := by decide +kernel
theorem dLogic_isLow_12 : decode bLogic_isLow 12 = .ok (.goto 4, 3) := by decide +kernel
theorem dLogic_isLow_15 : decode bLogic_isLow 15 = .ok (.iconst 0, 1) := by decide +kernel
theorem dLogic_isLow_16 : decode bLogic_isLow 16 = .ok (.ireturn, 1) := by decide +kernel
theorem dLogic_isHigh_0 : decode bLogic_isHigh 0 = .ok (.iload_n 0, 1) := by decide +kernel
theorem dLogic_isHigh_1 : decode bLogic_isHigh 1 = .ok (.iconst 3, 1) := by decide +kernel
theorem dLogic_isHigh_2 : decode bLogic_isHigh 2 = .ok (.if_icmp .eq 9, 3) := by decide +kernel
theorem dLogic_isHigh_5 : decode bLogic_isHigh 5 = .ok (.iload_n 0, 1) := by decide +kernel
theorem dLogic_isHigh_6 : decode bLogic_isHigh 6 = .ok (.bipush 7, 2) := by decide +kernel
theorem dLogic_isHigh_8 : decode bLogic_isHigh 8 = .ok (.if_icmp .ne 7, 3) := by decide +kernel
theorem dLogic_isHigh_11 : decode bLogic_isHigh 11 = .ok (.iconst 1, 1) := by decide +kernel
theorem dLogic_isHigh_12 : decode bLogic_isHigh 12 = .ok (.goto 4, 3) := by decide +kernel
theorem dLogic_isHigh_15 : decode bLogic_isHigh 15 = .ok (.iconst 0, 1) := by decide +kernel
theorem dLogic_isHigh_16 : decode bLogic_isHigh 16 = .ok (.ireturn, 1) := by decide +kernel
theorem dLogic_isClear_0 : decode bLogic_isClear 0 = .ok (.iload_n 0, 1) := by decide +kernel
theorem dLogic_isClear_1 : decode bLogic_isClear 1 = .ok (.iconst 2, 1) := by decide +kernel
theorem dLogic_isClear_2 : decode bLogic_isClear 2 = .ok (.if_icmp .eq 20, 3) := by decide +kernel
theorem dLogic_isClear_5 : decode bLogic_isClear 5 = .ok (.iload_n 0, 1) := by decide +kernel
theorem dLogic_isClear_6 : decode bLogic_isClear 6 = .ok (.iconst 3, 1) := by decide +kernel
theorem dLogic_isClear_7 : decode bLogic_isClear 7 = .ok (.if_icmp .eq 15, 3) := by decide +kernel
theorem dLogic_isClear_10 : decode bLogic_isClear 10 = .ok (.iload_n 0, 1) := by decide +kernel
theorem dLogic_isClear_11 : decode bLogic_isClear 11 = .ok (.bipush 6, 2) := by decide +kernel
theorem dLogic_isClear_13 : decode bLogic_isClear 13 = .ok (.if_icmp .eq 9, 3) := by decide +kernel
theorem dLogic_isClear_16 : decode bLogic_isClear 16 = .ok (.iload_n 0, 1) := by decide +kernel
theorem dLogic_isClear_17 : decode bLogic_isClear 17 = .ok (.bipush 7, 2) := by decide +kernel
theorem dLogic_isClear_19 : decode bLogic_isClear 19 = .ok (.if_icmp .ne 7, 3) := by decide +kernel
theorem dLogic_isClear_22 : decode bLogic_isClear 22 = .ok (.iconst 1, 1) := by decide +kernel
theorem dLogic_isClear_23 : decode bLogic_isClear 23 = .ok (.goto 4, 3) := by decide +kernel
theorem dLogic_isClear_26 : decode bLogic_isClear 26 = .ok (.iconst 0, 1) := by decide +kernel
theorem dLogic_isClear_27 : decode bLogic_isClear 27 = .ok (.ireturn, 1) := by decide +kernel
theorem dLogic_not_0 : decode bLogic_not 0 = .ok (.iload_n 0, 1) := by decide +kernel
theorem dLogic_not_1 : decode bLogic_not 1 = .ok (.ifCond .ne 7, 3) := by decide +kernel
theorem dLogic_not_4 : decode bLogic_not 4 = .ok (.iconst 0, 1) := by decide +kernel
theorem dLogic_not_5 : decode bLogic_not 5 = .ok (.goto 26, 3) := by decide +kernel
theorem dLogic_not_8 : decode bLogic_not 8 = .ok (.iload_n 0, 1) := by decide +kernel
theorem dLogic_not_9 : decode bLogic_not 9 = .ok (.invokestatic 9, 3) := by decide +kernel
theorem dLogic_not_12 : decode bLogic_not 12 = .ok (.ifCond .eq 7, 3) := by decide +kernel
theorem dLogic_not_15 : decode bLogic_not 15 = .ok (.iconst 3, 1) := by decide +kernel
theorem dLogic_not_16 : decode bLogic_not 16 = .ok (.goto 15, 3) := by decide +kernel
theorem dLogic_not_19 : decode bLogic_not 19 = .ok (.iload_n 0, 1) := by decide +kernel
theorem dLogic_not_20 : decode bLogic_not 20 = .ok (.invokestatic 15, 3) := by decide +kernel
theorem dLogic_not_23 : decode bLogic_not 23 = .ok (.ifCond .eq 7, 3) := by decide +kernel
theorem dLogic_not_26 : decode bLogic_not 26 = .ok (.iconst 2, 1) := by decide +kernel
theorem dLogic_not_27 : decode bLogic_not 27 = .ok (.goto 4, 3) := by decide +kernel
theorem dLogic_not_30 : decode bLogic_not 30 = .ok (.iconst 1, 1) := by decide +kernel
theorem dLogic_not_31 : decode bLogic_not 31 = .ok (.ireturn, 1) := by decide +kernel
theorem dLogic_and_0 : decode bLogic_and 0 = .ok (.iload_n 0, 1) := by decide +kernel
theorem dLogic_and_1 : decode bLogic_and 1 = .ok (.invokestatic 9, 3) := by decide +kernel
theorem dLogic_and_4 : decode bLogic_and 4 = .ok (.ifCond .ne 10, 3) := by decide +kernel
theorem dLogic_and_7 : decode bLogic_and 7 = .ok (.iload_n 1, 1) := by decide +kernel
theorem dLogic_and_8 : decode bLogic_and 8 = .ok (.invokestatic 9, 3) := by decide +kernel
theorem dLogic_and_11 : decode bLogic_and 11 = .ok (.ifCond .eq 5, 3) := by decide +kernel
theorem dLogic_and_14 : decode bLogic_and 14 = .ok (.iconst 2, 1) := by decide +kernel
theorem dLogic_and_15 : decode bLogic_and 15 = .ok (.ireturn, 1) := by decide +kernel
theorem dLogic_and_16 : decode bLogic_and 16 = .ok (.iload_n 0, 1) := by decide +kernel
theorem dLogic_and_17 : decode bLogic_and 17 = .ok (.ifCond .eq 7, 3) := by decide +kernel
theorem dLogic_and_20 : decode bLogic_and 20 = .ok (.iload_n 1, 1) := by decide +kernel
theorem dLogic_and_21 : decode bLogic_and 21 = .ok (.ifCond .ne 7, 3) := by decide +kernel
theorem dLogic_and_24 : decode bLogic_and 24 = .ok (.iconst 0, 1) := by decide +kernel
theorem dLogic_and_25 : decode bLogic_and 25 = .ok (.goto 22, 3) := by decide +kernel
theorem dLogic_and_28 : decode bLogic_and 28 = .ok (.iload_n 0, 1) := by decide +kernel
theorem dLogic_and_29 : decode bLogic_and 29 = .ok (.invokestatic 15, 3) := by decide +kernel
theorem dLogic_and_32 : decode bLogic_and 32 = .ok (.ifCond .eq 14, 3) := by decide +kernel
theorem dLogic_and_35 : decode bLogic_and 35 = .ok (.iload_n 1, 1) := by decide +kernel
theorem dLogic_and_36 : decode bLogic_and 36 = .ok (.invokestatic 15, 3) := by decide +kernel
theorem dLogic_and_39 : decode bLogic_and 39 = .ok (.ifCond .eq 7, 3) := by decide +kernel
theorem dLogic_and_42 : decode bLogic_and 42 = .ok (.iconst 3, 1) := by decide +kernel
theorem dLogic_and_43 : decode bLogic_and 43 = .ok (.goto 4, 3) := by decide +kernel
theorem dLogic_and_46 : decode bLogic_and 46 = .ok (.iconst 1, 1) := by decide +kernel
theorem dLogic_and_47 : decode bLogic_and 47 = .ok (.ireturn, 1) := by decide +kernel
theorem dLogic_or_0 : decode bLogic_or 0 = .ok (.iload_n 0, 1) := by decide +kernel
theorem dLogic_or_1 : decode bLogic_or 1 = .ok (.invokestatic 15, 3) := by decide +kernel
theorem dLogic_or_4 : decode bLogic_or 4 = .ok (.ifCond .ne 10, 3) := by decide +kernel
theorem dLogic_or_7 : decode bLogic_or 7 = .ok (.iload_n 1, 1) := by decide +kernel
theorem dLogic_or_8 : decode bLogic_or 8 = .ok (.invokestatic 15, 3) := by decide +kernel
theorem dLogic_or_11 : decode bLogic_or 11 = .ok (.ifCond .eq 5, 3) := by decide +kernel
theorem dLogic_or_14 : decode bLogic_or 14 = .ok (.iconst 3, 1) := by decide +kernel
theorem dLogic_or_15 : decode bLogic_or 15 = .ok (.ireturn, 1) := by decide +kernel
theorem dLogic_or_16 : decode bLogic_or 16 = .ok (.iload_n 0, 1) := by decide +kernel
theorem dLogic_or_17 : decode bLogic_or 17 = .ok (.ifCond .eq 7, 3) := by decide +kernel
theorem dLogic_or_20 : decode bLogic_or 20 = .ok (.iload_n 1, 1) := by decide +kernel
theorem dLogic_or_21 : decode bLogic_or 21 = .ok (.ifCond .ne 7, 3) := by decide +kernel
theorem dLogic_or_24 : decode bLogic_or 24 = .ok (.iconst 0, 1) := by decide +kernel
theorem dLogic_or_25 : decode bLogic_or 25 = .ok (.goto 22, 3) := by decide +kernel
theorem dLogic_or_28 : decode bLogic_or 28 = .ok (.iload_n 0, 1) := by decide +kernel
theorem dLogic_or_29 : decode bLogic_or 29 = .ok (.invokestatic 9, 3) := by decide +kernel
theorem dLogic_or_32 : decode bLogic_or 32 = .ok (.ifCond .eq 14, 3) := by decide +kernel
theorem dLogic_or_35 : decode bLogic_or 35 = .ok (.iload_n 1, 1) := by decide +kernel
theorem dLogic_or_36 : decode bLogic_or 36 = .ok (.invokestatic 9, 3) := by decide +kernel
theorem dLogic_or_39 : decode bLogic_or 39 = .ok (.ifCond .eq 7, 3) := by decide +kernel
theorem dLogic_or_42 : decode bLogic_or 42 = .ok (.iconst 2, 1) := by decide +kernel
theorem dLogic_or_43 : decode bLogic_or 43 = .ok (.goto 4, 3) := by decide +kernel
theorem dLogic_or_46 : decode bLogic_or 46 = .ok (.iconst 1, 1) := by decide +kernel
theorem dLogic_or_47 : decode bLogic_or 47 = .ok (.ireturn, 1) := by decide +kernel
theorem dLogic_other_0 : decode bLogic_other 0 = .ok (.iload_n 0, 1) := by decide +kernel
theorem dLogic_other_1 : decode bLogic_other 1 = .ok (.ifCond .eq 7, 3) := by decide +kernel
theorem dLogic_other_4 : decode bLogic_other 4 = .ok (.iload_n 1, 1) := by decide +kernel
theorem dLogic_other_5 : decode bLogic_other 5 = .ok (.ifCond .ne 5, 3) := by decide +kernel
theorem dLogic_other_8 : decode bLogic_other 8 = .ok (.iconst 0, 1) := by decide +kernel
theorem dLogic_other_9 : decode bLogic_other 9 = .ok (.ireturn, 1) := by decide +kernel
theorem dLogic_other_10 : decode bLogic_other 10 = .ok (.iload_n 0, 1) := by decide +kernel
theorem dLogic_other_11 : decode bLogic_other 11 = .ok (.invokestatic 18, 3) := by decide +kernel
theorem dLogic_other_14 : decode bLogic_other 14 = .ok (.ifCond .eq 10, 3) := by decide +kernel
theorem dLogic_other_17 : decode bLogic_other 17 = .ok (.iload_n 1, 1) := by decide +kernel
theorem dLogic_other_18 : decode bLogic_other 18 = .ok (.invokestatic 18, 3) := by decide +kernel
theorem dLogic_other_21 : decode bLogic_other 21 = .ok (.ifCond .ne 7, 3) := by decide +kernel
theorem dLogic_other_24 : decode bLogic_other 24 = .ok (.iconst 1, 1) := by decide +kernel
theorem dLogic_other_25 : decode bLogic_other 25 = .ok (.goto 19, 3) := by decide +kernel
theorem dLogic_other_28 : decode bLogic_other 28 = .ok (.iload_n 0, 1) := by decide +kernel
theorem dLogic_other_29 : decode bLogic_other 29 = .ok (.invokestatic 15, 3) := by decide +kernel
theorem dLogic_other_32 : decode bLogic_other 32 = .ok (.iload_n 1, 1) := by decide +kernel
theorem dLogic_other_33 : decode bLogic_other 33 = .ok (.invokestatic 15, 3) := by decide +kernel
theorem dLogic_other_36 : decode bLogic_other 36 = .ok (.if_icmp .eq 7, 3) := by decide +kernel
theorem dLogic_other_39 : decode bLogic_other 39 = .ok (.iconst 3, 1) := by decide +kernel
theorem dLogic_other_40 : decode bLogic_other 40 = .ok (.goto 4, 3) := by decide +kernel
theorem dLogic_other_43 : decode bLogic_other 43 = .ok (.iconst 2, 1) := by decide +kernel
theorem dLogic_other_44 : decode bLogic_other 44 = .ok (.ireturn, 1) := by decide +kernel
theorem dLogic_ofSigns_0 : decode bLogic_ofSigns 0 = .ok (.iload_n 0, 1) := by decide +kernel
theorem dLogic_ofSigns_1 : decode bLogic_ofSigns 1 = .ok (.tableswitch 71 0 4 #[35, 41, 47, 56, 65], 35) := by decide +kernel
theorem dLogic_ofSigns_36 : decode bLogic_ofSigns 36 = .ok (.iload_n 1, 1) := by decide +kernel
theorem dLogic_ofSigns_37 : decode bLogic_ofSigns 37 = .ok (.iload_n 2, 1) := by decide +kernel
theorem dLogic_ofSigns_38 : decode bLogic_ofSigns 38 = .ok (.invokestatic 21, 3) := by decide +kernel
theorem dLogic_ofSigns_41 : decode bLogic_ofSigns 41 = .ok (.ireturn, 1) := by decide +kernel
theorem dLogic_ofSigns_42 : decode bLogic_ofSigns 42 = .ok (.iload_n 1, 1) := by decide +kernel
theorem dLogic_ofSigns_43 : decode bLogic_ofSigns 43 = .ok (.iload_n 2, 1) := by decide +kernel
theorem dLogic_ofSigns_44 : decode bLogic_ofSigns 44 = .ok (.invokestatic 25, 3) := by decide +kernel
theorem dLogic_ofSigns_47 : decode bLogic_ofSigns 47 = .ok (.ireturn, 1) := by decide +kernel
theorem dLogic_ofSigns_48 : decode bLogic_ofSigns 48 = .ok (.iload_n 1, 1) := by decide +kernel
theorem dLogic_ofSigns_49 : decode bLogic_ofSigns 49 = .ok (.iload_n 2, 1) := by decide +kernel
theorem dLogic_ofSigns_50 : decode bLogic_ofSigns 50 = .ok (.invokestatic 21, 3) := by decide +kernel
theorem dLogic_ofSigns_53 : decode bLogic_ofSigns 53 = .ok (.invokestatic 28, 3) := by decide +kernel
theorem dLogic_ofSigns_56 : decode bLogic_ofSigns 56 = .ok (.ireturn, 1) := by decide +kernel
theorem dLogic_ofSigns_57 : decode bLogic_ofSigns 57 = .ok (.iload_n 1, 1) := by decide +kernel
theorem dLogic_ofSigns_58 : decode bLogic_ofSigns 58 = .ok (.iload_n 2, 1) := by decide +kernel
theorem dLogic_ofSigns_59 : decode bLogic_ofSigns 59 = .ok (.invokestatic 25, 3) := by decide +kernel
theorem dLogic_ofSigns_62 : decode bLogic_ofSigns 62 = .ok (.invokestatic 28, 3) := by decide +kernel
theorem dLogic_ofSigns_65 : decode bLogic_ofSigns 65 = .ok (.ireturn, 1) := by decide +kernel
theorem dLogic_ofSigns_66 : decode bLogic_ofSigns 66 = .ok (.iload_n 1, 1) := by decide +kernel
theorem dLogic_ofSigns_67 : decode bLogic_ofSigns 67 = .ok (.iload_n 2, 1) := by decide +kernel
theorem dLogic_ofSigns_68 : decode bLogic_ofSigns 68 = .ok (.invokestatic 32, 3) := by decide +kernel
theorem dLogic_ofSigns_71 : decode bLogic_ofSigns 71 = .ok (.ireturn, 1) := by decide +kernel
theorem dLogic_ofSigns_72 : decode bLogic_ofSigns 72 = .ok (.iload_n 1, 1) := by decide +kernel
theorem dLogic_ofSigns_73 : decode bLogic_ofSigns 73 = .ok (.iload_n 2, 1) := by decide +kernel
theorem dLogic_ofSigns_74 : decode bLogic_ofSigns 74 = .ok (.invokestatic 32, 3) := by decide +kernel
theorem dLogic_ofSigns_77 : decode bLogic_ofSigns 77 = .ok (.invokestatic 28, 3) := by decide +kernel
theorem dLogic_ofSigns_80 : decode bLogic_ofSigns 80 = .ok (.ireturn, 1) := by decide +kernel
theorem dLogic_ofTruths_0 : decode bLogic_ofTruths 0 = .ok (.iload_n 0, 1) := by decide +kernel
theorem dLogic_ofTruths_1 : decode bLogic_ofTruths 1 = .ok (.tableswitch 102 0 4 #[35, 49, 63, 77, 91], 35) := by decide +kernel
theorem dLogic_ofTruths_36 : decode bLogic_ofTruths 36 = .ok (.iload_n 1, 1) := by decide +kernel
theorem dLogic_ofTruths_37 : decode bLogic_ofTruths 37 = .ok (.ifCond .eq 11, 3) := by decide +kernel
theorem dLogic_ofTruths_40 : decode bLogic_ofTruths 40 = .ok (.iload_n 2, 1) := by decide +kernel
theorem dLogic_ofTruths_41 : decode bLogic_ofTruths 41 = .ok (.ifCond .eq 7, 3) := by decide +kernel
theorem dLogic_ofTruths_44 : decode bLogic_ofTruths 44 = .ok (.iconst 1, 1) := by decide +kernel
theorem dLogic_ofTruths_45 : decode bLogic_ofTruths 45 = .ok (.goto 4, 3) := by decide +kernel
theorem dLogic_ofTruths_48 : decode bLogic_ofTruths 48 = .ok (.iconst 0, 1) := by decide +kernel
theorem dLogic_ofTruths_49 : decode bLogic_ofTruths 49 = .ok (.ireturn, 1) := by decide +kernel
theorem dLogic_ofTruths_50 : decode bLogic_ofTruths 50 = .ok (.iload_n 1, 1) := by decide +kernel
theorem dLogic_ofTruths_51 : decode bLogic_ofTruths 51 = .ok (.ifCond .ne 7, 3) := by decide +kernel
theorem dLogic_ofTruths_54 : decode bLogic_ofTruths 54 = .ok (.iload_n 2, 1) := by decide +kernel
theorem dLogic_ofTruths_55 : decode bLogic_ofTruths 55 = .ok (.ifCond .eq 7, 3) := by decide +kernel
theorem dLogic_ofTruths_58 : decode bLogic_ofTruths 58 = .ok (.iconst 1, 1) := by decide +kernel
theorem dLogic_ofTruths_59 : decode bLogic_ofTruths 59 = .ok (.goto 4, 3) := by decide +kernel
theorem dLogic_ofTruths_62 : decode bLogic_ofTruths 62 = .ok (.iconst 0, 1) := by decide +kernel
theorem dLogic_ofTruths_63 : decode bLogic_ofTruths 63 = .ok (.ireturn, 1) := by decide +kernel
theorem dLogic_ofTruths_64 : decode bLogic_ofTruths 64 = .ok (.iload_n 1, 1) := by decide +kernel
theorem dLogic_ofTruths_65 : decode bLogic_ofTruths 65 = .ok (.ifCond .eq 7, 3) := by decide +kernel
theorem dLogic_ofTruths_68 : decode bLogic_ofTruths 68 = .ok (.iload_n 2, 1) := by decide +kernel
theorem dLogic_ofTruths_69 : decode bLogic_ofTruths 69 = .ok (.ifCond .ne 7, 3) := by decide +kernel
theorem dLogic_ofTruths_72 : decode bLogic_ofTruths 72 = .ok (.iconst 1, 1) := by decide +kernel
theorem dLogic_ofTruths_73 : decode bLogic_ofTruths 73 = .ok (.goto 4, 3) := by decide +kernel
theorem dLogic_ofTruths_76 : decode bLogic_ofTruths 76 = .ok (.iconst 0, 1) := by decide +kernel
theorem dLogic_ofTruths_77 : decode bLogic_ofTruths 77 = .ok (.ireturn, 1) := by decide +kernel
theorem dLogic_ofTruths_78 : decode bLogic_ofTruths 78 = .ok (.iload_n 1, 1) := by decide +kernel
theorem dLogic_ofTruths_79 : decode bLogic_ofTruths 79 = .ok (.ifCond .ne 11, 3) := by decide +kernel
theorem dLogic_ofTruths_82 : decode bLogic_ofTruths 82 = .ok (.iload_n 2, 1) := by decide +kernel
theorem dLogic_ofTruths_83 : decode bLogic_ofTruths 83 = .ok (.ifCond .ne 7, 3) := by decide +kernel
theorem dLogic_ofTruths_86 : decode bLogic_ofTruths 86 = .ok (.iconst 1, 1) := by decide +kernel
theorem dLogic_ofTruths_87 : decode bLogic_ofTruths 87 = .ok (.goto 4, 3) := by decide +kernel
theorem dLogic_ofTruths_90 : decode bLogic_ofTruths 90 = .ok (.iconst 0, 1) := by decide +kernel
theorem dLogic_ofTruths_91 : decode bLogic_ofTruths 91 = .ok (.ireturn, 1) := by decide +kernel
theorem dLogic_ofTruths_92 : decode bLogic_ofTruths 92 = .ok (.iload_n 1, 1) := by decide +kernel
theorem dLogic_ofTruths_93 : decode bLogic_ofTruths 93 = .ok (.iload_n 2, 1) := by decide +kernel
theorem dLogic_ofTruths_94 : decode bLogic_ofTruths 94 = .ok (.if_icmp .eq 7, 3) := by decide +kernel
theorem dLogic_ofTruths_97 : decode bLogic_ofTruths 97 = .ok (.iconst 1, 1) := by decide +kernel
theorem dLogic_ofTruths_98 : decode bLogic_ofTruths 98 = .ok (.goto 4, 3) := by decide +kernel
theorem dLogic_ofTruths_101 : decode bLogic_ofTruths 101 = .ok (.iconst 0, 1) := by decide +kernel
theorem dLogic_ofTruths_102 : decode bLogic_ofTruths 102 = .ok (.ireturn, 1) := by decide +kernel
theorem dLogic_ofTruths_103 : decode bLogic_ofTruths 103 = .ok (.iload_n 1, 1) := by decide +kernel
theorem dLogic_ofTruths_104 : decode bLogic_ofTruths 104 = .ok (.iload_n 2, 1) := by decide +kernel
theorem dLogic_ofTruths_105 : decode bLogic_ofTruths 105 = .ok (.if_icmp .ne 7, 3) := by decide +kernel
theorem dLogic_ofTruths_108 : decode bLogic_ofTruths 108 = .ok (.iconst 1, 1) := by decide +kernel
theorem dLogic_ofTruths_109 : decode bLogic_ofTruths 109 = .ok (.goto 4, 3) := by decide +kernel
theorem dLogic_ofTruths_112 : decode bLogic_ofTruths 112 = .ok (.iconst 0, 1) := by decide +kernel
theorem dLogic_ofTruths_113 : decode bLogic_ofTruths 113 = .ok (.ireturn, 1) := by decide +kernel
