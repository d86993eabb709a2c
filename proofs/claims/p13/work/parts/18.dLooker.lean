theorem dLooker_init_0 : decode bLooker_init 0 = .ok (.aload_n 0, 1) := by decide +kernel
theorem dLooker_init_1 : decode bLooker_init 1 = .ok (.invokespecial 3, 3) := by decide +kernel
theorem dLooker_init_4 : decode bLooker_init 4 = .ok (.aload_n 0, 1) := by decide +kernel
theorem dLooker_init_5 : decode bLooker_init 5 = .ok (.new 9, 3) := by decide +kernel
theorem dLooker_init_8 : decode bLooker_init 8 = .ok (.dup, 1) := by decide +kernel
theorem dLooker_init_9 : decode bLooker_init 9 = .ok (.invokespecial 11, 3) := by decide +kernel
theorem dLooker_init_12 : decode bLooker_init 12 = .ok (.putfield 12, 3) := by decide +kernel
theorem dLooker_init_15 : decode bLooker_init 15 = .ok (.aload_n 0, 1) := by decide +kernel
theorem dLooker_init_16 : decode bLooker_init 16 = .ok (.new 18, 3) := by decide +kernel
theorem dLooker_init_19 : decode bLooker_init 19 = .ok (.dup, 1) := by decide +kernel
theorem dLooker_init_20 : decode bLooker_init 20 = .ok (.aload_n 0, 1) := by decide +kernel
theorem dLooker_init_21 : decode bLooker_init 21 = .ok (.getfield 12, 3) := by decide +kernel
theorem dLooker_init_24 : decode bLooker_init 24 = .ok (.invokespecial 20, 3) := by decide +kernel
theorem dLooker_init_27 : decode bLooker_init 27 = .ok (.putfield 23, 3) := by decide +kernel
theorem dLooker_init_30 : decode bLooker_init 30 = .ok (.aload_n 0, 1) := by decide +kernel
theorem dLooker_init_31 : decode bLooker_init 31 = .ok (.bipush 64, 2) := by decide +kernel
theorem dLooker_init_33 : decode bLooker_init 33 = .ok (.newarray .int, 2) := by decide +kernel
theorem dLooker_init_35 : decode bLooker_init 35 = .ok (.putfield 27, 3) := by decide +kernel
theorem dLooker_init_38 : decode bLooker_init 38 = .ok (.aload_n 0, 1) := by decide +kernel
theorem dLooker_init_39 : decode bLooker_init 39 = .ok (.iconst (-1), 1) := by decide +kernel
theorem dLooker_init_40 : decode bLooker_init 40 = .ok (.putfield 31, 3) := by decide +kernel
theorem dLooker_init_43 : decode bLooker_init 43 = .ok (.aload_n 0, 1) := by decide +kernel
theorem dLooker_init_44 : decode bLooker_init 44 = .ok (.aload_n 1, 1) := by decide +kernel
theorem dLooker_init_45 : decode bLooker_init 45 = .ok (.putfield 35, 3) := by decide +kernel
theorem dLooker_init_48 : decode bLooker_init 48 = .ok (.aload_n 0, 1) := by decide +kernel
theorem dLooker_init_49 : decode bLooker_init 49 = .ok (.aload_n 2, 1) := by decide +kernel
theorem dLooker_init_50 : decode bLooker_init 50 = .ok (.putfield 39, 3) := by decide +kernel
theorem dLooker_init_53 : decode bLooker_init 53 = .ok (.aload_n 0, 1) := by decide +kernel
theorem dLooker_init_54 : decode bLooker_init 54 = .ok (.aload_n 3, 1) := by decide +kernel
theorem dLooker_init_55 : decode bLooker_init 55 = .ok (.putfield 43, 3) := by decide +kernel
theorem dLooker_init_58 : decode bLooker_init 58 = .ok (.aload_n 0, 1) := by decide +kernel
theorem dLooker_init_59 : decode bLooker_init 59 = .ok (.new 47, 3) := by decide +kernel
theorem dLooker_init_62 : decode bLooker_init 62 = .ok (.dup, 1) := by decide +kernel
theorem dLooker_init_63 : decode bLooker_init 63 = .ok (.aload_n 1, 1) := by decide +kernel
theorem dLooker_init_64 : decode bLooker_init 64 = .ok (.aload_n 2, 1) := by decide +kernel
theorem dLooker_init_65 : decode bLooker_init 65 = .ok (.aload_n 3, 1) := by decide +kernel
theorem dLooker_init_66 : decode bLooker_init 66 = .ok (.aload 4, 2) := by decide +kernel
theorem dLooker_init_68 : decode bLooker_init 68 = .ok (.aload_n 0, 1) := by decide +kernel
theorem dLooker_init_69 : decode bLooker_init 69 = .ok (.getfield 12, 3) := by decide +kernel
theorem dLooker_init_72 : decode bLooker_init 72 = .ok (.invokespecial 49, 3) := by decide +kernel
theorem dLooker_init_75 : decode bLooker_init 75 = .ok (.putfield 52, 3) := by decide +kernel
theorem dLooker_init_78 : decode bLooker_init 78 = .ok (.return_, 1) := by decide +kernel
theorem dLooker_makeRoom_0 : decode bLooker_makeRoom 0 = .ok (.aload_n 0, 1) := by decide +kernel
theorem dLooker_makeRoom_1 : decode bLooker_makeRoom 1 = .ok (.getfield 12, 3) := by decide +kernel
theorem dLooker_makeRoom_4 : decode bLooker_makeRoom 4 = .ok (.iload_n 1, 1) := by decide +kernel
theorem dLooker_makeRoom_5 : decode bLooker_makeRoom 5 = .ok (.invokevirtual 56, 3) := by decide +kernel
theorem dLooker_makeRoom_8 : decode bLooker_makeRoom 8 = .ok (.aload_n 0, 1) := by decide +kernel
theorem dLooker_makeRoom_9 : decode bLooker_makeRoom 9 = .ok (.aload_n 0, 1) := by decide +kernel
theorem dLooker_makeRoom_10 : decode bLooker_makeRoom 10 = .ok (.getfield 27, 3) := by decide +kernel
theorem dLooker_makeRoom_13 : decode bLooker_makeRoom 13 = .ok (.iload_n 1, 1) := by decide +kernel
theorem dLooker_makeRoom_14 : decode bLooker_makeRoom 14 = .ok (.invokestatic 60, 3) := by decide +kernel
theorem dLooker_makeRoom_17 : decode bLooker_makeRoom 17 = .ok (.putfield 27, 3) := by decide +kernel
theorem dLooker_makeRoom_20 : decode bLooker_makeRoom 20 = .ok (.return_, 1) := by decide +kernel
theorem dLooker_isHidden_0 : decode bLooker_isHidden 0 = .ok (.iload_n 1, 1) := by decide +kernel
theorem dLooker_isHidden_1 : decode bLooker_isHidden 1 = .ok (.ifCond .lt 22, 3) := by decide +kernel
theorem dLooker_isHidden_4 : decode bLooker_isHidden 4 = .ok (.iload_n 1, 1) := by decide +kernel
theorem dLooker_isHidden_5 : decode bLooker_isHidden 5 = .ok (.aload_n 0, 1) := by decide +kernel
theorem dLooker_isHidden_6 : decode bLooker_isHidden 6 = .ok (.getfield 27, 3) := by decide +kernel
theorem dLooker_isHidden_9 : decode bLooker_isHidden 9 = .ok (.arraylength, 1) := by decide +kernel
theorem dLooker_isHidden_10 : decode bLooker_isHidden 10 = .ok (.if_icmp .ge 13, 3) := by decide +kernel
theorem dLooker_isHidden_13 : decode bLooker_isHidden 13 = .ok (.aload_n 0, 1) := by decide +kernel
theorem dLooker_isHidden_14 : decode bLooker_isHidden 14 = .ok (.getfield 27, 3) := by decide +kernel
theorem dLooker_isHidden_17 : decode bLooker_isHidden 17 = .ok (.iload_n 1, 1) := by decide +kernel
theorem dLooker_isHidden_18 : decode bLooker_isHidden 18 = .ok (.iaload, 1) := by decide +kernel
theorem dLooker_isHidden_19 : decode bLooker_isHidden 19 = .ok (.iconst 1, 1) := by decide +kernel
theorem dLooker_isHidden_20 : decode bLooker_isHidden 20 = .ok (.if_icmp .ne 7, 3) := by decide +kernel
theorem dLooker_isHidden_23 : decode bLooker_isHidden 23 = .ok (.iconst 1, 1) := by decide +kernel
theorem dLooker_isHidden_24 : decode bLooker_isHidden 24 = .ok (.goto 4, 3) := by decide +kernel
theorem dLooker_isHidden_27 : decode bLooker_isHidden 27 = .ok (.iconst 0, 1) := by decide +kernel
theorem dLooker_isHidden_28 : decode bLooker_isHidden 28 = .ok (.ireturn, 1) := by decide +kernel
theorem dLooker_look_0 : decode bLooker_look 0 = .ok (.aload_n 0, 1) := by decide +kernel
theorem dLooker_look_1 : decode bLooker_look 1 = .ok (.iload_n 1, 1) := by decide +kernel
theorem dLooker_look_2 : decode bLooker_look 2 = .ok (.invokevirtual 64, 3) := by decide +kernel
theorem dLooker_look_5 : decode bLooker_look 5 = .ok (.aload_n 0, 1) := by decide +kernel
theorem dLooker_look_6 : decode bLooker_look 6 = .ok (.getfield 35, 3) := by decide +kernel
theorem dLooker_look_9 : decode bLooker_look 9 = .ok (.iload_n 1, 1) := by decide +kernel
theorem dLooker_look_10 : decode bLooker_look 10 = .ok (.invokevirtual 67, 3) := by decide +kernel
theorem dLooker_look_13 : decode bLooker_look 13 = .ok (.istore_n 3, 1) := by decide +kernel
theorem dLooker_look_14 : decode bLooker_look 14 = .ok (.iload_n 3, 1) := by decide +kernel
theorem dLooker_look_15 : decode bLooker_look 15 = .ok (.iload_n 2, 1) := by decide +kernel
theorem dLooker_look_16 : decode bLooker_look 16 = .ok (.if_icmp .gt 41, 3) := by decide +kernel
theorem dLooker_look_19 : decode bLooker_look 19 = .ok (.aload_n 0, 1) := by decide +kernel
theorem dLooker_look_20 : decode bLooker_look 20 = .ok (.iload_n 3, 1) := by decide +kernel
theorem dLooker_look_21 : decode bLooker_look 21 = .ok (.putfield 31, 3) := by decide +kernel
theorem dLooker_look_24 : decode bLooker_look 24 = .ok (.aload_n 0, 1) := by decide +kernel
theorem dLooker_look_25 : decode bLooker_look 25 = .ok (.iload_n 3, 1) := by decide +kernel
theorem dLooker_look_26 : decode bLooker_look 26 = .ok (.invokevirtual 73, 3) := by decide +kernel
theorem dLooker_look_29 : decode bLooker_look 29 = .ok (.ifCond .eq 7, 3) := by decide +kernel
theorem dLooker_look_32 : decode bLooker_look 32 = .ok (.iconst 0, 1) := by decide +kernel
theorem dLooker_look_33 : decode bLooker_look 33 = .ok (.goto 8, 3) := by decide +kernel
theorem dLooker_look_36 : decode bLooker_look 36 = .ok (.aload_n 0, 1) := by decide +kernel
theorem dLooker_look_37 : decode bLooker_look 37 = .ok (.iload_n 3, 1) := by decide +kernel
theorem dLooker_look_38 : decode bLooker_look 38 = .ok (.invokevirtual 77, 3) := by decide +kernel
theorem dLooker_look_41 : decode bLooker_look 41 = .ok (.istore 4, 2) := by decide +kernel
theorem dLooker_look_43 : decode bLooker_look 43 = .ok (.iload 4, 2) := by decide +kernel
theorem dLooker_look_45 : decode bLooker_look 45 = .ok (.ifCond .eq 6, 3) := by decide +kernel
theorem dLooker_look_48 : decode bLooker_look 48 = .ok (.iload 4, 2) := by decide +kernel
theorem dLooker_look_50 : decode bLooker_look 50 = .ok (.ireturn, 1) := by decide +kernel
theorem dLooker_look_51 : decode bLooker_look 51 = .ok (.iinc 3 1, 3) := by decide +kernel
theorem dLooker_look_54 : decode bLooker_look 54 = .ok (.goto (-40), 3) := by decide +kernel
theorem dLooker_look_57 : decode bLooker_look 57 = .ok (.iconst 0, 1) := by decide +kernel
theorem dLooker_look_58 : decode bLooker_look 58 = .ok (.ireturn, 1) := by decide +kernel
theorem dLooker_hideBelowAttributes_0 : decode bLooker_hideBelowAttributes 0 = .ok (.iload_n 1, 1) := by decide +kernel
theorem dLooker_hideBelowAttributes_1 : decode bLooker_hideBelowAttributes 1 = .ok (.iconst 1, 1) := by decide +kernel
theorem dLooker_hideBelowAttributes_2 : decode bLooker_hideBelowAttributes 2 = .ok (.iadd, 1) := by decide +kernel
theorem dLooker_hideBelowAttributes_3 : decode bLooker_hideBelowAttributes 3 = .ok (.istore_n 2, 1) := by decide +kernel
theorem dLooker_hideBelowAttributes_4 : decode bLooker_hideBelowAttributes 4 = .ok (.iload_n 1, 1) := by decide +kernel
theorem dLooker_hideBelowAttributes_5 : decode bLooker_hideBelowAttributes 5 = .ok (.istore_n 3, 1) := by decide +kernel
theorem dLooker_hideBelowAttributes_6 : decode bLooker_hideBelowAttributes 6 = .ok (.iload_n 3, 1) := by decide +kernel
theorem dLooker_hideBelowAttributes_7 : decode bLooker_hideBelowAttributes 7 = .ok (.aload_n 0, 1) := by decide +kernel
theorem dLooker_hideBelowAttributes_8 : decode bLooker_hideBelowAttributes 8 = .ok (.getfield 35, 3) := by decide +kernel
theorem dLooker_hideBelowAttributes_11 : decode bLooker_hideBelowAttributes 11 = .ok (.iload_n 1, 1) := by decide +kernel
theorem dLooker_hideBelowAttributes_12 : decode bLooker_hideBelowAttributes 12 = .ok (.invokevirtual 67, 3) := by decide +kernel
theorem dLooker_hideBelowAttributes_15 : decode bLooker_hideBelowAttributes 15 = .ok (.if_icmp .lt 61, 3) := by decide +kernel
theorem dLooker_hideBelowAttributes_18 : decode bLooker_hideBelowAttributes 18 = .ok (.iload_n 3, 1) := by decide +kernel
theorem dLooker_hideBelowAttributes_19 : decode bLooker_hideBelowAttributes 19 = .ok (.aload_n 0, 1) := by decide +kernel
theorem dLooker_hideBelowAttributes_20 : decode bLooker_hideBelowAttributes 20 = .ok (.getfield 27, 3) := by decide +kernel
theorem dLooker_hideBelowAttributes_23 : decode bLooker_hideBelowAttributes 23 = .ok (.arraylength, 1) := by decide +kernel
theorem dLooker_hideBelowAttributes_24 : decode bLooker_hideBelowAttributes 24 = .ok (.if_icmp .ge 52, 3) := by decide +kernel
theorem dLooker_hideBelowAttributes_27 : decode bLooker_hideBelowAttributes 27 = .ok (.aload_n 0, 1) := by decide +kernel
theorem dLooker_hideBelowAttributes_28 : decode bLooker_hideBelowAttributes 28 = .ok (.getfield 27, 3) := by decide +kernel
theorem dLooker_hideBelowAttributes_31 : decode bLooker_hideBelowAttributes 31 = .ok (.iload_n 3, 1) := by decide +kernel
theorem dLooker_hideBelowAttributes_32 : decode bLooker_hideBelowAttributes 32 = .ok (.iload_n 3, 1) := by decide +kernel
theorem dLooker_hideBelowAttributes_33 : decode bLooker_hideBelowAttributes 33 = .ok (.iload_n 2, 1) := by decide +kernel
theorem dLooker_hideBelowAttributes_34 : decode bLooker_hideBelowAttributes 34 = .ok (.if_icmp .lt 7, 3) := by decide +kernel
theorem dLooker_hideBelowAttributes_37 : decode bLooker_hideBelowAttributes 37 = .ok (.iconst 1, 1) := by decide +kernel
theorem dLooker_hideBelowAttributes_38 : decode bLooker_hideBelowAttributes 38 = .ok (.goto 4, 3) := by decide +kernel
theorem dLooker_hideBelowAttributes_41 : decode bLooker_hideBelowAttributes 41 = .ok (.iconst 0, 1) := by decide +kernel
theorem dLooker_hideBelowAttributes_42 : decode bLooker_hideBelowAttributes 42 = .ok (.iastore, 1) := by decide +kernel
theorem dLooker_hideBelowAttributes_43 : decode bLooker_hideBelowAttributes 43 = .ok (.iload_n 3, 1) := by decide +kernel
theorem dLooker_hideBelowAttributes_44 : decode bLooker_hideBelowAttributes 44 = .ok (.iload_n 2, 1) := by decide +kernel
theorem dLooker_hideBelowAttributes_45 : decode bLooker_hideBelowAttributes 45 = .ok (.if_icmp .ge 25, 3) := by decide +kernel
theorem dLooker_hideBelowAttributes_48 : decode bLooker_hideBelowAttributes 48 = .ok (.aload_n 0, 1) := by decide +kernel
theorem dLooker_hideBelowAttributes_49 : decode bLooker_hideBelowAttributes 49 = .ok (.getfield 35, 3) := by decide +kernel
theorem dLooker_hideBelowAttributes_52 : decode bLooker_hideBelowAttributes 52 = .ok (.iload_n 3, 1) := by decide +kernel
theorem dLooker_hideBelowAttributes_53 : decode bLooker_hideBelowAttributes 53 = .ok (.invokevirtual 80, 3) := by decide +kernel
theorem dLooker_hideBelowAttributes_56 : decode bLooker_hideBelowAttributes 56 = .ok (.bipush 25, 2) := by decide +kernel
theorem dLooker_hideBelowAttributes_58 : decode bLooker_hideBelowAttributes 58 = .ok (.if_icmp .ne 12, 3) := by decide +kernel
theorem dLooker_hideBelowAttributes_61 : decode bLooker_hideBelowAttributes 61 = .ok (.aload_n 0, 1) := by decide +kernel
theorem dLooker_hideBelowAttributes_62 : decode bLooker_hideBelowAttributes 62 = .ok (.getfield 35, 3) := by decide +kernel
theorem dLooker_hideBelowAttributes_65 : decode bLooker_hideBelowAttributes 65 = .ok (.iload_n 3, 1) := by decide +kernel
theorem dLooker_hideBelowAttributes_66 : decode bLooker_hideBelowAttributes 66 = .ok (.invokevirtual 67, 3) := by decide +kernel
theorem dLooker_hideBelowAttributes_69 : decode bLooker_hideBelowAttributes 69 = .ok (.istore_n 2, 1) := by decide +kernel
theorem dLooker_hideBelowAttributes_70 : decode bLooker_hideBelowAttributes 70 = .ok (.iinc 3 (-1), 3) := by decide +kernel
theorem dLooker_hideBelowAttributes_73 : decode bLooker_hideBelowAttributes 73 = .ok (.goto (-67), 3) := by decide +kernel
theorem dLooker_hideBelowAttributes_76 : decode bLooker_hideBelowAttributes 76 = .ok (.return_, 1) := by decide +kernel
theorem dLooker_tell_0 : decode bLooker_tell 0 = .ok (.aload_n 0, 1) := by decide +kernel
theorem dLooker_tell_1 : decode bLooker_tell 1 = .ok (.getfield 35, 3) := by decide +kernel
theorem dLooker_tell_4 : decode bLooker_tell 4 = .ok (.iload_n 2, 1) := by decide +kernel
theorem dLooker_tell_5 : decode bLooker_tell 5 = .ok (.invokevirtual 67, 3) := by decide +kernel
theorem dLooker_tell_8 : decode bLooker_tell 8 = .ok (.istore 4, 2) := by decide +kernel
theorem dLooker_tell_10 : decode bLooker_tell 10 = .ok (.iload 4, 2) := by decide +kernel
theorem dLooker_tell_12 : decode bLooker_tell 12 = .ok (.iload_n 3, 1) := by decide +kernel
theorem dLooker_tell_13 : decode bLooker_tell 13 = .ok (.if_icmp .gt 28, 3) := by decide +kernel
theorem dLooker_tell_16 : decode bLooker_tell 16 = .ok (.aload_n 0, 1) := by decide +kernel
theorem dLooker_tell_17 : decode bLooker_tell 17 = .ok (.iload 4, 2) := by decide +kernel
theorem dLooker_tell_19 : decode bLooker_tell 19 = .ok (.invokevirtual 73, 3) := by decide +kernel
theorem dLooker_tell_22 : decode bLooker_tell 22 = .ok (.ifCond .ne 13, 3) := by decide +kernel
theorem dLooker_tell_25 : decode bLooker_tell 25 = .ok (.aload_n 1, 1) := by decide +kernel
theorem dLooker_tell_26 : decode bLooker_tell 26 = .ok (.aload_n 0, 1) := by decide +kernel
theorem dLooker_tell_27 : decode bLooker_tell 27 = .ok (.getfield 12, 3) := by decide +kernel
theorem dLooker_tell_30 : decode bLooker_tell 30 = .ok (.iload 4, 2) := by decide +kernel
theorem dLooker_tell_32 : decode bLooker_tell 32 = .ok (.invokevirtual 83, 3) := by decide +kernel
theorem dLooker_tell_35 : decode bLooker_tell 35 = .ok (.iinc 4 1, 3) := by decide +kernel
theorem dLooker_tell_38 : decode bLooker_tell 38 = .ok (.goto (-28), 3) := by decide +kernel
theorem dLooker_tell_41 : decode bLooker_tell 41 = .ok (.return_, 1) := by decide +kernel
theorem dLooker_judge_0 : decode bLooker_judge 0 = .ok (.iload_n 1, 1) := by decide +kernel
theorem dLooker_judge_1 : decode bLooker_judge 1 = .ok (.ifCond .eq 13, 3) := by decide +kernel
theorem dLooker_judge_4 : decode bLooker_judge 4 = .ok (.aload_n 0, 1) := by decide +kernel
theorem dLooker_judge_5 : decode bLooker_judge 5 = .ok (.getfield 31, 3) := by decide +kernel
theorem dLooker_judge_8 : decode bLooker_judge 8 = .ok (.iload_n 2, 1) := by decide +kernel
theorem dLooker_judge_9 : decode bLooker_judge 9 = .ok (.if_icmp .eq 5, 3) := by decide +kernel
theorem dLooker_judge_12 : decode bLooker_judge 12 = .ok (.iload_n 1, 1) := by decide +kernel
theorem dLooker_judge_13 : decode bLooker_judge 13 = .ok (.ireturn, 1) := by decide +kernel
theorem dLooker_judge_14 : decode bLooker_judge 14 = .ok (.iload 4, 2) := by decide +kernel
theorem dLooker_judge_16 : decode bLooker_judge 16 = .ok (.ifCond .eq 18, 3) := by decide +kernel
theorem dLooker_judge_19 : decode bLooker_judge 19 = .ok (.aload_n 0, 1) := by decide +kernel
theorem dLooker_judge_20 : decode bLooker_judge 20 = .ok (.getfield 12, 3) := by decide +kernel
theorem dLooker_judge_23 : decode bLooker_judge 23 = .ok (.iload_n 2, 1) := by decide +kernel
theorem dLooker_judge_24 : decode bLooker_judge 24 = .ok (.invokevirtual 87, 3) := by decide +kernel
theorem dLooker_judge_27 : decode bLooker_judge 27 = .ok (.ifCond .ne 7, 3) := by decide +kernel
theorem dLooker_judge_30 : decode bLooker_judge 30 = .ok (.iconst 5, 1) := by decide +kernel
theorem dLooker_judge_31 : decode bLooker_judge 31 = .ok (.goto 4, 3) := by decide +kernel
theorem dLooker_judge_34 : decode bLooker_judge 34 = .ok (.iconst 0, 1) := by decide +kernel
theorem dLooker_judge_35 : decode bLooker_judge 35 = .ok (.istore 5, 2) := by decide +kernel
theorem dLooker_judge_37 : decode bLooker_judge 37 = .ok (.iload_n 3, 1) := by decide +kernel
theorem dLooker_judge_38 : decode bLooker_judge 38 = .ok (.iconst (-1), 1) := by decide +kernel
theorem dLooker_judge_39 : decode bLooker_judge 39 = .ok (.if_icmp .eq 16, 3) := by decide +kernel
theorem dLooker_judge_42 : decode bLooker_judge 42 = .ok (.aload_n 0, 1) := by decide +kernel
theorem dLooker_judge_43 : decode bLooker_judge 43 = .ok (.iload_n 2, 1) := by decide +kernel
theorem dLooker_judge_44 : decode bLooker_judge 44 = .ok (.iload_n 3, 1) := by decide +kernel
theorem dLooker_judge_45 : decode bLooker_judge 45 = .ok (.invokevirtual 90, 3) := by decide +kernel
theorem dLooker_judge_48 : decode bLooker_judge 48 = .ok (.iload 5, 2) := by decide +kernel
theorem dLooker_judge_50 : decode bLooker_judge 50 = .ok (.invokestatic 94, 3) := by decide +kernel
theorem dLooker_judge_53 : decode bLooker_judge 53 = .ok (.istore 5, 2) := by decide +kernel
theorem dLooker_judge_55 : decode bLooker_judge 55 = .ok (.iload_n 3, 1) := by decide +kernel
theorem dLooker_judge_56 : decode bLooker_judge 56 = .ok (.iconst (-1), 1) := by decide +kernel
theorem dLooker_judge_57 : decode bLooker_judge 57 = .ok (.if_icmp .eq 25, 3) := by decide +kernel
theorem dLooker_judge_60 : decode bLooker_judge 60 = .ok (.iload_n 1, 1) := by decide +kernel
theorem dLooker_judge_61 : decode bLooker_judge 61 = .ok (.ifCond .ne 21, 3) := by decide +kernel
theorem dLooker_judge_64 : decode bLooker_judge 64 = .ok (.aload_n 0, 1) := by decide +kernel
theorem dLooker_judge_65 : decode bLooker_judge 65 = .ok (.iload_n 2, 1) := by decide +kernel
theorem dLooker_judge_66 : decode bLooker_judge 66 = .ok (.iload_n 3, 1) := by decide +kernel
theorem dLooker_judge_67 : decode bLooker_judge 67 = .ok (.invokevirtual 97, 3) := by decide +kernel
theorem dLooker_judge_70 : decode bLooker_judge 70 = .ok (.ifCond .eq 12, 3) := by decide +kernel
theorem dLooker_judge_73 : decode bLooker_judge 73 = .ok (.iload 5, 2) := by decide +kernel
theorem dLooker_judge_75 : decode bLooker_judge 75 = .ok (.bipush 8, 2) := by decide +kernel
theorem dLooker_judge_77 : decode bLooker_judge 77 = .ok (.invokestatic 94, 3) := by decide +kernel
theorem dLooker_judge_80 : decode bLooker_judge 80 = .ok (.istore 5, 2) := by decide +kernel
theorem dLooker_judge_82 : decode bLooker_judge 82 = .ok (.iload_n 1, 1) := by decide +kernel
theorem dLooker_judge_83 : decode bLooker_judge 83 = .ok (.iload 5, 2) := by decide +kernel
theorem dLooker_judge_85 : decode bLooker_judge 85 = .ok (.invokestatic 94, 3) := by decide +kernel
theorem dLooker_judge_88 : decode bLooker_judge 88 = .ok (.ireturn, 1) := by decide +kernel
theorem dLooker_earlier_0 : decode bLooker_earlier 0 = .ok (.iload_n 0, 1) := by decide +kernel
theorem dLooker_earlier_1 : decode bLooker_earlier 1 = .ok (.ifCond .eq 7, 3) := by decide +kernel
theorem dLooker_earlier_4 : decode bLooker_earlier 4 = .ok (.iload_n 1, 1) := by decide +kernel
theorem dLooker_earlier_5 : decode bLooker_earlier 5 = .ok (.ifCond .ne 13, 3) := by decide +kernel
theorem dLooker_earlier_8 : decode bLooker_earlier 8 = .ok (.iload_n 0, 1) := by decide +kernel
theorem dLooker_earlier_9 : decode bLooker_earlier 9 = .ok (.ifCond .ne 7, 3) := by decide +kernel
theorem dLooker_earlier_12 : decode bLooker_earlier 12 = .ok (.iload_n 1, 1) := by decide +kernel
theorem dLooker_earlier_13 : decode bLooker_earlier 13 = .ok (.goto 4, 3) := by decide +kernel
theorem dLooker_earlier_16 : decode bLooker_earlier 16 = .ok (.iload_n 0, 1) := by decide +kernel
theorem dLooker_earlier_17 : decode bLooker_earlier 17 = .ok (.ireturn, 1) := by decide +kernel
theorem dLooker_earlier_18 : decode bLooker_earlier 18 = .ok (.iload_n 0, 1) := by decide +kernel
theorem dLooker_earlier_19 : decode bLooker_earlier 19 = .ok (.bipush 11, 2) := by decide +kernel
theorem dLooker_earlier_21 : decode bLooker_earlier 21 = .ok (.irem, 1) := by decide +kernel
theorem dLooker_earlier_22 : decode bLooker_earlier 22 = .ok (.iload_n 1, 1) := by decide +kernel
theorem dLooker_earlier_23 : decode bLooker_earlier 23 = .ok (.bipush 11, 2) := by decide +kernel
theorem dLooker_earlier_25 : decode bLooker_earlier 25 = .ok (.irem, 1) := by decide +kernel
theorem dLooker_earlier_26 : decode bLooker_earlier 26 = .ok (.if_icmp .gt 7, 3) := by decide +kernel
theorem dLooker_earlier_29 : decode bLooker_earlier 29 = .ok (.iload_n 0, 1) := by decide +kernel
theorem dLooker_earlier_30 : decode bLooker_earlier 30 = .ok (.goto 4, 3) := by decide +kernel
theorem dLooker_earlier_33 : decode bLooker_earlier 33 = .ok (.iload_n 1, 1) := by decide +kernel
theorem dLooker_earlier_34 : decode bLooker_earlier 34 = .ok (.ireturn, 1) := by decide +kernel
theorem dLooker_classMisfit_0 : decode bLooker_classMisfit 0 = .ok (.aload_n 0, 1) := by decide +kernel
theorem dLooker_classMisfit_1 : decode bLooker_classMisfit 1 = .ok (.getfield 12, 3) := by decide +kernel
theorem dLooker_classMisfit_4 : decode bLooker_classMisfit 4 = .ok (.iload_n 1, 1) := by decide +kernel
theorem dLooker_classMisfit_5 : decode bLooker_classMisfit 5 = .ok (.invokevirtual 101, 3) := by decide +kernel
theorem dLooker_classMisfit_8 : decode bLooker_classMisfit 8 = .ok (.istore_n 3, 1) := by decide +kernel
theorem dLooker_classMisfit_9 : decode bLooker_classMisfit 9 = .ok (.aload_n 0, 1) := by decide +kernel
theorem dLooker_classMisfit_10 : decode bLooker_classMisfit 10 = .ok (.getfield 12, 3) := by decide +kernel
theorem dLooker_classMisfit_13 : decode bLooker_classMisfit 13 = .ok (.iload_n 1, 1) := by decide +kernel
theorem dLooker_classMisfit_14 : decode bLooker_classMisfit 14 = .ok (.invokevirtual 104, 3) := by decide +kernel
theorem dLooker_classMisfit_17 : decode bLooker_classMisfit 17 = .ok (.istore 4, 2) := by decide +kernel
theorem dLooker_classMisfit_19 : decode bLooker_classMisfit 19 = .ok (.iload_n 3, 1) := by decide +kernel
theorem dLooker_classMisfit_20 : decode bLooker_classMisfit 20 = .ok (.aload_n 0, 1) := by decide +kernel
theorem dLooker_classMisfit_21 : decode bLooker_classMisfit 21 = .ok (.getfield 43, 3) := by decide +kernel
theorem dLooker_classMisfit_24 : decode bLooker_classMisfit 24 = .ok (.iload_n 2, 1) := by decide +kernel
theorem dLooker_classMisfit_25 : decode bLooker_classMisfit 25 = .ok (.invokevirtual 107, 3) := by decide +kernel
theorem dLooker_classMisfit_28 : decode bLooker_classMisfit 28 = .ok (.if_icmp .ne 21, 3) := by decide +kernel
theorem dLooker_classMisfit_31 : decode bLooker_classMisfit 31 = .ok (.iload_n 3, 1) := by decide +kernel
theorem dLooker_classMisfit_32 : decode bLooker_classMisfit 32 = .ok (.iconst 4, 1) := by decide +kernel
theorem dLooker_classMisfit_33 : decode bLooker_classMisfit 33 = .ok (.if_icmp .ne 18, 3) := by decide +kernel
theorem dLooker_classMisfit_36 : decode bLooker_classMisfit 36 = .ok (.iload 4, 2) := by decide +kernel
theorem dLooker_classMisfit_38 : decode bLooker_classMisfit 38 = .ok (.aload_n 0, 1) := by decide +kernel
theorem dLooker_classMisfit_39 : decode bLooker_classMisfit 39 = .ok (.getfield 43, 3) := by decide +kernel
theorem dLooker_classMisfit_42 : decode bLooker_classMisfit 42 = .ok (.iload_n 2, 1) := by decide +kernel
theorem dLooker_classMisfit_43 : decode bLooker_classMisfit 43 = .ok (.invokevirtual 110, 3) := by decide +kernel
theorem dLooker_classMisfit_46 : decode bLooker_classMisfit 46 = .ok (.if_icmp .eq 5, 3) := by decide +kernel
theorem dLooker_classMisfit_49 : decode bLooker_classMisfit 49 = .ok (.iconst 3, 1) := by decide +kernel
theorem dLooker_classMisfit_50 : decode bLooker_classMisfit 50 = .ok (.ireturn, 1) := by decide +kernel
theorem dLooker_classMisfit_51 : decode bLooker_classMisfit 51 = .ok (.iload_n 3, 1) := by decide +kernel
theorem dLooker_classMisfit_52 : decode bLooker_classMisfit 52 = .ok (.iconst 3, 1) := by decide +kernel
theorem dLooker_classMisfit_53 : decode bLooker_classMisfit 53 = .ok (.if_icmp .ne 25, 3) := by decide +kernel
theorem dLooker_classMisfit_56 : decode bLooker_classMisfit 56 = .ok (.iload 4, 2) := by decide +kernel
theorem dLooker_classMisfit_58 : decode bLooker_classMisfit 58 = .ok (.ifCond .eq 20, 3) := by decide +kernel
theorem dLooker_classMisfit_61 : decode bLooker_classMisfit 61 = .ok (.iload 4, 2) := by decide +kernel
theorem dLooker_classMisfit_63 : decode bLooker_classMisfit 63 = .ok (.aload_n 0, 1) := by decide +kernel
theorem dLooker_classMisfit_64 : decode bLooker_classMisfit 64 = .ok (.getfield 43, 3) := by decide +kernel
theorem dLooker_classMisfit_67 : decode bLooker_classMisfit 67 = .ok (.iload_n 2, 1) := by decide +kernel
theorem dLooker_classMisfit_68 : decode bLooker_classMisfit 68 = .ok (.invokevirtual 110, 3) := by decide +kernel
theorem dLooker_classMisfit_71 : decode bLooker_classMisfit 71 = .ok (.if_icmp .eq 7, 3) := by decide +kernel
theorem dLooker_classMisfit_74 : decode bLooker_classMisfit 74 = .ok (.iconst 4, 1) := by decide +kernel
theorem dLooker_classMisfit_75 : decode bLooker_classMisfit 75 = .ok (.goto 4, 3) := by decide +kernel
theorem dLooker_classMisfit_78 : decode bLooker_classMisfit 78 = .ok (.iconst 0, 1) := by decide +kernel
theorem dLooker_classMisfit_79 : decode bLooker_classMisfit 79 = .ok (.ireturn, 1) := by decide +kernel
theorem dLooker_isOutside_0 : decode bLooker_isOutside 0 = .ok (.aload_n 0, 1) := by decide +kernel
theorem dLooker_isOutside_1 : decode bLooker_isOutside 1 = .ok (.getfield 12, 3) := by decide +kernel
theorem dLooker_isOutside_4 : decode bLooker_isOutside 4 = .ok (.iload_n 1, 1) := by decide +kernel
theorem dLooker_isOutside_5 : decode bLooker_isOutside 5 = .ok (.invokevirtual 111, 3) := by decide +kernel
theorem dLooker_isOutside_8 : decode bLooker_isOutside 8 = .ok (.istore_n 3, 1) := by decide +kernel
theorem dLooker_isOutside_9 : decode bLooker_isOutside 9 = .ok (.aload_n 0, 1) := by decide +kernel
theorem dLooker_isOutside_10 : decode bLooker_isOutside 10 = .ok (.getfield 12, 3) := by decide +kernel
theorem dLooker_isOutside_13 : decode bLooker_isOutside 13 = .ok (.iload_n 1, 1) := by decide +kernel
theorem dLooker_isOutside_14 : decode bLooker_isOutside 14 = .ok (.invokevirtual 101, 3) := by decide +kernel
theorem dLooker_isOutside_17 : decode bLooker_isOutside 17 = .ok (.iconst 2, 1) := by decide +kernel
theorem dLooker_isOutside_18 : decode bLooker_isOutside 18 = .ok (.if_icmp .ne 42, 3) := by decide +kernel
theorem dLooker_isOutside_21 : decode bLooker_isOutside 21 = .ok (.aload_n 0, 1) := by decide +kernel
theorem dLooker_isOutside_22 : decode bLooker_isOutside 22 = .ok (.getfield 12, 3) := by decide +kernel
theorem dLooker_isOutside_25 : decode bLooker_isOutside 25 = .ok (.iload_n 1, 1) := by decide +kernel
theorem dLooker_isOutside_26 : decode bLooker_isOutside 26 = .ok (.invokevirtual 87, 3) := by decide +kernel
theorem dLooker_isOutside_29 : decode bLooker_isOutside 29 = .ok (.ifCond .eq 31, 3) := by decide +kernel
theorem dLooker_isOutside_32 : decode bLooker_isOutside 32 = .ok (.iload_n 3, 1) := by decide +kernel
theorem dLooker_isOutside_33 : decode bLooker_isOutside 33 = .ok (.aload_n 0, 1) := by decide +kernel
theorem dLooker_isOutside_34 : decode bLooker_isOutside 34 = .ok (.getfield 43, 3) := by decide +kernel
theorem dLooker_isOutside_37 : decode bLooker_isOutside 37 = .ok (.iload_n 2, 1) := by decide +kernel
theorem dLooker_isOutside_38 : decode bLooker_isOutside 38 = .ok (.invokevirtual 114, 3) := by decide +kernel
theorem dLooker_isOutside_41 : decode bLooker_isOutside 41 = .ok (.if_icmp .lt 15, 3) := by decide +kernel
theorem dLooker_isOutside_44 : decode bLooker_isOutside 44 = .ok (.iload_n 3, 1) := by decide +kernel
theorem dLooker_isOutside_45 : decode bLooker_isOutside 45 = .ok (.aload_n 0, 1) := by decide +kernel
theorem dLooker_isOutside_46 : decode bLooker_isOutside 46 = .ok (.getfield 43, 3) := by decide +kernel
theorem dLooker_isOutside_49 : decode bLooker_isOutside 49 = .ok (.iload_n 2, 1) := by decide +kernel
theorem dLooker_isOutside_50 : decode bLooker_isOutside 50 = .ok (.invokevirtual 117, 3) := by decide +kernel
theorem dLooker_isOutside_53 : decode bLooker_isOutside 53 = .ok (.if_icmp .le 7, 3) := by decide +kernel
theorem dLooker_isOutside_56 : decode bLooker_isOutside 56 = .ok (.iconst 1, 1) := by decide +kernel
theorem dLooker_isOutside_57 : decode bLooker_isOutside 57 = .ok (.goto 4, 3) := by decide +kernel
theorem dLooker_isOutside_60 : decode bLooker_isOutside 60 = .ok (.iconst 0, 1) := by decide +kernel
theorem dLooker_isOutside_61 : decode bLooker_isOutside 61 = .ok (.ireturn, 1) := by decide +kernel
theorem dLooker_lookAt_0 : decode bLooker_lookAt 0 = .ok (.aload_n 0, 1) := by decide +kernel
theorem dLooker_lookAt_1 : decode bLooker_lookAt 1 = .ok (.getfield 12, 3) := by decide +kernel
theorem dLooker_lookAt_4 : decode bLooker_lookAt 4 = .ok (.iload_n 1, 1) := by decide +kernel
theorem dLooker_lookAt_5 : decode bLooker_lookAt 5 = .ok (.invokevirtual 120, 3) := by decide +kernel
theorem dLooker_lookAt_8 : decode bLooker_lookAt 8 = .ok (.aload_n 0, 1) := by decide +kernel
theorem dLooker_lookAt_9 : decode bLooker_lookAt 9 = .ok (.getfield 35, 3) := by decide +kernel
theorem dLooker_lookAt_12 : decode bLooker_lookAt 12 = .ok (.iload_n 1, 1) := by decide +kernel
theorem dLooker_lookAt_13 : decode bLooker_lookAt 13 = .ok (.invokevirtual 80, 3) := by decide +kernel
theorem dLooker_lookAt_16 : decode bLooker_lookAt 16 = .ok (.tableswitch 255 1 25 #[116, 125, 134, 143, 255, 255, 255, 255, 255, 255, 255, 255, 255, 255, 255, 255, 255, 255, 255, 149, 184, 228, 237, 237, 246], 116) := by decide +kernel
theorem dLooker_lookAt_132 : decode bLooker_lookAt 132 = .ok (.aload_n 0, 1) := by decide +kernel
theorem dLooker_lookAt_133 : decode bLooker_lookAt 133 = .ok (.getfield 52, 3) := by decide +kernel
theorem dLooker_lookAt_136 : decode bLooker_lookAt 136 = .ok (.iload_n 1, 1) := by decide +kernel
theorem dLooker_lookAt_137 : decode bLooker_lookAt 137 = .ok (.invokevirtual 123, 3) := by decide +kernel
theorem dLooker_lookAt_140 : decode bLooker_lookAt 140 = .ok (.ireturn, 1) := by decide +kernel
theorem dLooker_lookAt_141 : decode bLooker_lookAt 141 = .ok (.aload_n 0, 1) := by decide +kernel
theorem dLooker_lookAt_142 : decode bLooker_lookAt 142 = .ok (.iload_n 1, 1) := by decide +kernel
theorem dLooker_lookAt_143 : decode bLooker_lookAt 143 = .ok (.iconst 2, 1) := by decide +kernel
theorem dLooker_lookAt_144 : decode bLooker_lookAt 144 = .ok (.ldc 126, 2) := by decide +kernel
theorem dLooker_lookAt_146 : decode bLooker_lookAt 146 = .ok (.invokevirtual 127, 3) := by decide +kernel
theorem dLooker_lookAt_149 : decode bLooker_lookAt 149 = .ok (.ireturn, 1) := by decide +kernel
theorem dLooker_lookAt_150 : decode bLooker_lookAt 150 = .ok (.aload_n 0, 1) := by decide +kernel
theorem dLooker_lookAt_151 : decode bLooker_lookAt 151 = .ok (.iload_n 1, 1) := by decide +kernel
theorem dLooker_lookAt_152 : decode bLooker_lookAt 152 = .ok (.iconst 0, 1) := by decide +kernel
theorem dLooker_lookAt_153 : decode bLooker_lookAt 153 = .ok (.bipush 8, 2) := by decide +kernel
theorem dLooker_lookAt_155 : decode bLooker_lookAt 155 = .ok (.invokevirtual 127, 3) := by decide +kernel
theorem dLooker_lookAt_158 : decode bLooker_lookAt 158 = .ok (.ireturn, 1) := by decide +kernel
theorem dLooker_lookAt_159 : decode bLooker_lookAt 159 = .ok (.aload_n 0, 1) := by decide +kernel
theorem dLooker_lookAt_160 : decode bLooker_lookAt 160 = .ok (.iload_n 1, 1) := by decide +kernel
theorem dLooker_lookAt_161 : decode bLooker_lookAt 161 = .ok (.invokevirtual 131, 3) := by decide +kernel
theorem dLooker_lookAt_164 : decode bLooker_lookAt 164 = .ok (.ireturn, 1) := by decide +kernel
theorem dLooker_lookAt_165 : decode bLooker_lookAt 165 = .ok (.aload_n 0, 1) := by decide +kernel
theorem dLooker_lookAt_166 : decode bLooker_lookAt 166 = .ok (.iload_n 1, 1) := by decide +kernel
theorem dLooker_lookAt_167 : decode bLooker_lookAt 167 = .ok (.iconst 1, 1) := by decide +kernel
theorem dLooker_lookAt_168 : decode bLooker_lookAt 168 = .ok (.iconst 3, 1) := by decide +kernel
theorem dLooker_lookAt_169 : decode bLooker_lookAt 169 = .ok (.invokevirtual 134, 3) := by decide +kernel
theorem dLooker_lookAt_172 : decode bLooker_lookAt 172 = .ok (.ifCond .eq 25, 3) := by decide +kernel
theorem dLooker_lookAt_175 : decode bLooker_lookAt 175 = .ok (.aload_n 0, 1) := by decide +kernel
theorem dLooker_lookAt_176 : decode bLooker_lookAt 176 = .ok (.getfield 23, 3) := by decide +kernel
theorem dLooker_lookAt_179 : decode bLooker_lookAt 179 = .ok (.iload_n 1, 1) := by decide +kernel
theorem dLooker_lookAt_180 : decode bLooker_lookAt 180 = .ok (.aload_n 0, 1) := by decide +kernel
theorem dLooker_lookAt_181 : decode bLooker_lookAt 181 = .ok (.getfield 35, 3) := by decide +kernel
theorem dLooker_lookAt_184 : decode bLooker_lookAt 184 = .ok (.iload_n 1, 1) := by decide +kernel
theorem dLooker_lookAt_185 : decode bLooker_lookAt 185 = .ok (.invokevirtual 138, 3) := by decide +kernel
theorem dLooker_lookAt_188 : decode bLooker_lookAt 188 = .ok (.iload_n 1, 1) := by decide +kernel
theorem dLooker_lookAt_189 : decode bLooker_lookAt 189 = .ok (.iconst 1, 1) := by decide +kernel
theorem dLooker_lookAt_190 : decode bLooker_lookAt 190 = .ok (.isub, 1) := by decide +kernel
theorem dLooker_lookAt_191 : decode bLooker_lookAt 191 = .ok (.invokevirtual 141, 3) := by decide +kernel
theorem dLooker_lookAt_194 : decode bLooker_lookAt 194 = .ok (.goto 5, 3) := by decide +kernel
theorem dLooker_lookAt_197 : decode bLooker_lookAt 197 = .ok (.bipush 11, 2) := by decide +kernel
theorem dLooker_lookAt_199 : decode bLooker_lookAt 199 = .ok (.ireturn, 1) := by decide +kernel
theorem dLooker_lookAt_200 : decode bLooker_lookAt 200 = .ok (.aload_n 0, 1) := by decide +kernel
theorem dLooker_lookAt_201 : decode bLooker_lookAt 201 = .ok (.iload_n 1, 1) := by decide +kernel
theorem dLooker_lookAt_202 : decode bLooker_lookAt 202 = .ok (.iconst 2, 1) := by decide +kernel
theorem dLooker_lookAt_203 : decode bLooker_lookAt 203 = .ok (.bipush 20, 2) := by decide +kernel
theorem dLooker_lookAt_205 : decode bLooker_lookAt 205 = .ok (.invokevirtual 134, 3) := by decide +kernel
theorem dLooker_lookAt_208 : decode bLooker_lookAt 208 = .ok (.ifCond .eq 33, 3) := by decide +kernel
theorem dLooker_lookAt_211 : decode bLooker_lookAt 211 = .ok (.aload_n 0, 1) := by decide +kernel
theorem dLooker_lookAt_212 : decode bLooker_lookAt 212 = .ok (.getfield 23, 3) := by decide +kernel
theorem dLooker_lookAt_215 : decode bLooker_lookAt 215 = .ok (.iload_n 1, 1) := by decide +kernel
theorem dLooker_lookAt_216 : decode bLooker_lookAt 216 = .ok (.aload_n 0, 1) := by decide +kernel
theorem dLooker_lookAt_217 : decode bLooker_lookAt 217 = .ok (.getfield 35, 3) := by decide +kernel
theorem dLooker_lookAt_220 : decode bLooker_lookAt 220 = .ok (.iload_n 1, 1) := by decide +kernel
theorem dLooker_lookAt_221 : decode bLooker_lookAt 221 = .ok (.invokevirtual 138, 3) := by decide +kernel
theorem dLooker_lookAt_224 : decode bLooker_lookAt 224 = .ok (.aload_n 0, 1) := by decide +kernel
theorem dLooker_lookAt_225 : decode bLooker_lookAt 225 = .ok (.getfield 35, 3) := by decide +kernel
theorem dLooker_lookAt_228 : decode bLooker_lookAt 228 = .ok (.iload_n 1, 1) := by decide +kernel
theorem dLooker_lookAt_229 : decode bLooker_lookAt 229 = .ok (.invokevirtual 144, 3) := by decide +kernel
theorem dLooker_lookAt_232 : decode bLooker_lookAt 232 = .ok (.iload_n 1, 1) := by decide +kernel
theorem dLooker_lookAt_233 : decode bLooker_lookAt 233 = .ok (.iconst 1, 1) := by decide +kernel
theorem dLooker_lookAt_234 : decode bLooker_lookAt 234 = .ok (.isub, 1) := by decide +kernel
theorem dLooker_lookAt_235 : decode bLooker_lookAt 235 = .ok (.invokevirtual 147, 3) := by decide +kernel
theorem dLooker_lookAt_238 : decode bLooker_lookAt 238 = .ok (.goto 5, 3) := by decide +kernel
theorem dLooker_lookAt_241 : decode bLooker_lookAt 241 = .ok (.bipush 11, 2) := by decide +kernel
theorem dLooker_lookAt_243 : decode bLooker_lookAt 243 = .ok (.ireturn, 1) := by decide +kernel
theorem dLooker_lookAt_244 : decode bLooker_lookAt 244 = .ok (.aload_n 0, 1) := by decide +kernel
theorem dLooker_lookAt_245 : decode bLooker_lookAt 245 = .ok (.getfield 52, 3) := by decide +kernel
theorem dLooker_lookAt_248 : decode bLooker_lookAt 248 = .ok (.iload_n 1, 1) := by decide +kernel
theorem dLooker_lookAt_249 : decode bLooker_lookAt 249 = .ok (.invokevirtual 151, 3) := by decide +kernel
theorem dLooker_lookAt_252 : decode bLooker_lookAt 252 = .ok (.ireturn, 1) := by decide +kernel
theorem dLooker_lookAt_253 : decode bLooker_lookAt 253 = .ok (.aload_n 0, 1) := by decide +kernel
theorem dLooker_lookAt_254 : decode bLooker_lookAt 254 = .ok (.getfield 52, 3) := by decide +kernel
theorem dLooker_lookAt_257 : decode bLooker_lookAt 257 = .ok (.iload_n 1, 1) := by decide +kernel
theorem dLooker_lookAt_258 : decode bLooker_lookAt 258 = .ok (.invokevirtual 154, 3) := by decide +kernel
theorem dLooker_lookAt_261 : decode bLooker_lookAt 261 = .ok (.ireturn, 1) := by decide +kernel
theorem dLooker_lookAt_262 : decode bLooker_lookAt 262 = .ok (.aload_n 0, 1) := by decide +kernel
theorem dLooker_lookAt_263 : decode bLooker_lookAt 263 = .ok (.getfield 52, 3) := by decide +kernel
theorem dLooker_lookAt_266 : decode bLooker_lookAt 266 = .ok (.iload_n 1, 1) := by decide +kernel
theorem dLooker_lookAt_267 : decode bLooker_lookAt 267 = .ok (.invokevirtual 157, 3) := by decide +kernel
theorem dLooker_lookAt_270 : decode bLooker_lookAt 270 = .ok (.ireturn, 1) := by decide +kernel
theorem dLooker_lookAt_271 : decode bLooker_lookAt 271 = .ok (.bipush 11, 2) := by decide +kernel
theorem dLooker_lookAt_273 : decode bLooker_lookAt 273 = .ok (.ireturn, 1) := by decide +kernel
theorem dLooker_isOperator_0 : decode bLooker_isOperator 0 = .ok (.aload_n 0, 1) := by decide +kernel
theorem dLooker_isOperator_1 : decode bLooker_isOperator 1 = .ok (.getfield 35, 3) := by decide +kernel
theorem dLooker_isOperator_4 : decode bLooker_isOperator 4 = .ok (.iload_n 1, 1) := by decide +kernel
theorem dLooker_isOperator_5 : decode bLooker_isOperator 5 = .ok (.invokevirtual 138, 3) := by decide +kernel
theorem dLooker_isOperator_8 : decode bLooker_isOperator 8 = .ok (.istore 4, 2) := by decide +kernel
theorem dLooker_isOperator_10 : decode bLooker_isOperator 10 = .ok (.aload_n 0, 1) := by decide +kernel
theorem dLooker_isOperator_11 : decode bLooker_isOperator 11 = .ok (.getfield 35, 3) := by decide +kernel
theorem dLooker_isOperator_14 : decode bLooker_isOperator 14 = .ok (.iload_n 1, 1) := by decide +kernel
theorem dLooker_isOperator_15 : decode bLooker_isOperator 15 = .ok (.invokevirtual 160, 3) := by decide +kernel
theorem dLooker_isOperator_18 : decode bLooker_isOperator 18 = .ok (.iload_n 2, 1) := by decide +kernel
theorem dLooker_isOperator_19 : decode bLooker_isOperator 19 = .ok (.if_icmp .ne 18, 3) := by decide +kernel
theorem dLooker_isOperator_22 : decode bLooker_isOperator 22 = .ok (.iload 4, 2) := by decide +kernel
theorem dLooker_isOperator_24 : decode bLooker_isOperator 24 = .ok (.ifCond .lt 13, 3) := by decide +kernel
theorem dLooker_isOperator_27 : decode bLooker_isOperator 27 = .ok (.iload 4, 2) := by decide +kernel
theorem dLooker_isOperator_29 : decode bLooker_isOperator 29 = .ok (.iload_n 3, 1) := by decide +kernel
theorem dLooker_isOperator_30 : decode bLooker_isOperator 30 = .ok (.if_icmp .gt 7, 3) := by decide +kernel
theorem dLooker_isOperator_33 : decode bLooker_isOperator 33 = .ok (.iconst 1, 1) := by decide +kernel
theorem dLooker_isOperator_34 : decode bLooker_isOperator 34 = .ok (.goto 4, 3) := by decide +kernel
theorem dLooker_isOperator_37 : decode bLooker_isOperator 37 = .ok (.iconst 0, 1) := by decide +kernel
theorem dLooker_isOperator_38 : decode bLooker_isOperator 38 = .ok (.ireturn, 1) := by decide +kernel
theorem dLooker_leaf_0 : decode bLooker_leaf 0 = .ok (.aload_n 0, 1) := by decide +kernel
theorem dLooker_leaf_1 : decode bLooker_leaf 1 = .ok (.getfield 35, 3) := by decide +kernel
theorem dLooker_leaf_4 : decode bLooker_leaf 4 = .ok (.iload_n 1, 1) := by decide +kernel
theorem dLooker_leaf_5 : decode bLooker_leaf 5 = .ok (.invokevirtual 138, 3) := by decide +kernel
theorem dLooker_leaf_8 : decode bLooker_leaf 8 = .ok (.istore 4, 2) := by decide +kernel
theorem dLooker_leaf_10 : decode bLooker_leaf 10 = .ok (.aload_n 0, 1) := by decide +kernel
theorem dLooker_leaf_11 : decode bLooker_leaf 11 = .ok (.getfield 35, 3) := by decide +kernel
theorem dLooker_leaf_14 : decode bLooker_leaf 14 = .ok (.iload_n 1, 1) := by decide +kernel
theorem dLooker_leaf_15 : decode bLooker_leaf 15 = .ok (.invokevirtual 160, 3) := by decide +kernel
theorem dLooker_leaf_18 : decode bLooker_leaf 18 = .ok (.ifCond .ne 14, 3) := by decide +kernel
theorem dLooker_leaf_21 : decode bLooker_leaf 21 = .ok (.iload 4, 2) := by decide +kernel
theorem dLooker_leaf_23 : decode bLooker_leaf 23 = .ok (.ifCond .lt 9, 3) := by decide +kernel
theorem dLooker_leaf_26 : decode bLooker_leaf 26 = .ok (.iload 4, 2) := by decide +kernel
theorem dLooker_leaf_28 : decode bLooker_leaf 28 = .ok (.iload_n 3, 1) := by decide +kernel
theorem dLooker_leaf_29 : decode bLooker_leaf 29 = .ok (.if_icmp .le 6, 3) := by decide +kernel
theorem dLooker_leaf_32 : decode bLooker_leaf 32 = .ok (.bipush 11, 2) := by decide +kernel
theorem dLooker_leaf_34 : decode bLooker_leaf 34 = .ok (.ireturn, 1) := by decide +kernel
theorem dLooker_leaf_35 : decode bLooker_leaf 35 = .ok (.aload_n 0, 1) := by decide +kernel
theorem dLooker_leaf_36 : decode bLooker_leaf 36 = .ok (.getfield 12, 3) := by decide +kernel
theorem dLooker_leaf_39 : decode bLooker_leaf 39 = .ok (.iload_n 1, 1) := by decide +kernel
theorem dLooker_leaf_40 : decode bLooker_leaf 40 = .ok (.iload_n 2, 1) := by decide +kernel
theorem dLooker_leaf_41 : decode bLooker_leaf 41 = .ok (.iconst 0, 1) := by decide +kernel
theorem dLooker_leaf_42 : decode bLooker_leaf 42 = .ok (.iconst 1, 1) := by decide +kernel
theorem dLooker_leaf_43 : decode bLooker_leaf 43 = .ok (.invokevirtual 163, 3) := by decide +kernel
theorem dLooker_leaf_46 : decode bLooker_leaf 46 = .ok (.aload_n 0, 1) := by decide +kernel
theorem dLooker_leaf_47 : decode bLooker_leaf 47 = .ok (.getfield 12, 3) := by decide +kernel
theorem dLooker_leaf_50 : decode bLooker_leaf 50 = .ok (.iload_n 1, 1) := by decide +kernel
theorem dLooker_leaf_51 : decode bLooker_leaf 51 = .ok (.iload 4, 2) := by decide +kernel
theorem dLooker_leaf_53 : decode bLooker_leaf 53 = .ok (.invokevirtual 167, 3) := by decide +kernel
theorem dLooker_leaf_56 : decode bLooker_leaf 56 = .ok (.iconst 0, 1) := by decide +kernel
theorem dLooker_leaf_57 : decode bLooker_leaf 57 = .ok (.ireturn, 1) := by decide +kernel
theorem dLooker_signs_0 : decode bLooker_signs 0 = .ok (.aload_n 0, 1) := by decide +kernel
theorem dLooker_signs_1 : decode bLooker_signs 1 = .ok (.getfield 35, 3) := by decide +kernel
theorem dLooker_signs_4 : decode bLooker_signs 4 = .ok (.iload_n 1, 1) := by decide +kernel
theorem dLooker_signs_5 : decode bLooker_signs 5 = .ok (.invokevirtual 160, 3) := by decide +kernel
theorem dLooker_signs_8 : decode bLooker_signs 8 = .ok (.istore_n 2, 1) := by decide +kernel
theorem dLooker_signs_9 : decode bLooker_signs 9 = .ok (.iload_n 2, 1) := by decide +kernel
theorem dLooker_signs_10 : decode bLooker_signs 10 = .ok (.iconst 1, 1) := by decide +kernel
theorem dLooker_signs_11 : decode bLooker_signs 11 = .ok (.if_icmp .lt 9, 3) := by decide +kernel
theorem dLooker_signs_14 : decode bLooker_signs 14 = .ok (.iload_n 2, 1) := by decide +kernel
theorem dLooker_signs_15 : decode bLooker_signs 15 = .ok (.bipush 64, 2) := by decide +kernel
theorem dLooker_signs_17 : decode bLooker_signs 17 = .ok (.if_icmp .le 6, 3) := by decide +kernel
theorem dLooker_signs_20 : decode bLooker_signs 20 = .ok (.bipush 11, 2) := by decide +kernel
theorem dLooker_signs_22 : decode bLooker_signs 22 = .ok (.ireturn, 1) := by decide +kernel
theorem dLooker_signs_23 : decode bLooker_signs 23 = .ok (.iload_n 1, 1) := by decide +kernel
theorem dLooker_signs_24 : decode bLooker_signs 24 = .ok (.iconst 1, 1) := by decide +kernel
theorem dLooker_signs_25 : decode bLooker_signs 25 = .ok (.isub, 1) := by decide +kernel
theorem dLooker_signs_26 : decode bLooker_signs 26 = .ok (.istore_n 3, 1) := by decide +kernel
theorem dLooker_signs_27 : decode bLooker_signs 27 = .ok (.iconst 0, 1) := by decide +kernel
theorem dLooker_signs_28 : decode bLooker_signs 28 = .ok (.istore 4, 2) := by decide +kernel
theorem dLooker_signs_30 : decode bLooker_signs 30 = .ok (.iload 4, 2) := by decide +kernel
theorem dLooker_signs_32 : decode bLooker_signs 32 = .ok (.iload_n 2, 1) := by decide +kernel
theorem dLooker_signs_33 : decode bLooker_signs 33 = .ok (.if_icmp .ge 56, 3) := by decide +kernel
theorem dLooker_signs_36 : decode bLooker_signs 36 = .ok (.aload_n 0, 1) := by decide +kernel
theorem dLooker_signs_37 : decode bLooker_signs 37 = .ok (.getfield 35, 3) := by decide +kernel
theorem dLooker_signs_40 : decode bLooker_signs 40 = .ok (.iload_n 3, 1) := by decide +kernel
theorem dLooker_signs_41 : decode bLooker_signs 41 = .ok (.invokevirtual 80, 3) := by decide +kernel
theorem dLooker_signs_44 : decode bLooker_signs 44 = .ok (.iconst 3, 1) := by decide +kernel
theorem dLooker_signs_45 : decode bLooker_signs 45 = .ok (.if_icmp .eq 6, 3) := by decide +kernel
theorem dLooker_signs_48 : decode bLooker_signs 48 = .ok (.bipush 11, 2) := by decide +kernel
theorem dLooker_signs_50 : decode bLooker_signs 50 = .ok (.ireturn, 1) := by decide +kernel
theorem dLooker_signs_51 : decode bLooker_signs 51 = .ok (.aload_n 0, 1) := by decide +kernel
theorem dLooker_signs_52 : decode bLooker_signs 52 = .ok (.getfield 12, 3) := by decide +kernel
theorem dLooker_signs_55 : decode bLooker_signs 55 = .ok (.getfield 171, 3) := by decide +kernel
theorem dLooker_signs_58 : decode bLooker_signs 58 = .ok (.iload_n 1, 1) := by decide +kernel
theorem dLooker_signs_59 : decode bLooker_signs 59 = .ok (.iload 4, 2) := by decide +kernel
theorem dLooker_signs_61 : decode bLooker_signs 61 = .ok (.aload_n 0, 1) := by decide +kernel
theorem dLooker_signs_62 : decode bLooker_signs 62 = .ok (.getfield 35, 3) := by decide +kernel
theorem dLooker_signs_65 : decode bLooker_signs 65 = .ok (.iload_n 3, 1) := by decide +kernel
theorem dLooker_signs_66 : decode bLooker_signs 66 = .ok (.invokevirtual 138, 3) := by decide +kernel
theorem dLooker_signs_69 : decode bLooker_signs 69 = .ok (.invokevirtual 175, 3) := by decide +kernel
theorem dLooker_signs_72 : decode bLooker_signs 72 = .ok (.aload_n 0, 1) := by decide +kernel
theorem dLooker_signs_73 : decode bLooker_signs 73 = .ok (.getfield 35, 3) := by decide +kernel
theorem dLooker_signs_76 : decode bLooker_signs 76 = .ok (.iload_n 3, 1) := by decide +kernel
theorem dLooker_signs_77 : decode bLooker_signs 77 = .ok (.invokevirtual 67, 3) := by decide +kernel
theorem dLooker_signs_80 : decode bLooker_signs 80 = .ok (.iconst 1, 1) := by decide +kernel
theorem dLooker_signs_81 : decode bLooker_signs 81 = .ok (.isub, 1) := by decide +kernel
theorem dLooker_signs_82 : decode bLooker_signs 82 = .ok (.istore_n 3, 1) := by decide +kernel
theorem dLooker_signs_83 : decode bLooker_signs 83 = .ok (.iinc 4 1, 3) := by decide +kernel
theorem dLooker_signs_86 : decode bLooker_signs 86 = .ok (.goto (-56), 3) := by decide +kernel
theorem dLooker_signs_89 : decode bLooker_signs 89 = .ok (.aload_n 0, 1) := by decide +kernel
theorem dLooker_signs_90 : decode bLooker_signs 90 = .ok (.getfield 12, 3) := by decide +kernel
theorem dLooker_signs_93 : decode bLooker_signs 93 = .ok (.iload_n 1, 1) := by decide +kernel
theorem dLooker_signs_94 : decode bLooker_signs 94 = .ok (.iconst 3, 1) := by decide +kernel
theorem dLooker_signs_95 : decode bLooker_signs 95 = .ok (.iload_n 2, 1) := by decide +kernel
theorem dLooker_signs_96 : decode bLooker_signs 96 = .ok (.iconst 1, 1) := by decide +kernel
theorem dLooker_signs_97 : decode bLooker_signs 97 = .ok (.invokevirtual 163, 3) := by decide +kernel
theorem dLooker_signs_100 : decode bLooker_signs 100 = .ok (.iconst 0, 1) := by decide +kernel
theorem dLooker_signs_101 : decode bLooker_signs 101 = .ok (.ireturn, 1) := by decide +kernel
theorem dLooker_typeFault_0 : decode bLooker_typeFault 0 = .ok (.aload_n 0, 1) := by decide +kernel
theorem dLooker_typeFault_1 : decode bLooker_typeFault 1 = .ok (.getfield 35, 3) := by decide +kernel
theorem dLooker_typeFault_4 : decode bLooker_typeFault 4 = .ok (.iload_n 1, 1) := by decide +kernel
theorem dLooker_typeFault_5 : decode bLooker_typeFault 5 = .ok (.invokevirtual 80, 3) := by decide +kernel
theorem dLooker_typeFault_8 : decode bLooker_typeFault 8 = .ok (.istore_n 2, 1) := by decide +kernel
theorem dLooker_typeFault_9 : decode bLooker_typeFault 9 = .ok (.iload_n 2, 1) := by decide +kernel
theorem dLooker_typeFault_10 : decode bLooker_typeFault 10 = .ok (.bipush 10, 2) := by decide +kernel
theorem dLooker_typeFault_12 : decode bLooker_typeFault 12 = .ok (.if_icmp .ne 9, 3) := by decide +kernel
theorem dLooker_typeFault_15 : decode bLooker_typeFault 15 = .ok (.aload_n 0, 1) := by decide +kernel
theorem dLooker_typeFault_16 : decode bLooker_typeFault 16 = .ok (.iload_n 1, 1) := by decide +kernel
theorem dLooker_typeFault_17 : decode bLooker_typeFault 17 = .ok (.invokevirtual 181, 3) := by decide +kernel
theorem dLooker_typeFault_20 : decode bLooker_typeFault 20 = .ok (.ireturn, 1) := by decide +kernel
theorem dLooker_typeFault_21 : decode bLooker_typeFault 21 = .ok (.iload_n 2, 1) := by decide +kernel
theorem dLooker_typeFault_22 : decode bLooker_typeFault 22 = .ok (.bipush 11, 2) := by decide +kernel
theorem dLooker_typeFault_24 : decode bLooker_typeFault 24 = .ok (.if_icmp .lt 21, 3) := by decide +kernel
theorem dLooker_typeFault_27 : decode bLooker_typeFault 27 = .ok (.iload_n 2, 1) := by decide +kernel
theorem dLooker_typeFault_28 : decode bLooker_typeFault 28 = .ok (.bipush 13, 2) := by decide +kernel
theorem dLooker_typeFault_30 : decode bLooker_typeFault 30 = .ok (.if_icmp .gt 15, 3) := by decide +kernel
theorem dLooker_typeFault_33 : decode bLooker_typeFault 33 = .ok (.aload_n 0, 1) := by decide +kernel
theorem dLooker_typeFault_34 : decode bLooker_typeFault 34 = .ok (.getfield 35, 3) := by decide +kernel
theorem dLooker_typeFault_37 : decode bLooker_typeFault 37 = .ok (.iload_n 1, 1) := by decide +kernel
theorem dLooker_typeFault_38 : decode bLooker_typeFault 38 = .ok (.invokevirtual 160, 3) := by decide +kernel
theorem dLooker_typeFault_41 : decode bLooker_typeFault 41 = .ok (.iconst 2, 1) := by decide +kernel
theorem dLooker_typeFault_42 : decode bLooker_typeFault 42 = .ok (.if_icmp .eq 6, 3) := by decide +kernel
theorem dLooker_typeFault_45 : decode bLooker_typeFault 45 = .ok (.bipush 11, 2) := by decide +kernel
theorem dLooker_typeFault_47 : decode bLooker_typeFault 47 = .ok (.ireturn, 1) := by decide +kernel
theorem dLooker_typeFault_48 : decode bLooker_typeFault 48 = .ok (.aload_n 0, 1) := by decide +kernel
theorem dLooker_typeFault_49 : decode bLooker_typeFault 49 = .ok (.getfield 35, 3) := by decide +kernel
theorem dLooker_typeFault_52 : decode bLooker_typeFault 52 = .ok (.iload_n 1, 1) := by decide +kernel
theorem dLooker_typeFault_53 : decode bLooker_typeFault 53 = .ok (.invokevirtual 138, 3) := by decide +kernel
theorem dLooker_typeFault_56 : decode bLooker_typeFault 56 = .ok (.iload_n 2, 1) := by decide +kernel
theorem dLooker_typeFault_57 : decode bLooker_typeFault 57 = .ok (.bipush 11, 2) := by decide +kernel
theorem dLooker_typeFault_59 : decode bLooker_typeFault 59 = .ok (.if_icmp .ne 7, 3) := by decide +kernel
theorem dLooker_typeFault_62 : decode bLooker_typeFault 62 = .ok (.iconst 0, 1) := by decide +kernel
theorem dLooker_typeFault_63 : decode bLooker_typeFault 63 = .ok (.goto 4, 3) := by decide +kernel
theorem dLooker_typeFault_66 : decode bLooker_typeFault 66 = .ok (.iconst 5, 1) := by decide +kernel
theorem dLooker_typeFault_67 : decode bLooker_typeFault 67 = .ok (.if_icmp .eq 5, 3) := by decide +kernel
theorem dLooker_typeFault_70 : decode bLooker_typeFault 70 = .ok (.iconst 2, 1) := by decide +kernel
theorem dLooker_typeFault_71 : decode bLooker_typeFault 71 = .ok (.ireturn, 1) := by decide +kernel
theorem dLooker_typeFault_72 : decode bLooker_typeFault 72 = .ok (.aload_n 0, 1) := by decide +kernel
theorem dLooker_typeFault_73 : decode bLooker_typeFault 73 = .ok (.getfield 35, 3) := by decide +kernel
theorem dLooker_typeFault_76 : decode bLooker_typeFault 76 = .ok (.iload_n 1, 1) := by decide +kernel
theorem dLooker_typeFault_77 : decode bLooker_typeFault 77 = .ok (.invokevirtual 144, 3) := by decide +kernel
theorem dLooker_typeFault_80 : decode bLooker_typeFault 80 = .ok (.istore_n 3, 1) := by decide +kernel
theorem dLooker_typeFault_81 : decode bLooker_typeFault 81 = .ok (.iload_n 1, 1) := by decide +kernel
theorem dLooker_typeFault_82 : decode bLooker_typeFault 82 = .ok (.iconst 1, 1) := by decide +kernel
theorem dLooker_typeFault_83 : decode bLooker_typeFault 83 = .ok (.isub, 1) := by decide +kernel
theorem dLooker_typeFault_84 : decode bLooker_typeFault 84 = .ok (.istore 4, 2) := by decide +kernel
theorem dLooker_typeFault_86 : decode bLooker_typeFault 86 = .ok (.aload_n 0, 1) := by decide +kernel
theorem dLooker_typeFault_87 : decode bLooker_typeFault 87 = .ok (.getfield 12, 3) := by decide +kernel
theorem dLooker_typeFault_90 : decode bLooker_typeFault 90 = .ok (.iload_n 3, 1) := by decide +kernel
theorem dLooker_typeFault_91 : decode bLooker_typeFault 91 = .ok (.invokevirtual 101, 3) := by decide +kernel
theorem dLooker_typeFault_94 : decode bLooker_typeFault 94 = .ok (.iconst 2, 1) := by decide +kernel
theorem dLooker_typeFault_95 : decode bLooker_typeFault 95 = .ok (.if_icmp .ne 16, 3) := by decide +kernel
theorem dLooker_typeFault_98 : decode bLooker_typeFault 98 = .ok (.aload_n 0, 1) := by decide +kernel
theorem dLooker_typeFault_99 : decode bLooker_typeFault 99 = .ok (.getfield 12, 3) := by decide +kernel
theorem dLooker_typeFault_102 : decode bLooker_typeFault 102 = .ok (.iload 4, 2) := by decide +kernel
theorem dLooker_typeFault_104 : decode bLooker_typeFault 104 = .ok (.invokevirtual 101, 3) := by decide +kernel
theorem dLooker_typeFault_107 : decode bLooker_typeFault 107 = .ok (.iconst 2, 1) := by decide +kernel
theorem dLooker_typeFault_108 : decode bLooker_typeFault 108 = .ok (.if_icmp .eq 5, 3) := by decide +kernel
theorem dLooker_typeFault_111 : decode bLooker_typeFault 111 = .ok (.iconst 3, 1) := by decide +kernel
theorem dLooker_typeFault_112 : decode bLooker_typeFault 112 = .ok (.ireturn, 1) := by decide +kernel
theorem dLooker_typeFault_113 : decode bLooker_typeFault 113 = .ok (.aload_n 0, 1) := by decide +kernel
theorem dLooker_typeFault_114 : decode bLooker_typeFault 114 = .ok (.getfield 12, 3) := by decide +kernel
theorem dLooker_typeFault_117 : decode bLooker_typeFault 117 = .ok (.iload_n 3, 1) := by decide +kernel
theorem dLooker_typeFault_118 : decode bLooker_typeFault 118 = .ok (.invokevirtual 87, 3) := by decide +kernel
theorem dLooker_typeFault_121 : decode bLooker_typeFault 121 = .ok (.ifCond .eq 15, 3) := by decide +kernel
theorem dLooker_typeFault_124 : decode bLooker_typeFault 124 = .ok (.aload_n 0, 1) := by decide +kernel
theorem dLooker_typeFault_125 : decode bLooker_typeFault 125 = .ok (.getfield 12, 3) := by decide +kernel
theorem dLooker_typeFault_128 : decode bLooker_typeFault 128 = .ok (.iload 4, 2) := by decide +kernel
theorem dLooker_typeFault_130 : decode bLooker_typeFault 130 = .ok (.invokevirtual 87, 3) := by decide +kernel
theorem dLooker_typeFault_133 : decode bLooker_typeFault 133 = .ok (.ifCond .ne 5, 3) := by decide +kernel
theorem dLooker_typeFault_136 : decode bLooker_typeFault 136 = .ok (.iconst 5, 1) := by decide +kernel
theorem dLooker_typeFault_137 : decode bLooker_typeFault 137 = .ok (.ireturn, 1) := by decide +kernel
theorem dLooker_typeFault_138 : decode bLooker_typeFault 138 = .ok (.iload_n 2, 1) := by decide +kernel
theorem dLooker_typeFault_139 : decode bLooker_typeFault 139 = .ok (.aload_n 0, 1) := by decide +kernel
theorem dLooker_typeFault_140 : decode bLooker_typeFault 140 = .ok (.getfield 12, 3) := by decide +kernel
theorem dLooker_typeFault_143 : decode bLooker_typeFault 143 = .ok (.iload_n 3, 1) := by decide +kernel
theorem dLooker_typeFault_144 : decode bLooker_typeFault 144 = .ok (.invokevirtual 111, 3) := by decide +kernel
theorem dLooker_typeFault_147 : decode bLooker_typeFault 147 = .ok (.aload_n 0, 1) := by decide +kernel
theorem dLooker_typeFault_148 : decode bLooker_typeFault 148 = .ok (.getfield 12, 3) := by decide +kernel
theorem dLooker_typeFault_151 : decode bLooker_typeFault 151 = .ok (.iload 4, 2) := by decide +kernel
theorem dLooker_typeFault_153 : decode bLooker_typeFault 153 = .ok (.invokevirtual 111, 3) := by decide +kernel
theorem dLooker_typeFault_156 : decode bLooker_typeFault 156 = .ok (.invokestatic 184, 3) := by decide +kernel
theorem dLooker_typeFault_159 : decode bLooker_typeFault 159 = .ok (.ireturn, 1) := by decide +kernel
theorem dLooker_namedTypeFault_0 : decode bLooker_namedTypeFault 0 = .ok (.aload_n 0, 1) := by decide +kernel
theorem dLooker_namedTypeFault_1 : decode bLooker_namedTypeFault 1 = .ok (.getfield 35, 3) := by decide +kernel
theorem dLooker_namedTypeFault_4 : decode bLooker_namedTypeFault 4 = .ok (.iload_n 1, 1) := by decide +kernel
theorem dLooker_namedTypeFault_5 : decode bLooker_namedTypeFault 5 = .ok (.invokevirtual 160, 3) := by decide +kernel
theorem dLooker_namedTypeFault_8 : decode bLooker_namedTypeFault 8 = .ok (.ifCond .eq 6, 3) := by decide +kernel
theorem dLooker_namedTypeFault_11 : decode bLooker_namedTypeFault 11 = .ok (.bipush 11, 2) := by decide +kernel
theorem dLooker_namedTypeFault_13 : decode bLooker_namedTypeFault 13 = .ok (.ireturn, 1) := by decide +kernel
theorem dLooker_namedTypeFault_14 : decode bLooker_namedTypeFault 14 = .ok (.aload_n 0, 1) := by decide +kernel
theorem dLooker_namedTypeFault_15 : decode bLooker_namedTypeFault 15 = .ok (.getfield 39, 3) := by decide +kernel
theorem dLooker_namedTypeFault_18 : decode bLooker_namedTypeFault 18 = .ok (.aload_n 0, 1) := by decide +kernel
theorem dLooker_namedTypeFault_19 : decode bLooker_namedTypeFault 19 = .ok (.getfield 35, 3) := by decide +kernel
theorem dLooker_namedTypeFault_22 : decode bLooker_namedTypeFault 22 = .ok (.iload_n 1, 1) := by decide +kernel
theorem dLooker_namedTypeFault_23 : decode bLooker_namedTypeFault 23 = .ok (.invokevirtual 138, 3) := by decide +kernel
theorem dLooker_namedTypeFault_26 : decode bLooker_namedTypeFault 26 = .ok (.invokevirtual 187, 3) := by decide +kernel
theorem dLooker_namedTypeFault_29 : decode bLooker_namedTypeFault 29 = .ok (.istore_n 2, 1) := by decide +kernel
theorem dLooker_namedTypeFault_30 : decode bLooker_namedTypeFault 30 = .ok (.iload_n 2, 1) := by decide +kernel
theorem dLooker_namedTypeFault_31 : decode bLooker_namedTypeFault 31 = .ok (.iconst (-1), 1) := by decide +kernel
theorem dLooker_namedTypeFault_32 : decode bLooker_namedTypeFault 32 = .ok (.if_icmp .ne 7, 3) := by decide +kernel
theorem dLooker_namedTypeFault_35 : decode bLooker_namedTypeFault 35 = .ok (.iconst 1, 1) := by decide +kernel
theorem dLooker_namedTypeFault_36 : decode bLooker_namedTypeFault 36 = .ok (.goto 20, 3) := by decide +kernel
theorem dLooker_namedTypeFault_39 : decode bLooker_namedTypeFault 39 = .ok (.aload_n 0, 1) := by decide +kernel
theorem dLooker_namedTypeFault_40 : decode bLooker_namedTypeFault 40 = .ok (.getfield 39, 3) := by decide +kernel
theorem dLooker_namedTypeFault_43 : decode bLooker_namedTypeFault 43 = .ok (.iload_n 2, 1) := by decide +kernel
theorem dLooker_namedTypeFault_44 : decode bLooker_namedTypeFault 44 = .ok (.invokevirtual 192, 3) := by decide +kernel
theorem dLooker_namedTypeFault_47 : decode bLooker_namedTypeFault 47 = .ok (.iconst 1, 1) := by decide +kernel
theorem dLooker_namedTypeFault_48 : decode bLooker_namedTypeFault 48 = .ok (.if_icmp .ne 7, 3) := by decide +kernel
theorem dLooker_namedTypeFault_51 : decode bLooker_namedTypeFault 51 = .ok (.iconst 0, 1) := by decide +kernel
theorem dLooker_namedTypeFault_52 : decode bLooker_namedTypeFault 52 = .ok (.goto 4, 3) := by decide +kernel
theorem dLooker_namedTypeFault_55 : decode bLooker_namedTypeFault 55 = .ok (.iconst 2, 1) := by decide +kernel
theorem dLooker_namedTypeFault_56 : decode bLooker_namedTypeFault 56 = .ok (.ireturn, 1) := by decide +kernel
theorem dLooker_boundsFault_0 : decode bLooker_boundsFault 0 = .ok (.iload_n 0, 1) := by decide +kernel
theorem dLooker_boundsFault_1 : decode bLooker_boundsFault 1 = .ok (.bipush 11, 2) := by decide +kernel
theorem dLooker_boundsFault_3 : decode bLooker_boundsFault 3 = .ok (.if_icmp .ne 15, 3) := by decide +kernel
theorem dLooker_boundsFault_6 : decode bLooker_boundsFault 6 = .ok (.iload_n 1, 1) := by decide +kernel
theorem dLooker_boundsFault_7 : decode bLooker_boundsFault 7 = .ok (.iload_n 2, 1) := by decide +kernel
theorem dLooker_boundsFault_8 : decode bLooker_boundsFault 8 = .ok (.if_icmp .le 8, 3) := by decide +kernel
theorem dLooker_boundsFault_11 : decode bLooker_boundsFault 11 = .ok (.bipush 8, 2) := by decide +kernel
theorem dLooker_boundsFault_13 : decode bLooker_boundsFault 13 = .ok (.goto 4, 3) := by decide +kernel
theorem dLooker_boundsFault_16 : decode bLooker_boundsFault 16 = .ok (.iconst 0, 1) := by decide +kernel
theorem dLooker_boundsFault_17 : decode bLooker_boundsFault 17 = .ok (.ireturn, 1) := by decide +kernel
theorem dLooker_boundsFault_18 : decode bLooker_boundsFault 18 = .ok (.iload_n 0, 1) := by decide +kernel
theorem dLooker_boundsFault_19 : decode bLooker_boundsFault 19 = .ok (.iload_n 1, 1) := by decide +kernel
theorem dLooker_boundsFault_20 : decode bLooker_boundsFault 20 = .ok (.i2l, 1) := by decide +kernel
theorem dLooker_boundsFault_21 : decode bLooker_boundsFault 21 = .ok (.iload_n 2, 1) := by decide +kernel
theorem dLooker_boundsFault_22 : decode bLooker_boundsFault 22 = .ok (.i2l, 1) := by decide +kernel
theorem dLooker_boundsFault_23 : decode bLooker_boundsFault 23 = .ok (.invokestatic 195, 3) := by decide +kernel
theorem dLooker_boundsFault_26 : decode bLooker_boundsFault 26 = .ok (.lstore_n 3, 1) := by decide +kernel
theorem dLooker_boundsFault_27 : decode bLooker_boundsFault 27 = .ok (.lload_n 3, 1) := by decide +kernel
theorem dLooker_boundsFault_28 : decode bLooker_boundsFault 28 = .ok (.ldc2_w 199, 3) := by decide +kernel
theorem dLooker_boundsFault_31 : decode bLooker_boundsFault 31 = .ok (.lcmp, 1) := by decide +kernel
theorem dLooker_boundsFault_32 : decode bLooker_boundsFault 32 = .ok (.ifCond .le 5, 3) := by decide +kernel
theorem dLooker_boundsFault_35 : decode bLooker_boundsFault 35 = .ok (.iconst 4, 1) := by decide +kernel
theorem dLooker_boundsFault_36 : decode bLooker_boundsFault 36 = .ok (.ireturn, 1) := by decide +kernel
theorem dLooker_boundsFault_37 : decode bLooker_boundsFault 37 = .ok (.iload_n 1, 1) := by decide +kernel
theorem dLooker_boundsFault_38 : decode bLooker_boundsFault 38 = .ok (.ifCond .lt 13, 3) := by decide +kernel
theorem dLooker_boundsFault_41 : decode bLooker_boundsFault 41 = .ok (.iload_n 2, 1) := by decide +kernel
theorem dLooker_boundsFault_42 : decode bLooker_boundsFault 42 = .ok (.ifCond .lt 9, 3) := by decide +kernel
theorem dLooker_boundsFault_45 : decode bLooker_boundsFault 45 = .ok (.lload_n 3, 1) := by decide +kernel
theorem dLooker_boundsFault_46 : decode bLooker_boundsFault 46 = .ok (.lconst 1, 1) := by decide +kernel
theorem dLooker_boundsFault_47 : decode bLooker_boundsFault 47 = .ok (.lcmp, 1) := by decide +kernel
theorem dLooker_boundsFault_48 : decode bLooker_boundsFault 48 = .ok (.ifCond .ge 8, 3) := by decide +kernel
theorem dLooker_boundsFault_51 : decode bLooker_boundsFault 51 = .ok (.bipush 6, 2) := by decide +kernel
theorem dLooker_boundsFault_53 : decode bLooker_boundsFault 53 = .ok (.goto 4, 3) := by decide +kernel
theorem dLooker_boundsFault_56 : decode bLooker_boundsFault 56 = .ok (.iconst 0, 1) := by decide +kernel
theorem dLooker_boundsFault_57 : decode bLooker_boundsFault 57 = .ok (.ireturn, 1) := by decide +kernel
theorem dLooker_elementsOf_0 : decode bLooker_elementsOf 0 = .ok (.iload_n 0, 1) := by decide +kernel
theorem dLooker_elementsOf_1 : decode bLooker_elementsOf 1 = .ok (.bipush 12, 2) := by decide +kernel
theorem dLooker_elementsOf_3 : decode bLooker_elementsOf 3 = .ok (.if_icmp .ne 11, 3) := by decide +kernel
theorem dLooker_elementsOf_6 : decode bLooker_elementsOf 6 = .ok (.lload_n 3, 1) := by decide +kernel
theorem dLooker_elementsOf_7 : decode bLooker_elementsOf 7 = .ok (.lload_n 1, 1) := by decide +kernel
theorem dLooker_elementsOf_8 : decode bLooker_elementsOf 8 = .ok (.lsub, 1) := by decide +kernel
theorem dLooker_elementsOf_9 : decode bLooker_elementsOf 9 = .ok (.lconst 1, 1) := by decide +kernel
theorem dLooker_elementsOf_10 : decode bLooker_elementsOf 10 = .ok (.ladd, 1) := by decide +kernel
theorem dLooker_elementsOf_11 : decode bLooker_elementsOf 11 = .ok (.goto 8, 3) := by decide +kernel
theorem dLooker_elementsOf_14 : decode bLooker_elementsOf 14 = .ok (.lload_n 1, 1) := by decide +kernel
theorem dLooker_elementsOf_15 : decode bLooker_elementsOf 15 = .ok (.lload_n 3, 1) := by decide +kernel
theorem dLooker_elementsOf_16 : decode bLooker_elementsOf 16 = .ok (.lsub, 1) := by decide +kernel
theorem dLooker_elementsOf_17 : decode bLooker_elementsOf 17 = .ok (.lconst 1, 1) := by decide +kernel
theorem dLooker_elementsOf_18 : decode bLooker_elementsOf 18 = .ok (.ladd, 1) := by decide +kernel
theorem dLooker_elementsOf_19 : decode bLooker_elementsOf 19 = .ok (.lreturn, 1) := by decide +kernel
theorem dLooker_namedType_0 : decode bLooker_namedType 0 = .ok (.aload_n 0, 1) := by decide +kernel
theorem dLooker_namedType_1 : decode bLooker_namedType 1 = .ok (.getfield 39, 3) := by decide +kernel
theorem dLooker_namedType_4 : decode bLooker_namedType 4 = .ok (.aload_n 0, 1) := by decide +kernel
theorem dLooker_namedType_5 : decode bLooker_namedType 5 = .ok (.getfield 39, 3) := by decide +kernel
theorem dLooker_namedType_8 : decode bLooker_namedType 8 = .ok (.aload_n 0, 1) := by decide +kernel
theorem dLooker_namedType_9 : decode bLooker_namedType 9 = .ok (.getfield 35, 3) := by decide +kernel
theorem dLooker_namedType_12 : decode bLooker_namedType 12 = .ok (.iload_n 1, 1) := by decide +kernel
theorem dLooker_namedType_13 : decode bLooker_namedType 13 = .ok (.invokevirtual 138, 3) := by decide +kernel
theorem dLooker_namedType_16 : decode bLooker_namedType 16 = .ok (.invokevirtual 187, 3) := by decide +kernel
theorem dLooker_namedType_19 : decode bLooker_namedType 19 = .ok (.invokevirtual 201, 3) := by decide +kernel
theorem dLooker_namedType_22 : decode bLooker_namedType 22 = .ok (.ireturn, 1) := by decide +kernel
theorem dLooker_newType_0 : decode bLooker_newType 0 = .ok (.aload_n 0, 1) := by decide +kernel
theorem dLooker_newType_1 : decode bLooker_newType 1 = .ok (.getfield 35, 3) := by decide +kernel
theorem dLooker_newType_4 : decode bLooker_newType 4 = .ok (.iload_n 1, 1) := by decide +kernel
theorem dLooker_newType_5 : decode bLooker_newType 5 = .ok (.invokevirtual 80, 3) := by decide +kernel
theorem dLooker_newType_8 : decode bLooker_newType 8 = .ok (.istore_n 2, 1) := by decide +kernel
theorem dLooker_newType_9 : decode bLooker_newType 9 = .ok (.aload_n 0, 1) := by decide +kernel
theorem dLooker_newType_10 : decode bLooker_newType 10 = .ok (.getfield 12, 3) := by decide +kernel
theorem dLooker_newType_13 : decode bLooker_newType 13 = .ok (.aload_n 0, 1) := by decide +kernel
theorem dLooker_newType_14 : decode bLooker_newType 14 = .ok (.getfield 35, 3) := by decide +kernel
theorem dLooker_newType_17 : decode bLooker_newType 17 = .ok (.iload_n 1, 1) := by decide +kernel
theorem dLooker_newType_18 : decode bLooker_newType 18 = .ok (.invokevirtual 144, 3) := by decide +kernel
theorem dLooker_newType_21 : decode bLooker_newType 21 = .ok (.invokevirtual 111, 3) := by decide +kernel
theorem dLooker_newType_24 : decode bLooker_newType 24 = .ok (.istore_n 3, 1) := by decide +kernel
theorem dLooker_newType_25 : decode bLooker_newType 25 = .ok (.aload_n 0, 1) := by decide +kernel
theorem dLooker_newType_26 : decode bLooker_newType 26 = .ok (.getfield 12, 3) := by decide +kernel
theorem dLooker_newType_29 : decode bLooker_newType 29 = .ok (.iload_n 1, 1) := by decide +kernel
theorem dLooker_newType_30 : decode bLooker_newType 30 = .ok (.iconst 1, 1) := by decide +kernel
theorem dLooker_newType_31 : decode bLooker_newType 31 = .ok (.isub, 1) := by decide +kernel
theorem dLooker_newType_32 : decode bLooker_newType 32 = .ok (.invokevirtual 111, 3) := by decide +kernel
theorem dLooker_newType_35 : decode bLooker_newType 35 = .ok (.istore 4, 2) := by decide +kernel
theorem dLooker_newType_37 : decode bLooker_newType 37 = .ok (.iload_n 2, 1) := by decide +kernel
theorem dLooker_newType_38 : decode bLooker_newType 38 = .ok (.bipush 11, 2) := by decide +kernel
theorem dLooker_newType_40 : decode bLooker_newType 40 = .ok (.if_icmp .ne 16, 3) := by decide +kernel
theorem dLooker_newType_43 : decode bLooker_newType 43 = .ok (.aload_n 0, 1) := by decide +kernel
theorem dLooker_newType_44 : decode bLooker_newType 44 = .ok (.getfield 43, 3) := by decide +kernel
theorem dLooker_newType_47 : decode bLooker_newType 47 = .ok (.iconst 2, 1) := by decide +kernel
theorem dLooker_newType_48 : decode bLooker_newType 48 = .ok (.iload_n 3, 1) := by decide +kernel
theorem dLooker_newType_49 : decode bLooker_newType 49 = .ok (.iload 4, 2) := by decide +kernel
theorem dLooker_newType_51 : decode bLooker_newType 51 = .ok (.iconst 0, 1) := by decide +kernel
theorem dLooker_newType_52 : decode bLooker_newType 52 = .ok (.invokevirtual 202, 3) := by decide +kernel
theorem dLooker_newType_55 : decode bLooker_newType 55 = .ok (.ireturn, 1) := by decide +kernel
theorem dLooker_newType_56 : decode bLooker_newType 56 = .ok (.iload_n 2, 1) := by decide +kernel
theorem dLooker_newType_57 : decode bLooker_newType 57 = .ok (.iload_n 3, 1) := by decide +kernel
theorem dLooker_newType_58 : decode bLooker_newType 58 = .ok (.i2l, 1) := by decide +kernel
theorem dLooker_newType_59 : decode bLooker_newType 59 = .ok (.iload 4, 2) := by decide +kernel
theorem dLooker_newType_61 : decode bLooker_newType 61 = .ok (.i2l, 1) := by decide +kernel
theorem dLooker_newType_62 : decode bLooker_newType 62 = .ok (.invokestatic 195, 3) := by decide +kernel
theorem dLooker_newType_65 : decode bLooker_newType 65 = .ok (.l2i, 1) := by decide +kernel
theorem dLooker_newType_66 : decode bLooker_newType 66 = .ok (.istore 5, 2) := by decide +kernel
theorem dLooker_newType_68 : decode bLooker_newType 68 = .ok (.aload_n 0, 1) := by decide +kernel
theorem dLooker_newType_69 : decode bLooker_newType 69 = .ok (.getfield 43, 3) := by decide +kernel
theorem dLooker_newType_72 : decode bLooker_newType 72 = .ok (.iconst 3, 1) := by decide +kernel
theorem dLooker_newType_73 : decode bLooker_newType 73 = .ok (.iload_n 3, 1) := by decide +kernel
theorem dLooker_newType_74 : decode bLooker_newType 74 = .ok (.iload 4, 2) := by decide +kernel
theorem dLooker_newType_76 : decode bLooker_newType 76 = .ok (.iload_n 2, 1) := by decide +kernel
theorem dLooker_newType_77 : decode bLooker_newType 77 = .ok (.bipush 13, 2) := by decide +kernel
theorem dLooker_newType_79 : decode bLooker_newType 79 = .ok (.if_icmp .ne 9, 3) := by decide +kernel
theorem dLooker_newType_82 : decode bLooker_newType 82 = .ok (.iload 5, 2) := by decide +kernel
theorem dLooker_newType_84 : decode bLooker_newType 84 = .ok (.ineg, 1) := by decide +kernel
theorem dLooker_newType_85 : decode bLooker_newType 85 = .ok (.goto 5, 3) := by decide +kernel
theorem dLooker_newType_88 : decode bLooker_newType 88 = .ok (.iload 5, 2) := by decide +kernel
theorem dLooker_newType_90 : decode bLooker_newType 90 = .ok (.invokevirtual 202, 3) := by decide +kernel
theorem dLooker_newType_93 : decode bLooker_newType 93 = .ok (.ireturn, 1) := by decide +kernel
