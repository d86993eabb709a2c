theorem dLooks_init_0 : decode bLooks_init 0 = .ok (.aload_n 0, 1) := by decide +kernel
theorem dLooks_init_1 : decode bLooks_init 1 = .ok (.invokespecial 3, 3) := by decide +kernel
theorem dLooks_init_4 : decode bLooks_init 4 = .ok (.aload_n 0, 1) := by decide +kernel
theorem dLooks_init_5 : decode bLooks_init 5 = .ok (.bipush 64, 2) := by decide +kernel
theorem dLooks_init_7 : decode bLooks_init 7 = .ok (.newarray .int, 2) := by decide +kernel
theorem dLooks_init_9 : decode bLooks_init 9 = .ok (.putfield 9, 3) := by decide +kernel
theorem dLooks_init_12 : decode bLooks_init 12 = .ok (.aload_n 0, 1) := by decide +kernel
theorem dLooks_init_13 : decode bLooks_init 13 = .ok (.bipush 64, 2) := by decide +kernel
theorem dLooks_init_15 : decode bLooks_init 15 = .ok (.newarray .int, 2) := by decide +kernel
theorem dLooks_init_17 : decode bLooks_init 17 = .ok (.putfield 15, 3) := by decide +kernel
theorem dLooks_init_20 : decode bLooks_init 20 = .ok (.aload_n 0, 1) := by decide +kernel
theorem dLooks_init_21 : decode bLooks_init 21 = .ok (.bipush 64, 2) := by decide +kernel
theorem dLooks_init_23 : decode bLooks_init 23 = .ok (.newarray .int, 2) := by decide +kernel
theorem dLooks_init_25 : decode bLooks_init 25 = .ok (.putfield 18, 3) := by decide +kernel
theorem dLooks_init_28 : decode bLooks_init 28 = .ok (.aload_n 0, 1) := by decide +kernel
theorem dLooks_init_29 : decode bLooks_init 29 = .ok (.bipush 64, 2) := by decide +kernel
theorem dLooks_init_31 : decode bLooks_init 31 = .ok (.newarray .int, 2) := by decide +kernel
theorem dLooks_init_33 : decode bLooks_init 33 = .ok (.putfield 21, 3) := by decide +kernel
theorem dLooks_init_36 : decode bLooks_init 36 = .ok (.aload_n 0, 1) := by decide +kernel
theorem dLooks_init_37 : decode bLooks_init 37 = .ok (.bipush 64, 2) := by decide +kernel
theorem dLooks_init_39 : decode bLooks_init 39 = .ok (.newarray .int, 2) := by decide +kernel
theorem dLooks_init_41 : decode bLooks_init 41 = .ok (.putfield 24, 3) := by decide +kernel
theorem dLooks_init_44 : decode bLooks_init 44 = .ok (.aload_n 0, 1) := by decide +kernel
theorem dLooks_init_45 : decode bLooks_init 45 = .ok (.new 27, 3) := by decide +kernel
theorem dLooks_init_48 : decode bLooks_init 48 = .ok (.dup, 1) := by decide +kernel
theorem dLooks_init_49 : decode bLooks_init 49 = .ok (.bipush 64, 2) := by decide +kernel
theorem dLooks_init_51 : decode bLooks_init 51 = .ok (.invokespecial 29, 3) := by decide +kernel
theorem dLooks_init_54 : decode bLooks_init 54 = .ok (.putfield 32, 3) := by decide +kernel
theorem dLooks_init_57 : decode bLooks_init 57 = .ok (.return_, 1) := by decide +kernel
theorem dLooks_has_0 : decode bLooks_has 0 = .ok (.iload_n 1, 1) := by decide +kernel
theorem dLooks_has_1 : decode bLooks_has 1 = .ok (.ifCond .lt 16, 3) := by decide +kernel
theorem dLooks_has_4 : decode bLooks_has 4 = .ok (.iload_n 1, 1) := by decide +kernel
theorem dLooks_has_5 : decode bLooks_has 5 = .ok (.aload_n 0, 1) := by decide +kernel
theorem dLooks_has_6 : decode bLooks_has 6 = .ok (.getfield 9, 3) := by decide +kernel
theorem dLooks_has_9 : decode bLooks_has 9 = .ok (.arraylength, 1) := by decide +kernel
theorem dLooks_has_10 : decode bLooks_has 10 = .ok (.if_icmp .ge 7, 3) := by decide +kernel
theorem dLooks_has_13 : decode bLooks_has 13 = .ok (.iconst 1, 1) := by decide +kernel
theorem dLooks_has_14 : decode bLooks_has 14 = .ok (.goto 4, 3) := by decide +kernel
theorem dLooks_has_17 : decode bLooks_has 17 = .ok (.iconst 0, 1) := by decide +kernel
theorem dLooks_has_18 : decode bLooks_has 18 = .ok (.ireturn, 1) := by decide +kernel
theorem dLooks_makeRoom_0 : decode bLooks_makeRoom 0 = .ok (.aload_n 0, 1) := by decide +kernel
theorem dLooks_makeRoom_1 : decode bLooks_makeRoom 1 = .ok (.aload_n 0, 1) := by decide +kernel
theorem dLooks_makeRoom_2 : decode bLooks_makeRoom 2 = .ok (.getfield 9, 3) := by decide +kernel
theorem dLooks_makeRoom_5 : decode bLooks_makeRoom 5 = .ok (.iload_n 1, 1) := by decide +kernel
theorem dLooks_makeRoom_6 : decode bLooks_makeRoom 6 = .ok (.invokestatic 36, 3) := by decide +kernel
theorem dLooks_makeRoom_9 : decode bLooks_makeRoom 9 = .ok (.putfield 9, 3) := by decide +kernel
theorem dLooks_makeRoom_12 : decode bLooks_makeRoom 12 = .ok (.aload_n 0, 1) := by decide +kernel
theorem dLooks_makeRoom_13 : decode bLooks_makeRoom 13 = .ok (.aload_n 0, 1) := by decide +kernel
theorem dLooks_makeRoom_14 : decode bLooks_makeRoom 14 = .ok (.getfield 15, 3) := by decide +kernel
theorem dLooks_makeRoom_17 : decode bLooks_makeRoom 17 = .ok (.iload_n 1, 1) := by decide +kernel
theorem dLooks_makeRoom_18 : decode bLooks_makeRoom 18 = .ok (.invokestatic 36, 3) := by decide +kernel
theorem dLooks_makeRoom_21 : decode bLooks_makeRoom 21 = .ok (.putfield 15, 3) := by decide +kernel
theorem dLooks_makeRoom_24 : decode bLooks_makeRoom 24 = .ok (.aload_n 0, 1) := by decide +kernel
theorem dLooks_makeRoom_25 : decode bLooks_makeRoom 25 = .ok (.aload_n 0, 1) := by decide +kernel
theorem dLooks_makeRoom_26 : decode bLooks_makeRoom 26 = .ok (.getfield 18, 3) := by decide +kernel
theorem dLooks_makeRoom_29 : decode bLooks_makeRoom 29 = .ok (.iload_n 1, 1) := by decide +kernel
theorem dLooks_makeRoom_30 : decode bLooks_makeRoom 30 = .ok (.invokestatic 36, 3) := by decide +kernel
theorem dLooks_makeRoom_33 : decode bLooks_makeRoom 33 = .ok (.putfield 18, 3) := by decide +kernel
theorem dLooks_makeRoom_36 : decode bLooks_makeRoom 36 = .ok (.aload_n 0, 1) := by decide +kernel
theorem dLooks_makeRoom_37 : decode bLooks_makeRoom 37 = .ok (.aload_n 0, 1) := by decide +kernel
theorem dLooks_makeRoom_38 : decode bLooks_makeRoom 38 = .ok (.getfield 21, 3) := by decide +kernel
theorem dLooks_makeRoom_41 : decode bLooks_makeRoom 41 = .ok (.iload_n 1, 1) := by decide +kernel
theorem dLooks_makeRoom_42 : decode bLooks_makeRoom 42 = .ok (.invokestatic 36, 3) := by decide +kernel
theorem dLooks_makeRoom_45 : decode bLooks_makeRoom 45 = .ok (.putfield 21, 3) := by decide +kernel
theorem dLooks_makeRoom_48 : decode bLooks_makeRoom 48 = .ok (.aload_n 0, 1) := by decide +kernel
theorem dLooks_makeRoom_49 : decode bLooks_makeRoom 49 = .ok (.aload_n 0, 1) := by decide +kernel
theorem dLooks_makeRoom_50 : decode bLooks_makeRoom 50 = .ok (.getfield 24, 3) := by decide +kernel
theorem dLooks_makeRoom_53 : decode bLooks_makeRoom 53 = .ok (.iload_n 1, 1) := by decide +kernel
theorem dLooks_makeRoom_54 : decode bLooks_makeRoom 54 = .ok (.invokestatic 36, 3) := by decide +kernel
theorem dLooks_makeRoom_57 : decode bLooks_makeRoom 57 = .ok (.putfield 24, 3) := by decide +kernel
theorem dLooks_makeRoom_60 : decode bLooks_makeRoom 60 = .ok (.aload_n 0, 1) := by decide +kernel
theorem dLooks_makeRoom_61 : decode bLooks_makeRoom 61 = .ok (.getfield 32, 3) := by decide +kernel
theorem dLooks_makeRoom_64 : decode bLooks_makeRoom 64 = .ok (.iload_n 1, 1) := by decide +kernel
theorem dLooks_makeRoom_65 : decode bLooks_makeRoom 65 = .ok (.invokevirtual 40, 3) := by decide +kernel
theorem dLooks_makeRoom_68 : decode bLooks_makeRoom 68 = .ok (.return_, 1) := by decide +kernel
theorem dLooks_classOf_0 : decode bLooks_classOf 0 = .ok (.aload_n 0, 1) := by decide +kernel
theorem dLooks_classOf_1 : decode bLooks_classOf 1 = .ok (.iload_n 1, 1) := by decide +kernel
theorem dLooks_classOf_2 : decode bLooks_classOf 2 = .ok (.invokevirtual 43, 3) := by decide +kernel
theorem dLooks_classOf_5 : decode bLooks_classOf 5 = .ok (.ifCond .eq 12, 3) := by decide +kernel
theorem dLooks_classOf_8 : decode bLooks_classOf 8 = .ok (.aload_n 0, 1) := by decide +kernel
theorem dLooks_classOf_9 : decode bLooks_classOf 9 = .ok (.getfield 9, 3) := by decide +kernel
theorem dLooks_classOf_12 : decode bLooks_classOf 12 = .ok (.iload_n 1, 1) := by decide +kernel
theorem dLooks_classOf_13 : decode bLooks_classOf 13 = .ok (.iaload, 1) := by decide +kernel
theorem dLooks_classOf_14 : decode bLooks_classOf 14 = .ok (.goto 4, 3) := by decide +kernel
theorem dLooks_classOf_17 : decode bLooks_classOf 17 = .ok (.iconst (-1), 1) := by decide +kernel
theorem dLooks_classOf_18 : decode bLooks_classOf 18 = .ok (.ireturn, 1) := by decide +kernel
theorem dLooks_extentOf_0 : decode bLooks_extentOf 0 = .ok (.aload_n 0, 1) := by decide +kernel
theorem dLooks_extentOf_1 : decode bLooks_extentOf 1 = .ok (.iload_n 1, 1) := by decide +kernel
theorem dLooks_extentOf_2 : decode bLooks_extentOf 2 = .ok (.invokevirtual 43, 3) := by decide +kernel
theorem dLooks_extentOf_5 : decode bLooks_extentOf 5 = .ok (.ifCond .eq 12, 3) := by decide +kernel
theorem dLooks_extentOf_8 : decode bLooks_extentOf 8 = .ok (.aload_n 0, 1) := by decide +kernel
theorem dLooks_extentOf_9 : decode bLooks_extentOf 9 = .ok (.getfield 15, 3) := by decide +kernel
theorem dLooks_extentOf_12 : decode bLooks_extentOf 12 = .ok (.iload_n 1, 1) := by decide +kernel
theorem dLooks_extentOf_13 : decode bLooks_extentOf 13 = .ok (.iaload, 1) := by decide +kernel
theorem dLooks_extentOf_14 : decode bLooks_extentOf 14 = .ok (.goto 4, 3) := by decide +kernel
theorem dLooks_extentOf_17 : decode bLooks_extentOf 17 = .ok (.iconst 0, 1) := by decide +kernel
theorem dLooks_extentOf_18 : decode bLooks_extentOf 18 = .ok (.ireturn, 1) := by decide +kernel
theorem dLooks_meaningOf_0 : decode bLooks_meaningOf 0 = .ok (.aload_n 0, 1) := by decide +kernel
theorem dLooks_meaningOf_1 : decode bLooks_meaningOf 1 = .ok (.iload_n 1, 1) := by decide +kernel
theorem dLooks_meaningOf_2 : decode bLooks_meaningOf 2 = .ok (.invokevirtual 43, 3) := by decide +kernel
theorem dLooks_meaningOf_5 : decode bLooks_meaningOf 5 = .ok (.ifCond .eq 12, 3) := by decide +kernel
theorem dLooks_meaningOf_8 : decode bLooks_meaningOf 8 = .ok (.aload_n 0, 1) := by decide +kernel
theorem dLooks_meaningOf_9 : decode bLooks_meaningOf 9 = .ok (.getfield 18, 3) := by decide +kernel
theorem dLooks_meaningOf_12 : decode bLooks_meaningOf 12 = .ok (.iload_n 1, 1) := by decide +kernel
theorem dLooks_meaningOf_13 : decode bLooks_meaningOf 13 = .ok (.iaload, 1) := by decide +kernel
theorem dLooks_meaningOf_14 : decode bLooks_meaningOf 14 = .ok (.goto 4, 3) := by decide +kernel
theorem dLooks_meaningOf_17 : decode bLooks_meaningOf 17 = .ok (.iconst (-1), 1) := by decide +kernel
theorem dLooks_meaningOf_18 : decode bLooks_meaningOf 18 = .ok (.ireturn, 1) := by decide +kernel
theorem dLooks_numberOf_0 : decode bLooks_numberOf 0 = .ok (.aload_n 0, 1) := by decide +kernel
theorem dLooks_numberOf_1 : decode bLooks_numberOf 1 = .ok (.iload_n 1, 1) := by decide +kernel
theorem dLooks_numberOf_2 : decode bLooks_numberOf 2 = .ok (.invokevirtual 43, 3) := by decide +kernel
theorem dLooks_numberOf_5 : decode bLooks_numberOf 5 = .ok (.ifCond .eq 12, 3) := by decide +kernel
theorem dLooks_numberOf_8 : decode bLooks_numberOf 8 = .ok (.aload_n 0, 1) := by decide +kernel
theorem dLooks_numberOf_9 : decode bLooks_numberOf 9 = .ok (.getfield 21, 3) := by decide +kernel
theorem dLooks_numberOf_12 : decode bLooks_numberOf 12 = .ok (.iload_n 1, 1) := by decide +kernel
theorem dLooks_numberOf_13 : decode bLooks_numberOf 13 = .ok (.iaload, 1) := by decide +kernel
theorem dLooks_numberOf_14 : decode bLooks_numberOf 14 = .ok (.goto 4, 3) := by decide +kernel
theorem dLooks_numberOf_17 : decode bLooks_numberOf 17 = .ok (.iconst 0, 1) := by decide +kernel
theorem dLooks_numberOf_18 : decode bLooks_numberOf 18 = .ok (.ireturn, 1) := by decide +kernel
theorem dLooks_isFixed_0 : decode bLooks_isFixed 0 = .ok (.aload_n 0, 1) := by decide +kernel
theorem dLooks_isFixed_1 : decode bLooks_isFixed 1 = .ok (.iload_n 1, 1) := by decide +kernel
theorem dLooks_isFixed_2 : decode bLooks_isFixed 2 = .ok (.invokevirtual 43, 3) := by decide +kernel
theorem dLooks_isFixed_5 : decode bLooks_isFixed 5 = .ok (.ifCond .eq 17, 3) := by decide +kernel
theorem dLooks_isFixed_8 : decode bLooks_isFixed 8 = .ok (.aload_n 0, 1) := by decide +kernel
theorem dLooks_isFixed_9 : decode bLooks_isFixed 9 = .ok (.getfield 24, 3) := by decide +kernel
theorem dLooks_isFixed_12 : decode bLooks_isFixed 12 = .ok (.iload_n 1, 1) := by decide +kernel
theorem dLooks_isFixed_13 : decode bLooks_isFixed 13 = .ok (.iaload, 1) := by decide +kernel
theorem dLooks_isFixed_14 : decode bLooks_isFixed 14 = .ok (.iconst 1, 1) := by decide +kernel
theorem dLooks_isFixed_15 : decode bLooks_isFixed 15 = .ok (.if_icmp .ne 7, 3) := by decide +kernel
theorem dLooks_isFixed_18 : decode bLooks_isFixed 18 = .ok (.iconst 1, 1) := by decide +kernel
theorem dLooks_isFixed_19 : decode bLooks_isFixed 19 = .ok (.goto 4, 3) := by decide +kernel
theorem dLooks_isFixed_22 : decode bLooks_isFixed 22 = .ok (.iconst 0, 1) := by decide +kernel
theorem dLooks_isFixed_23 : decode bLooks_isFixed 23 = .ok (.ireturn, 1) := by decide +kernel
theorem dLooks_forget_0 : decode bLooks_forget 0 = .ok (.aload_n 0, 1) := by decide +kernel
theorem dLooks_forget_1 : decode bLooks_forget 1 = .ok (.iload_n 1, 1) := by decide +kernel
theorem dLooks_forget_2 : decode bLooks_forget 2 = .ok (.invokevirtual 43, 3) := by decide +kernel
theorem dLooks_forget_5 : decode bLooks_forget 5 = .ok (.ifCond .eq 38, 3) := by decide +kernel
theorem dLooks_forget_8 : decode bLooks_forget 8 = .ok (.aload_n 0, 1) := by decide +kernel
theorem dLooks_forget_9 : decode bLooks_forget 9 = .ok (.getfield 9, 3) := by decide +kernel
theorem dLooks_forget_12 : decode bLooks_forget 12 = .ok (.iload_n 1, 1) := by decide +kernel
theorem dLooks_forget_13 : decode bLooks_forget 13 = .ok (.iconst (-1), 1) := by decide +kernel
theorem dLooks_forget_14 : decode bLooks_forget 14 = .ok (.iastore, 1) := by decide +kernel
theorem dLooks_forget_15 : decode bLooks_forget 15 = .ok (.aload_n 0, 1) := by decide +kernel
theorem dLooks_forget_16 : decode bLooks_forget 16 = .ok (.getfield 15, 3) := by decide +kernel
theorem dLooks_forget_19 : decode bLooks_forget 19 = .ok (.iload_n 1, 1) := by decide +kernel
theorem dLooks_forget_20 : decode bLooks_forget 20 = .ok (.iconst 0, 1) := by decide +kernel
theorem dLooks_forget_21 : decode bLooks_forget 21 = .ok (.iastore, 1) := by decide +kernel
theorem dLooks_forget_22 : decode bLooks_forget 22 = .ok (.aload_n 0, 1) := by decide +kernel
theorem dLooks_forget_23 : decode bLooks_forget 23 = .ok (.getfield 18, 3) := by decide +kernel
theorem dLooks_forget_26 : decode bLooks_forget 26 = .ok (.iload_n 1, 1) := by decide +kernel
theorem dLooks_forget_27 : decode bLooks_forget 27 = .ok (.iconst (-1), 1) := by decide +kernel
theorem dLooks_forget_28 : decode bLooks_forget 28 = .ok (.iastore, 1) := by decide +kernel
theorem dLooks_forget_29 : decode bLooks_forget 29 = .ok (.aload_n 0, 1) := by decide +kernel
theorem dLooks_forget_30 : decode bLooks_forget 30 = .ok (.getfield 21, 3) := by decide +kernel
theorem dLooks_forget_33 : decode bLooks_forget 33 = .ok (.iload_n 1, 1) := by decide +kernel
theorem dLooks_forget_34 : decode bLooks_forget 34 = .ok (.iconst 0, 1) := by decide +kernel
theorem dLooks_forget_35 : decode bLooks_forget 35 = .ok (.iastore, 1) := by decide +kernel
theorem dLooks_forget_36 : decode bLooks_forget 36 = .ok (.aload_n 0, 1) := by decide +kernel
theorem dLooks_forget_37 : decode bLooks_forget 37 = .ok (.getfield 24, 3) := by decide +kernel
theorem dLooks_forget_40 : decode bLooks_forget 40 = .ok (.iload_n 1, 1) := by decide +kernel
theorem dLooks_forget_41 : decode bLooks_forget 41 = .ok (.iconst 0, 1) := by decide +kernel
theorem dLooks_forget_42 : decode bLooks_forget 42 = .ok (.iastore, 1) := by decide +kernel
theorem dLooks_forget_43 : decode bLooks_forget 43 = .ok (.return_, 1) := by decide +kernel
theorem dLooks_note_0 : decode bLooks_note 0 = .ok (.aload_n 0, 1) := by decide +kernel
theorem dLooks_note_1 : decode bLooks_note 1 = .ok (.iload_n 1, 1) := by decide +kernel
theorem dLooks_note_2 : decode bLooks_note 2 = .ok (.invokevirtual 43, 3) := by decide +kernel
theorem dLooks_note_5 : decode bLooks_note 5 = .ok (.ifCond .eq 33, 3) := by decide +kernel
theorem dLooks_note_8 : decode bLooks_note 8 = .ok (.aload_n 0, 1) := by decide +kernel
theorem dLooks_note_9 : decode bLooks_note 9 = .ok (.getfield 9, 3) := by decide +kernel
theorem dLooks_note_12 : decode bLooks_note 12 = .ok (.iload_n 1, 1) := by decide +kernel
theorem dLooks_note_13 : decode bLooks_note 13 = .ok (.iload_n 2, 1) := by decide +kernel
theorem dLooks_note_14 : decode bLooks_note 14 = .ok (.iastore, 1) := by decide +kernel
theorem dLooks_note_15 : decode bLooks_note 15 = .ok (.aload_n 0, 1) := by decide +kernel
theorem dLooks_note_16 : decode bLooks_note 16 = .ok (.getfield 15, 3) := by decide +kernel
theorem dLooks_note_19 : decode bLooks_note 19 = .ok (.iload_n 1, 1) := by decide +kernel
theorem dLooks_note_20 : decode bLooks_note 20 = .ok (.iload_n 3, 1) := by decide +kernel
theorem dLooks_note_21 : decode bLooks_note 21 = .ok (.iastore, 1) := by decide +kernel
theorem dLooks_note_22 : decode bLooks_note 22 = .ok (.aload_n 0, 1) := by decide +kernel
theorem dLooks_note_23 : decode bLooks_note 23 = .ok (.getfield 24, 3) := by decide +kernel
theorem dLooks_note_26 : decode bLooks_note 26 = .ok (.iload_n 1, 1) := by decide +kernel
theorem dLooks_note_27 : decode bLooks_note 27 = .ok (.iload 4, 2) := by decide +kernel
theorem dLooks_note_29 : decode bLooks_note 29 = .ok (.ifCond .eq 7, 3) := by decide +kernel
theorem dLooks_note_32 : decode bLooks_note 32 = .ok (.iconst 1, 1) := by decide +kernel
theorem dLooks_note_33 : decode bLooks_note 33 = .ok (.goto 4, 3) := by decide +kernel
theorem dLooks_note_36 : decode bLooks_note 36 = .ok (.iconst 0, 1) := by decide +kernel
theorem dLooks_note_37 : decode bLooks_note 37 = .ok (.iastore, 1) := by decide +kernel
theorem dLooks_note_38 : decode bLooks_note 38 = .ok (.return_, 1) := by decide +kernel
theorem dLooks_setMeaning_0 : decode bLooks_setMeaning 0 = .ok (.aload_n 0, 1) := by decide +kernel
theorem dLooks_setMeaning_1 : decode bLooks_setMeaning 1 = .ok (.iload_n 1, 1) := by decide +kernel
theorem dLooks_setMeaning_2 : decode bLooks_setMeaning 2 = .ok (.invokevirtual 43, 3) := by decide +kernel
theorem dLooks_setMeaning_5 : decode bLooks_setMeaning 5 = .ok (.ifCond .eq 10, 3) := by decide +kernel
theorem dLooks_setMeaning_8 : decode bLooks_setMeaning 8 = .ok (.aload_n 0, 1) := by decide +kernel
theorem dLooks_setMeaning_9 : decode bLooks_setMeaning 9 = .ok (.getfield 18, 3) := by decide +kernel
theorem dLooks_setMeaning_12 : decode bLooks_setMeaning 12 = .ok (.iload_n 1, 1) := by decide +kernel
theorem dLooks_setMeaning_13 : decode bLooks_setMeaning 13 = .ok (.iload_n 2, 1) := by decide +kernel
theorem dLooks_setMeaning_14 : decode bLooks_setMeaning 14 = .ok (.iastore, 1) := by decide +kernel
theorem dLooks_setMeaning_15 : decode bLooks_setMeaning 15 = .ok (.return_, 1) := by decide +kernel
theorem dLooks_setNumber_0 : decode bLooks_setNumber 0 = .ok (.aload_n 0, 1) := by decide +kernel
theorem dLooks_setNumber_1 : decode bLooks_setNumber 1 = .ok (.iload_n 1, 1) := by decide +kernel
theorem dLooks_setNumber_2 : decode bLooks_setNumber 2 = .ok (.invokevirtual 43, 3) := by decide +kernel
theorem dLooks_setNumber_5 : decode bLooks_setNumber 5 = .ok (.ifCond .eq 10, 3) := by decide +kernel
theorem dLooks_setNumber_8 : decode bLooks_setNumber 8 = .ok (.aload_n 0, 1) := by decide +kernel
theorem dLooks_setNumber_9 : decode bLooks_setNumber 9 = .ok (.getfield 21, 3) := by decide +kernel
theorem dLooks_setNumber_12 : decode bLooks_setNumber 12 = .ok (.iload_n 1, 1) := by decide +kernel
theorem dLooks_setNumber_13 : decode bLooks_setNumber 13 = .ok (.iload_n 2, 1) := by decide +kernel
theorem dLooks_setNumber_14 : decode bLooks_setNumber 14 = .ok (.iastore, 1) := by decide +kernel
theorem dLooks_setNumber_15 : decode bLooks_setNumber 15 = .ok (.return_, 1) := by decide +kernel
theorem dLooks_copy_0 : decode bLooks_copy 0 = .ok (.aload_n 0, 1) := by decide +kernel
theorem dLooks_copy_1 : decode bLooks_copy 1 = .ok (.iload_n 2, 1) := by decide +kernel
theorem dLooks_copy_2 : decode bLooks_copy 2 = .ok (.aload_n 1, 1) := by decide +kernel
theorem dLooks_copy_3 : decode bLooks_copy 3 = .ok (.iload_n 2, 1) := by decide +kernel
theorem dLooks_copy_4 : decode bLooks_copy 4 = .ok (.invokevirtual 47, 3) := by decide +kernel
theorem dLooks_copy_7 : decode bLooks_copy 7 = .ok (.aload_n 1, 1) := by decide +kernel
theorem dLooks_copy_8 : decode bLooks_copy 8 = .ok (.iload_n 2, 1) := by decide +kernel
theorem dLooks_copy_9 : decode bLooks_copy 9 = .ok (.invokevirtual 51, 3) := by decide +kernel
theorem dLooks_copy_12 : decode bLooks_copy 12 = .ok (.aload_n 1, 1) := by decide +kernel
theorem dLooks_copy_13 : decode bLooks_copy 13 = .ok (.iload_n 2, 1) := by decide +kernel
theorem dLooks_copy_14 : decode bLooks_copy 14 = .ok (.invokevirtual 54, 3) := by decide +kernel
theorem dLooks_copy_17 : decode bLooks_copy 17 = .ok (.invokevirtual 57, 3) := by decide +kernel
theorem dLooks_copy_20 : decode bLooks_copy 20 = .ok (.aload_n 0, 1) := by decide +kernel
theorem dLooks_copy_21 : decode bLooks_copy 21 = .ok (.iload_n 2, 1) := by decide +kernel
theorem dLooks_copy_22 : decode bLooks_copy 22 = .ok (.aload_n 1, 1) := by decide +kernel
theorem dLooks_copy_23 : decode bLooks_copy 23 = .ok (.iload_n 2, 1) := by decide +kernel
theorem dLooks_copy_24 : decode bLooks_copy 24 = .ok (.invokevirtual 61, 3) := by decide +kernel
theorem dLooks_copy_27 : decode bLooks_copy 27 = .ok (.invokevirtual 64, 3) := by decide +kernel
theorem dLooks_copy_30 : decode bLooks_copy 30 = .ok (.aload_n 0, 1) := by decide +kernel
theorem dLooks_copy_31 : decode bLooks_copy 31 = .ok (.iload_n 2, 1) := by decide +kernel
theorem dLooks_copy_32 : decode bLooks_copy 32 = .ok (.aload_n 1, 1) := by decide +kernel
theorem dLooks_copy_33 : decode bLooks_copy 33 = .ok (.iload_n 2, 1) := by decide +kernel
theorem dLooks_copy_34 : decode bLooks_copy 34 = .ok (.invokevirtual 68, 3) := by decide +kernel
theorem dLooks_copy_37 : decode bLooks_copy 37 = .ok (.invokevirtual 71, 3) := by decide +kernel
theorem dLooks_copy_40 : decode bLooks_copy 40 = .ok (.aload_n 0, 1) := by decide +kernel
theorem dLooks_copy_41 : decode bLooks_copy 41 = .ok (.getfield 32, 3) := by decide +kernel
theorem dLooks_copy_44 : decode bLooks_copy 44 = .ok (.iload_n 2, 1) := by decide +kernel
theorem dLooks_copy_45 : decode bLooks_copy 45 = .ok (.aload_n 1, 1) := by decide +kernel
theorem dLooks_copy_46 : decode bLooks_copy 46 = .ok (.getfield 32, 3) := by decide +kernel
theorem dLooks_copy_49 : decode bLooks_copy 49 = .ok (.iload_n 2, 1) := by decide +kernel
theorem dLooks_copy_50 : decode bLooks_copy 50 = .ok (.invokevirtual 74, 3) := by decide +kernel
theorem dLooks_copy_53 : decode bLooks_copy 53 = .ok (.return_, 1) := by decide +kernel
