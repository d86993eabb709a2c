theorem dRows_init_0 : decode bRows_init 0 = .ok (.aload_n 0, 1) := by decide +kernel
theorem dRows_init_1 : decode bRows_init 1 = .ok (.invokespecial 3, 3) := by decide +kernel
theorem dRows_init_4 : decode bRows_init 4 = .ok (.aload_n 0, 1) := by decide +kernel
theorem dRows_init_5 : decode bRows_init 5 = .ok (.iload_n 1, 1) := by decide +kernel
theorem dRows_init_6 : decode bRows_init 6 = .ok (.iconst 1, 1) := by decide +kernel
theorem dRows_init_7 : decode bRows_init 7 = .ok (.invokestatic 9, 3) := by decide +kernel
theorem dRows_init_10 : decode bRows_init 10 = .ok (.iconst 4, 1) := by decide +kernel
theorem dRows_init_11 : decode bRows_init 11 = .ok (.imul, 1) := by decide +kernel
theorem dRows_init_12 : decode bRows_init 12 = .ok (.newarray .long, 2) := by decide +kernel
theorem dRows_init_14 : decode bRows_init 14 = .ok (.putfield 17, 3) := by decide +kernel
theorem dRows_init_17 : decode bRows_init 17 = .ok (.return_, 1) := by decide +kernel
theorem dRows_makeRoom_0 : decode bRows_makeRoom 0 = .ok (.iload_n 1, 1) := by decide +kernel
theorem dRows_makeRoom_1 : decode bRows_makeRoom 1 = .ok (.iconst 4, 1) := by decide +kernel
theorem dRows_makeRoom_2 : decode bRows_makeRoom 2 = .ok (.imul, 1) := by decide +kernel
theorem dRows_makeRoom_3 : decode bRows_makeRoom 3 = .ok (.aload_n 0, 1) := by decide +kernel
theorem dRows_makeRoom_4 : decode bRows_makeRoom 4 = .ok (.getfield 17, 3) := by decide +kernel
theorem dRows_makeRoom_7 : decode bRows_makeRoom 7 = .ok (.arraylength, 1) := by decide +kernel
theorem dRows_makeRoom_8 : decode bRows_makeRoom 8 = .ok (.if_icmp .le 27, 3) := by decide +kernel
theorem dRows_makeRoom_11 : decode bRows_makeRoom 11 = .ok (.aload_n 0, 1) := by decide +kernel
theorem dRows_makeRoom_12 : decode bRows_makeRoom 12 = .ok (.aload_n 0, 1) := by decide +kernel
theorem dRows_makeRoom_13 : decode bRows_makeRoom 13 = .ok (.getfield 17, 3) := by decide +kernel
theorem dRows_makeRoom_16 : decode bRows_makeRoom 16 = .ok (.iload_n 1, 1) := by decide +kernel
theorem dRows_makeRoom_17 : decode bRows_makeRoom 17 = .ok (.iconst 4, 1) := by decide +kernel
theorem dRows_makeRoom_18 : decode bRows_makeRoom 18 = .ok (.imul, 1) := by decide +kernel
theorem dRows_makeRoom_19 : decode bRows_makeRoom 19 = .ok (.iconst 2, 1) := by decide +kernel
theorem dRows_makeRoom_20 : decode bRows_makeRoom 20 = .ok (.aload_n 0, 1) := by decide +kernel
theorem dRows_makeRoom_21 : decode bRows_makeRoom 21 = .ok (.getfield 17, 3) := by decide +kernel
theorem dRows_makeRoom_24 : decode bRows_makeRoom 24 = .ok (.arraylength, 1) := by decide +kernel
theorem dRows_makeRoom_25 : decode bRows_makeRoom 25 = .ok (.imul, 1) := by decide +kernel
theorem dRows_makeRoom_26 : decode bRows_makeRoom 26 = .ok (.invokestatic 9, 3) := by decide +kernel
theorem dRows_makeRoom_29 : decode bRows_makeRoom 29 = .ok (.invokestatic 21, 3) := by decide +kernel
theorem dRows_makeRoom_32 : decode bRows_makeRoom 32 = .ok (.putfield 17, 3) := by decide +kernel
theorem dRows_makeRoom_35 : decode bRows_makeRoom 35 = .ok (.return_, 1) := by decide +kernel
theorem dRows_has_0 : decode bRows_has 0 = .ok (.iload_n 1, 1) := by decide +kernel
theorem dRows_has_1 : decode bRows_has 1 = .ok (.ifCond .lt 18, 3) := by decide +kernel
theorem dRows_has_4 : decode bRows_has 4 = .ok (.iload_n 1, 1) := by decide +kernel
theorem dRows_has_5 : decode bRows_has 5 = .ok (.aload_n 0, 1) := by decide +kernel
theorem dRows_has_6 : decode bRows_has 6 = .ok (.getfield 17, 3) := by decide +kernel
theorem dRows_has_9 : decode bRows_has 9 = .ok (.arraylength, 1) := by decide +kernel
theorem dRows_has_10 : decode bRows_has 10 = .ok (.iconst 4, 1) := by decide +kernel
theorem dRows_has_11 : decode bRows_has 11 = .ok (.idiv, 1) := by decide +kernel
theorem dRows_has_12 : decode bRows_has 12 = .ok (.if_icmp .ge 7, 3) := by decide +kernel
theorem dRows_has_15 : decode bRows_has 15 = .ok (.iconst 1, 1) := by decide +kernel
theorem dRows_has_16 : decode bRows_has 16 = .ok (.goto 4, 3) := by decide +kernel
theorem dRows_has_19 : decode bRows_has 19 = .ok (.iconst 0, 1) := by decide +kernel
theorem dRows_has_20 : decode bRows_has 20 = .ok (.ireturn, 1) := by decide +kernel
theorem dRows_get_0 : decode bRows_get 0 = .ok (.iload_n 1, 1) := by decide +kernel
theorem dRows_get_1 : decode bRows_get 1 = .ok (.ifCond .lt 24, 3) := by decide +kernel
theorem dRows_get_4 : decode bRows_get 4 = .ok (.iload_n 1, 1) := by decide +kernel
theorem dRows_get_5 : decode bRows_get 5 = .ok (.aload_n 0, 1) := by decide +kernel
theorem dRows_get_6 : decode bRows_get 6 = .ok (.getfield 17, 3) := by decide +kernel
theorem dRows_get_9 : decode bRows_get 9 = .ok (.arraylength, 1) := by decide +kernel
theorem dRows_get_10 : decode bRows_get 10 = .ok (.iconst 4, 1) := by decide +kernel
theorem dRows_get_11 : decode bRows_get 11 = .ok (.idiv, 1) := by decide +kernel
theorem dRows_get_12 : decode bRows_get 12 = .ok (.if_icmp .ge 13, 3) := by decide +kernel
theorem dRows_get_15 : decode bRows_get 15 = .ok (.iload_n 2, 1) := by decide +kernel
theorem dRows_get_16 : decode bRows_get 16 = .ok (.ifCond .lt 9, 3) := by decide +kernel
theorem dRows_get_19 : decode bRows_get 19 = .ok (.iload_n 2, 1) := by decide +kernel
theorem dRows_get_20 : decode bRows_get 20 = .ok (.bipush 64, 2) := by decide +kernel
theorem dRows_get_22 : decode bRows_get 22 = .ok (.if_icmp .lt 5, 3) := by decide +kernel
theorem dRows_get_25 : decode bRows_get 25 = .ok (.iconst 0, 1) := by decide +kernel
theorem dRows_get_26 : decode bRows_get 26 = .ok (.ireturn, 1) := by decide +kernel
theorem dRows_get_27 : decode bRows_get 27 = .ok (.aload_n 0, 1) := by decide +kernel
theorem dRows_get_28 : decode bRows_get 28 = .ok (.getfield 17, 3) := by decide +kernel
theorem dRows_get_31 : decode bRows_get 31 = .ok (.iload_n 1, 1) := by decide +kernel
theorem dRows_get_32 : decode bRows_get 32 = .ok (.iconst 4, 1) := by decide +kernel
theorem dRows_get_33 : decode bRows_get 33 = .ok (.imul, 1) := by decide +kernel
theorem dRows_get_34 : decode bRows_get 34 = .ok (.iload_n 2, 1) := by decide +kernel
theorem dRows_get_35 : decode bRows_get 35 = .ok (.bipush 16, 2) := by decide +kernel
theorem dRows_get_37 : decode bRows_get 37 = .ok (.idiv, 1) := by decide +kernel
theorem dRows_get_38 : decode bRows_get 38 = .ok (.iadd, 1) := by decide +kernel
theorem dRows_get_39 : decode bRows_get 39 = .ok (.laload, 1) := by decide +kernel
theorem dRows_get_40 : decode bRows_get 40 = .ok (.iload_n 2, 1) := by decide +kernel
theorem dRows_get_41 : decode bRows_get 41 = .ok (.bipush 16, 2) := by decide +kernel
theorem dRows_get_43 : decode bRows_get 43 = .ok (.irem, 1) := by decide +kernel
theorem dRows_get_44 : decode bRows_get 44 = .ok (.iconst 4, 1) := by decide +kernel
theorem dRows_get_45 : decode bRows_get 45 = .ok (.imul, 1) := by decide +kernel
theorem dRows_get_46 : decode bRows_get 46 = .ok (.lushr, 1) := by decide +kernel
theorem dRows_get_47 : decode bRows_get 47 = .ok (.l2i, 1) := by decide +kernel
theorem dRows_get_48 : decode bRows_get 48 = .ok (.bipush 15, 2) := by decide +kernel
theorem dRows_get_50 : decode bRows_get 50 = .ok (.iand, 1) := by decide +kernel
theorem dRows_get_51 : decode bRows_get 51 = .ok (.ireturn, 1) := by decide +kernel
theorem dRows_set_0 : decode bRows_set 0 = .ok (.iload_n 1, 1) := by decide +kernel
theorem dRows_set_1 : decode bRows_set 1 = .ok (.ifCond .lt 73, 3) := by decide +kernel
theorem dRows_set_4 : decode bRows_set 4 = .ok (.iload_n 1, 1) := by decide +kernel
theorem dRows_set_5 : decode bRows_set 5 = .ok (.aload_n 0, 1) := by decide +kernel
theorem dRows_set_6 : decode bRows_set 6 = .ok (.getfield 17, 3) := by decide +kernel
theorem dRows_set_9 : decode bRows_set 9 = .ok (.arraylength, 1) := by decide +kernel
theorem dRows_set_10 : decode bRows_set 10 = .ok (.iconst 4, 1) := by decide +kernel
theorem dRows_set_11 : decode bRows_set 11 = .ok (.idiv, 1) := by decide +kernel
theorem dRows_set_12 : decode bRows_set 12 = .ok (.if_icmp .ge 62, 3) := by decide +kernel
theorem dRows_set_15 : decode bRows_set 15 = .ok (.iload_n 2, 1) := by decide +kernel
theorem dRows_set_16 : decode bRows_set 16 = .ok (.ifCond .lt 58, 3) := by decide +kernel
theorem dRows_set_19 : decode bRows_set 19 = .ok (.iload_n 2, 1) := by decide +kernel
theorem dRows_set_20 : decode bRows_set 20 = .ok (.bipush 64, 2) := by decide +kernel
theorem dRows_set_22 : decode bRows_set 22 = .ok (.if_icmp .ge 52, 3) := by decide +kernel
theorem dRows_set_25 : decode bRows_set 25 = .ok (.iload_n 1, 1) := by decide +kernel
theorem dRows_set_26 : decode bRows_set 26 = .ok (.iconst 4, 1) := by decide +kernel
theorem dRows_set_27 : decode bRows_set 27 = .ok (.imul, 1) := by decide +kernel
theorem dRows_set_28 : decode bRows_set 28 = .ok (.iload_n 2, 1) := by decide +kernel
theorem dRows_set_29 : decode bRows_set 29 = .ok (.bipush 16, 2) := by decide +kernel
theorem dRows_set_31 : decode bRows_set 31 = .ok (.idiv, 1) := by decide +kernel
theorem dRows_set_32 : decode bRows_set 32 = .ok (.iadd, 1) := by decide +kernel
theorem dRows_set_33 : decode bRows_set 33 = .ok (.istore 4, 2) := by decide +kernel
theorem dRows_set_35 : decode bRows_set 35 = .ok (.iload_n 2, 1) := by decide +kernel
theorem dRows_set_36 : decode bRows_set 36 = .ok (.bipush 16, 2) := by decide +kernel
theorem dRows_set_38 : decode bRows_set 38 = .ok (.irem, 1) := by decide +kernel
theorem dRows_set_39 : decode bRows_set 39 = .ok (.iconst 4, 1) := by decide +kernel
theorem dRows_set_40 : decode bRows_set 40 = .ok (.imul, 1) := by decide +kernel
theorem dRows_set_41 : decode bRows_set 41 = .ok (.istore 5, 2) := by decide +kernel
theorem dRows_set_43 : decode bRows_set 43 = .ok (.aload_n 0, 1) := by decide +kernel
theorem dRows_set_44 : decode bRows_set 44 = .ok (.getfield 17, 3) := by decide +kernel
theorem dRows_set_47 : decode bRows_set 47 = .ok (.iload 4, 2) := by decide +kernel
theorem dRows_set_49 : decode bRows_set 49 = .ok (.aload_n 0, 1) := by decide +kernel
theorem dRows_set_50 : decode bRows_set 50 = .ok (.getfield 17, 3) := by decide +kernel
theorem dRows_set_53 : decode bRows_set 53 = .ok (.iload 4, 2) := by decide +kernel
theorem dRows_set_55 : decode bRows_set 55 = .ok (.laload, 1) := by decide +kernel
theorem dRows_set_56 : decode bRows_set 56 = .ok (.ldc2_w 27, 3) := by decide +kernel
theorem dRows_set_59 : decode bRows_set 59 = .ok (.iload 5, 2) := by decide +kernel
theorem dRows_set_61 : decode bRows_set 61 = .ok (.lshl, 1) := by decide +kernel
theorem dRows_set_62 : decode bRows_set 62 = .ok (.ldc2_w 29, 3) := by decide +kernel
theorem dRows_set_65 : decode bRows_set 65 = .ok (.lxor, 1) := by decide +kernel
theorem dRows_set_66 : decode bRows_set 66 = .ok (.land, 1) := by decide +kernel
theorem dRows_set_67 : decode bRows_set 67 = .ok (.iload_n 3, 1) := by decide +kernel
theorem dRows_set_68 : decode bRows_set 68 = .ok (.i2l, 1) := by decide +kernel
theorem dRows_set_69 : decode bRows_set 69 = .ok (.iload 5, 2) := by decide +kernel
theorem dRows_set_71 : decode bRows_set 71 = .ok (.lshl, 1) := by decide +kernel
theorem dRows_set_72 : decode bRows_set 72 = .ok (.lor, 1) := by decide +kernel
theorem dRows_set_73 : decode bRows_set 73 = .ok (.lastore, 1) := by decide +kernel
theorem dRows_set_74 : decode bRows_set 74 = .ok (.return_, 1) := by decide +kernel
theorem dRows_copy_0 : decode bRows_copy 0 = .ok (.aload_n 0, 1) := by decide +kernel
theorem dRows_copy_1 : decode bRows_copy 1 = .ok (.iload_n 1, 1) := by decide +kernel
theorem dRows_copy_2 : decode bRows_copy 2 = .ok (.invokevirtual 31, 3) := by decide +kernel
theorem dRows_copy_5 : decode bRows_copy 5 = .ok (.ifCond .eq 29, 3) := by decide +kernel
theorem dRows_copy_8 : decode bRows_copy 8 = .ok (.aload_n 2, 1) := by decide +kernel
theorem dRows_copy_9 : decode bRows_copy 9 = .ok (.iload_n 3, 1) := by decide +kernel
theorem dRows_copy_10 : decode bRows_copy 10 = .ok (.invokevirtual 31, 3) := by decide +kernel
theorem dRows_copy_13 : decode bRows_copy 13 = .ok (.ifCond .eq 21, 3) := by decide +kernel
theorem dRows_copy_16 : decode bRows_copy 16 = .ok (.aload_n 2, 1) := by decide +kernel
theorem dRows_copy_17 : decode bRows_copy 17 = .ok (.getfield 17, 3) := by decide +kernel
theorem dRows_copy_20 : decode bRows_copy 20 = .ok (.iload_n 3, 1) := by decide +kernel
theorem dRows_copy_21 : decode bRows_copy 21 = .ok (.iconst 4, 1) := by decide +kernel
theorem dRows_copy_22 : decode bRows_copy 22 = .ok (.imul, 1) := by decide +kernel
theorem dRows_copy_23 : decode bRows_copy 23 = .ok (.aload_n 0, 1) := by decide +kernel
theorem dRows_copy_24 : decode bRows_copy 24 = .ok (.getfield 17, 3) := by decide +kernel
theorem dRows_copy_27 : decode bRows_copy 27 = .ok (.iload_n 1, 1) := by decide +kernel
theorem dRows_copy_28 : decode bRows_copy 28 = .ok (.iconst 4, 1) := by decide +kernel
theorem dRows_copy_29 : decode bRows_copy 29 = .ok (.imul, 1) := by decide +kernel
theorem dRows_copy_30 : decode bRows_copy 30 = .ok (.iconst 4, 1) := by decide +kernel
theorem dRows_copy_31 : decode bRows_copy 31 = .ok (.invokestatic 35, 3) := by decide +kernel
theorem dRows_copy_34 : decode bRows_copy 34 = .ok (.return_, 1) := by decide +kernel
theorem dRows_isClear_0 : decode bRows_isClear 0 = .ok (.iconst 0, 1) := by decide +kernel
theorem dRows_isClear_1 : decode bRows_isClear 1 = .ok (.istore_n 3, 1) := by decide +kernel
theorem dRows_isClear_2 : decode bRows_isClear 2 = .ok (.iload_n 3, 1) := by decide +kernel
theorem dRows_isClear_3 : decode bRows_isClear 3 = .ok (.iload_n 2, 1) := by decide +kernel
theorem dRows_isClear_4 : decode bRows_isClear 4 = .ok (.if_icmp .ge 29, 3) := by decide +kernel
theorem dRows_isClear_7 : decode bRows_isClear 7 = .ok (.iload_n 3, 1) := by decide +kernel
theorem dRows_isClear_8 : decode bRows_isClear 8 = .ok (.bipush 64, 2) := by decide +kernel
theorem dRows_isClear_10 : decode bRows_isClear 10 = .ok (.if_icmp .ge 23, 3) := by decide +kernel
theorem dRows_isClear_13 : decode bRows_isClear 13 = .ok (.aload_n 0, 1) := by decide +kernel
theorem dRows_isClear_14 : decode bRows_isClear 14 = .ok (.iload_n 1, 1) := by decide +kernel
theorem dRows_isClear_15 : decode bRows_isClear 15 = .ok (.iload_n 3, 1) := by decide +kernel
theorem dRows_isClear_16 : decode bRows_isClear 16 = .ok (.invokevirtual 41, 3) := by decide +kernel
theorem dRows_isClear_19 : decode bRows_isClear 19 = .ok (.invokestatic 44, 3) := by decide +kernel
theorem dRows_isClear_22 : decode bRows_isClear 22 = .ok (.ifCond .ne 5, 3) := by decide +kernel
theorem dRows_isClear_25 : decode bRows_isClear 25 = .ok (.iconst 0, 1) := by decide +kernel
theorem dRows_isClear_26 : decode bRows_isClear 26 = .ok (.ireturn, 1) := by decide +kernel
theorem dRows_isClear_27 : decode bRows_isClear 27 = .ok (.iinc 3 1, 3) := by decide +kernel
theorem dRows_isClear_30 : decode bRows_isClear 30 = .ok (.goto (-28), 3) := by decide +kernel
theorem dRows_isClear_33 : decode bRows_isClear 33 = .ok (.iconst 1, 1) := by decide +kernel
theorem dRows_isClear_34 : decode bRows_isClear 34 = .ok (.ireturn, 1) := by decide +kernel
theorem dRows_bitsOf_0 : decode bRows_bitsOf 0 = .ok (.lconst 0, 1) := by decide +kernel
theorem dRows_bitsOf_1 : decode bRows_bitsOf 1 = .ok (.lstore_n 3, 1) := by decide +kernel
theorem dRows_bitsOf_2 : decode bRows_bitsOf 2 = .ok (.iconst 0, 1) := by decide +kernel
theorem dRows_bitsOf_3 : decode bRows_bitsOf 3 = .ok (.istore 5, 2) := by decide +kernel
theorem dRows_bitsOf_5 : decode bRows_bitsOf 5 = .ok (.iload 5, 2) := by decide +kernel
theorem dRows_bitsOf_7 : decode bRows_bitsOf 7 = .ok (.iload_n 2, 1) := by decide +kernel
theorem dRows_bitsOf_8 : decode bRows_bitsOf 8 = .ok (.if_icmp .ge 36, 3) := by decide +kernel
theorem dRows_bitsOf_11 : decode bRows_bitsOf 11 = .ok (.iload 5, 2) := by decide +kernel
theorem dRows_bitsOf_13 : decode bRows_bitsOf 13 = .ok (.bipush 64, 2) := by decide +kernel
theorem dRows_bitsOf_15 : decode bRows_bitsOf 15 = .ok (.if_icmp .ge 29, 3) := by decide +kernel
theorem dRows_bitsOf_18 : decode bRows_bitsOf 18 = .ok (.aload_n 0, 1) := by decide +kernel
theorem dRows_bitsOf_19 : decode bRows_bitsOf 19 = .ok (.iload_n 1, 1) := by decide +kernel
theorem dRows_bitsOf_20 : decode bRows_bitsOf 20 = .ok (.iload 5, 2) := by decide +kernel
theorem dRows_bitsOf_22 : decode bRows_bitsOf 22 = .ok (.invokevirtual 41, 3) := by decide +kernel
theorem dRows_bitsOf_25 : decode bRows_bitsOf 25 = .ok (.invokestatic 49, 3) := by decide +kernel
theorem dRows_bitsOf_28 : decode bRows_bitsOf 28 = .ok (.ifCond .eq 10, 3) := by decide +kernel
theorem dRows_bitsOf_31 : decode bRows_bitsOf 31 = .ok (.lload_n 3, 1) := by decide +kernel
theorem dRows_bitsOf_32 : decode bRows_bitsOf 32 = .ok (.lconst 1, 1) := by decide +kernel
theorem dRows_bitsOf_33 : decode bRows_bitsOf 33 = .ok (.iload 5, 2) := by decide +kernel
theorem dRows_bitsOf_35 : decode bRows_bitsOf 35 = .ok (.lshl, 1) := by decide +kernel
theorem dRows_bitsOf_36 : decode bRows_bitsOf 36 = .ok (.lor, 1) := by decide +kernel
theorem dRows_bitsOf_37 : decode bRows_bitsOf 37 = .ok (.lstore_n 3, 1) := by decide +kernel
theorem dRows_bitsOf_38 : decode bRows_bitsOf 38 = .ok (.iinc 5 1, 3) := by decide +kernel
theorem dRows_bitsOf_41 : decode bRows_bitsOf 41 = .ok (.goto (-36), 3) := by decide +kernel
theorem dRows_bitsOf_44 : decode bRows_bitsOf 44 = .ok (.lload_n 3, 1) := by decide +kernel
theorem dRows_bitsOf_45 : decode bRows_bitsOf 45 = .ok (.lreturn, 1) := by decide +kernel
theorem dRows_setBits_0 : decode bRows_setBits 0 = .ok (.iconst 0, 1) := by decide +kernel
theorem dRows_setBits_1 : decode bRows_setBits 1 = .ok (.istore 5, 2) := by decide +kernel
theorem dRows_setBits_3 : decode bRows_setBits 3 = .ok (.iload 5, 2) := by decide +kernel
theorem dRows_setBits_5 : decode bRows_setBits 5 = .ok (.iload_n 2, 1) := by decide +kernel
theorem dRows_setBits_6 : decode bRows_setBits 6 = .ok (.if_icmp .ge 39, 3) := by decide +kernel
theorem dRows_setBits_9 : decode bRows_setBits 9 = .ok (.iload 5, 2) := by decide +kernel
theorem dRows_setBits_11 : decode bRows_setBits 11 = .ok (.bipush 64, 2) := by decide +kernel
theorem dRows_setBits_13 : decode bRows_setBits 13 = .ok (.if_icmp .ge 32, 3) := by decide +kernel
theorem dRows_setBits_16 : decode bRows_setBits 16 = .ok (.aload_n 0, 1) := by decide +kernel
theorem dRows_setBits_17 : decode bRows_setBits 17 = .ok (.iload_n 1, 1) := by decide +kernel
theorem dRows_setBits_18 : decode bRows_setBits 18 = .ok (.iload 5, 2) := by decide +kernel
theorem dRows_setBits_20 : decode bRows_setBits 20 = .ok (.lload_n 3, 1) := by decide +kernel
theorem dRows_setBits_21 : decode bRows_setBits 21 = .ok (.iload 5, 2) := by decide +kernel
theorem dRows_setBits_23 : decode bRows_setBits 23 = .ok (.lushr, 1) := by decide +kernel
theorem dRows_setBits_24 : decode bRows_setBits 24 = .ok (.lconst 1, 1) := by decide +kernel
theorem dRows_setBits_25 : decode bRows_setBits 25 = .ok (.land, 1) := by decide +kernel
theorem dRows_setBits_26 : decode bRows_setBits 26 = .ok (.lconst 1, 1) := by decide +kernel
theorem dRows_setBits_27 : decode bRows_setBits 27 = .ok (.lcmp, 1) := by decide +kernel
theorem dRows_setBits_28 : decode bRows_setBits 28 = .ok (.ifCond .ne 7, 3) := by decide +kernel
theorem dRows_setBits_31 : decode bRows_setBits 31 = .ok (.iconst 3, 1) := by decide +kernel
theorem dRows_setBits_32 : decode bRows_setBits 32 = .ok (.goto 4, 3) := by decide +kernel
theorem dRows_setBits_35 : decode bRows_setBits 35 = .ok (.iconst 2, 1) := by decide +kernel
theorem dRows_setBits_36 : decode bRows_setBits 36 = .ok (.invokevirtual 52, 3) := by decide +kernel
theorem dRows_setBits_39 : decode bRows_setBits 39 = .ok (.iinc 5 1, 3) := by decide +kernel
theorem dRows_setBits_42 : decode bRows_setBits 42 = .ok (.goto (-39), 3) := by decide +kernel
theorem dRows_setBits_45 : decode bRows_setBits 45 = .ok (.return_, 1) := by decide +kernel
theorem dRows_setAll_0 : decode bRows_setAll 0 = .ok (.iconst 0, 1) := by decide +kernel
theorem dRows_setAll_1 : decode bRows_setAll 1 = .ok (.istore 4, 2) := by decide +kernel
theorem dRows_setAll_3 : decode bRows_setAll 3 = .ok (.iload 4, 2) := by decide +kernel
theorem dRows_setAll_5 : decode bRows_setAll 5 = .ok (.iload_n 2, 1) := by decide +kernel
theorem dRows_setAll_6 : decode bRows_setAll 6 = .ok (.if_icmp .ge 24, 3) := by decide +kernel
theorem dRows_setAll_9 : decode bRows_setAll 9 = .ok (.iload 4, 2) := by decide +kernel
theorem dRows_setAll_11 : decode bRows_setAll 11 = .ok (.bipush 64, 2) := by decide +kernel
theorem dRows_setAll_13 : decode bRows_setAll 13 = .ok (.if_icmp .ge 17, 3) := by decide +kernel
theorem dRows_setAll_16 : decode bRows_setAll 16 = .ok (.aload_n 0, 1) := by decide +kernel
theorem dRows_setAll_17 : decode bRows_setAll 17 = .ok (.iload_n 1, 1) := by decide +kernel
theorem dRows_setAll_18 : decode bRows_setAll 18 = .ok (.iload 4, 2) := by decide +kernel
theorem dRows_setAll_20 : decode bRows_setAll 20 = .ok (.iload_n 3, 1) := by decide +kernel
theorem dRows_setAll_21 : decode bRows_setAll 21 = .ok (.invokevirtual 52, 3) := by decide +kernel
theorem dRows_setAll_24 : decode bRows_setAll 24 = .ok (.iinc 4 1, 3) := by decide +kernel
theorem dRows_setAll_27 : decode bRows_setAll 27 = .ok (.goto (-24), 3) := by decide +kernel
theorem dRows_setAll_30 : decode bRows_setAll 30 = .ok (.return_, 1) := by decide +kernel
