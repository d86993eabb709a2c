abbrev bLaw_add : ByteArray := method_3_code
def yLaw_add : MethodName := ⟨R_Law, "add", "(LTypeBook;III[J)I"⟩
abbrev hLaw_add : List (Nat × Nat × Nat × Nat) := [(0, 12, 15, 13), (0, 12, 19, 15)]
theorem meLaw_add : bs_Mw yLaw_add bLaw_add 6 hLaw_add 5 := ⟨bs_in (in_tables_1_2 (List.mem_of_getElem? (i := 87) rfl)) rfl, bs_in (in_tables_1_1 (List.mem_of_getElem? (i := 0) rfl)) rfl, bs_in (in_tables_1_2 (List.mem_of_getElem? (i := 88) rfl)) rfl, by decide, by decide, by decide +kernel⟩
abbrev bLaw_enter : ByteArray := method_4_code
def yLaw_enter : MethodName := ⟨R_Law, "enter", "(LTypeBook;[J)I"⟩
abbrev hLaw_enter : List (Nat × Nat × Nat × Nat) := [(0, 8, 11, 15)]
theorem meLaw_enter : bs_Mw yLaw_enter bLaw_enter 3 hLaw_enter 2 := ⟨bs_in (in_tables_1_2 (List.mem_of_getElem? (i := 231) rfl)) rfl, bs_in (in_tables_1_1 (List.mem_of_getElem? (i := 0) rfl)) rfl, bs_in (in_tables_1_2 (List.mem_of_getElem? (i := 232) rfl)) rfl, by decide, by decide, by decide +kernel⟩
abbrev bLaw_leave : ByteArray := method_5_code
def yLaw_leave : MethodName := ⟨R_Law, "leave", "(LTypeBook;[J)I"⟩
abbrev hLaw_leave : List (Nat × Nat × Nat × Nat) := [(0, 8, 11, 15)]
theorem meLaw_leave : bs_Mw yLaw_leave bLaw_leave 3 hLaw_leave 2 := ⟨bs_in (in_tables_1_3 (List.mem_of_getElem? (i := 3) rfl)) rfl, bs_in (in_tables_1_1 (List.mem_of_getElem? (i := 0) rfl)) rfl, bs_in (in_tables_1_3 (List.mem_of_getElem? (i := 4) rfl)) rfl, by decide, by decide, by decide +kernel⟩
abbrev bLaw_type : ByteArray := method_6_code
def yLaw_type : MethodName := ⟨R_Law, "type", "(LTypeBook;I[J)I"⟩
abbrev hLaw_type : List (Nat × Nat × Nat × Nat) := [(0, 9, 12, 28), (0, 9, 15, 15)]
theorem meLaw_type : bs_Mw yLaw_type bLaw_type 4 hLaw_type 3 := ⟨bs_in (in_tables_1_3 (List.mem_of_getElem? (i := 15) rfl)) rfl, bs_in (in_tables_1_1 (List.mem_of_getElem? (i := 0) rfl)) rfl, bs_in (in_tables_1_3 (List.mem_of_getElem? (i := 16) rfl)) rfl, by decide, by decide, by decide +kernel⟩
abbrev bLaw_enumeration : ByteArray := method_7_code
def yLaw_enumeration : MethodName := ⟨R_Law, "enumeration", "(LTypeBook;I[J)I"⟩
abbrev hLaw_enumeration : List (Nat × Nat × Nat × Nat) := [(0, 9, 12, 28), (0, 9, 15, 15)]
theorem meLaw_enumeration : bs_Mw yLaw_enumeration bLaw_enumeration 4 hLaw_enumeration 3 := ⟨bs_in (in_tables_1_5 (List.mem_of_getElem? (i := 11) rfl)) rfl, bs_in (in_tables_1_1 (List.mem_of_getElem? (i := 0) rfl)) rfl, bs_in (in_tables_1_5 (List.mem_of_getElem? (i := 12) rfl)) rfl, by decide, by decide, by decide +kernel⟩
abbrev bLaw_subtype : ByteArray := method_8_code
def yLaw_subtype : MethodName := ⟨R_Law, "subtype", "(LTypeBook;II[J)I"⟩
abbrev hLaw_subtype : List (Nat × Nat × Nat × Nat) := [(0, 10, 13, 28), (0, 10, 17, 13), (0, 10, 21, 15)]
theorem meLaw_subtype : bs_Mw yLaw_subtype bLaw_subtype 5 hLaw_subtype 4 := ⟨bs_in (in_tables_1_5 (List.mem_of_getElem? (i := 45) rfl)) rfl, bs_in (in_tables_1_1 (List.mem_of_getElem? (i := 0) rfl)) rfl, bs_in (in_tables_1_5 (List.mem_of_getElem? (i := 46) rfl)) rfl, by decide, by decide, by decide +kernel⟩
abbrev bLaw_declare : ByteArray := method_9_code
def yLaw_declare : MethodName := ⟨R_Law, "declare", "(LTypeBook;IIII[J)I"⟩
abbrev hLaw_declare : List (Nat × Nat × Nat × Nat) := [(0, 14, 17, 28), (0, 14, 21, 13), (0, 14, 25, 15)]
theorem meLaw_declare : bs_Mw yLaw_declare bLaw_declare 7 hLaw_declare 6 := ⟨bs_in (in_tables_1_5 (List.mem_of_getElem? (i := 55) rfl)) rfl, bs_in (in_tables_1_1 (List.mem_of_getElem? (i := 0) rfl)) rfl, bs_in (in_tables_1_5 (List.mem_of_getElem? (i := 56) rfl)) rfl, by decide, by decide, by decide +kernel⟩
abbrev bLaw_check : ByteArray := method_10_code
def yLaw_check : MethodName := ⟨R_Law, "check", "(LTypeBook;II[J)I"⟩
abbrev hLaw_check : List (Nat × Nat × Nat × Nat) := [(0, 10, 13, 28)]
theorem meLaw_check : bs_Mw yLaw_check bLaw_check 5 hLaw_check 4 := ⟨bs_in (in_tables_1_5 (List.mem_of_getElem? (i := 97) rfl)) rfl, bs_in (in_tables_1_1 (List.mem_of_getElem? (i := 0) rfl)) rfl, bs_in (in_tables_1_5 (List.mem_of_getElem? (i := 98) rfl)) rfl, by decide, by decide, by decide +kernel⟩
abbrev bLaw_typeOf : ByteArray := method_11_code
def yLaw_typeOf : MethodName := ⟨R_Law, "typeOf", "(LTypeBook;II[J)I"⟩
abbrev hLaw_typeOf : List (Nat × Nat × Nat × Nat) := [(0, 10, 13, 28)]
theorem meLaw_typeOf : bs_Mw yLaw_typeOf bLaw_typeOf 5 hLaw_typeOf 4 := ⟨bs_in (in_tables_1_5 (List.mem_of_getElem? (i := 105) rfl)) rfl, bs_in (in_tables_1_1 (List.mem_of_getElem? (i := 0) rfl)) rfl, bs_in (in_tables_1_5 (List.mem_of_getElem? (i := 106) rfl)) rfl, by decide, by decide, by decide +kernel⟩
abbrev bLaw_about : ByteArray := method_12_code
def yLaw_about : MethodName := ⟨R_Law, "about", "(LTypeBook;II[J)I"⟩
abbrev hLaw_about : List (Nat × Nat × Nat × Nat) := [(0, 10, 13, 28)]
theorem meLaw_about : bs_Mw yLaw_about bLaw_about 5 hLaw_about 4 := ⟨bs_in (in_tables_1_5 (List.mem_of_getElem? (i := 118) rfl)) rfl, bs_in (in_tables_1_1 (List.mem_of_getElem? (i := 0) rfl)) rfl, bs_in (in_tables_1_5 (List.mem_of_getElem? (i := 119) rfl)) rfl, by decide, by decide, by decide +kernel⟩
abbrev bLaw_value : ByteArray := method_13_code
def yLaw_value : MethodName := ⟨R_Law, "value", "(LTypeBook;II[J)I"⟩
abbrev hLaw_value : List (Nat × Nat × Nat × Nat) := [(0, 10, 13, 28), (0, 10, 17, 15)]
theorem meLaw_value : bs_Mw yLaw_value bLaw_value 5 hLaw_value 4 := ⟨bs_in (in_tables_1_5 (List.mem_of_getElem? (i := 130) rfl)) rfl, bs_in (in_tables_1_1 (List.mem_of_getElem? (i := 0) rfl)) rfl, bs_in (in_tables_1_5 (List.mem_of_getElem? (i := 131) rfl)) rfl, by decide, by decide, by decide +kernel⟩
abbrev bLaw_law : ByteArray := code
theorem dLaw_add_0 : decode bLaw_add 0 = .ok (.aload 4, 2) := by decide +kernel
theorem dLaw_add_2 : decode bLaw_add 2 = .ok (.iconst 0, 1) := by decide +kernel
theorem dLaw_add_3 : decode bLaw_add 3 = .ok (.aload_n 0, 1) := by decide +kernel
theorem dLaw_add_4 : decode bLaw_add 4 = .ok (.iload_n 1, 1) := by decide +kernel
theorem dLaw_add_5 : decode bLaw_add 5 = .ok (.iload_n 2, 1) := by decide +kernel
theorem dLaw_add_6 : decode bLaw_add 6 = .ok (.iload_n 3, 1) := by decide +kernel
theorem dLaw_add_7 : decode bLaw_add 7 = .ok (.invokevirtual 7, 3) := by decide +kernel
theorem dLaw_add_10 : decode bLaw_add 10 = .ok (.i2l, 1) := by decide +kernel
theorem dLaw_add_11 : decode bLaw_add 11 = .ok (.lastore, 1) := by decide +kernel
theorem dLaw_add_12 : decode bLaw_add 12 = .ok (.goto 11, 3) := by decide +kernel
theorem dLaw_add_15 : decode bLaw_add 15 = .ok (.astore 5, 2) := by decide +kernel
theorem dLaw_add_17 : decode bLaw_add 17 = .ok (.iconst 1, 1) := by decide +kernel
theorem dLaw_add_18 : decode bLaw_add 18 = .ok (.ireturn, 1) := by decide +kernel
theorem dLaw_add_19 : decode bLaw_add 19 = .ok (.astore 5, 2) := by decide +kernel
theorem dLaw_add_21 : decode bLaw_add 21 = .ok (.iconst 2, 1) := by decide +kernel
theorem dLaw_add_22 : decode bLaw_add 22 = .ok (.ireturn, 1) := by decide +kernel
theorem dLaw_add_23 : decode bLaw_add 23 = .ok (.iconst 0, 1) := by decide +kernel
theorem dLaw_add_24 : decode bLaw_add 24 = .ok (.ireturn, 1) := by decide +kernel
theorem dLaw_enter_0 : decode bLaw_enter 0 = .ok (.aload_n 1, 1) := by decide +kernel
theorem dLaw_enter_1 : decode bLaw_enter 1 = .ok (.iconst 0, 1) := by decide +kernel
theorem dLaw_enter_2 : decode bLaw_enter 2 = .ok (.aload_n 0, 1) := by decide +kernel
theorem dLaw_enter_3 : decode bLaw_enter 3 = .ok (.invokevirtual 17, 3) := by decide +kernel
theorem dLaw_enter_6 : decode bLaw_enter 6 = .ok (.i2l, 1) := by decide +kernel
theorem dLaw_enter_7 : decode bLaw_enter 7 = .ok (.lastore, 1) := by decide +kernel
theorem dLaw_enter_8 : decode bLaw_enter 8 = .ok (.goto 6, 3) := by decide +kernel
theorem dLaw_enter_11 : decode bLaw_enter 11 = .ok (.astore_n 2, 1) := by decide +kernel
theorem dLaw_enter_12 : decode bLaw_enter 12 = .ok (.iconst 1, 1) := by decide +kernel
theorem dLaw_enter_13 : decode bLaw_enter 13 = .ok (.ireturn, 1) := by decide +kernel
theorem dLaw_enter_14 : decode bLaw_enter 14 = .ok (.iconst 0, 1) := by decide +kernel
theorem dLaw_enter_15 : decode bLaw_enter 15 = .ok (.ireturn, 1) := by decide +kernel
theorem dLaw_leave_0 : decode bLaw_leave 0 = .ok (.aload_n 1, 1) := by decide +kernel
theorem dLaw_leave_1 : decode bLaw_leave 1 = .ok (.iconst 0, 1) := by decide +kernel
theorem dLaw_leave_2 : decode bLaw_leave 2 = .ok (.aload_n 0, 1) := by decide +kernel
theorem dLaw_leave_3 : decode bLaw_leave 3 = .ok (.invokevirtual 21, 3) := by decide +kernel
theorem dLaw_leave_6 : decode bLaw_leave 6 = .ok (.i2l, 1) := by decide +kernel
theorem dLaw_leave_7 : decode bLaw_leave 7 = .ok (.lastore, 1) := by decide +kernel
theorem dLaw_leave_8 : decode bLaw_leave 8 = .ok (.goto 6, 3) := by decide +kernel
theorem dLaw_leave_11 : decode bLaw_leave 11 = .ok (.astore_n 2, 1) := by decide +kernel
theorem dLaw_leave_12 : decode bLaw_leave 12 = .ok (.iconst 1, 1) := by decide +kernel
theorem dLaw_leave_13 : decode bLaw_leave 13 = .ok (.ireturn, 1) := by decide +kernel
theorem dLaw_leave_14 : decode bLaw_leave 14 = .ok (.iconst 0, 1) := by decide +kernel
theorem dLaw_leave_15 : decode bLaw_leave 15 = .ok (.ireturn, 1) := by decide +kernel
theorem dLaw_type_0 : decode bLaw_type 0 = .ok (.aload_n 2, 1) := by decide +kernel
theorem dLaw_type_1 : decode bLaw_type 1 = .ok (.iconst 0, 1) := by decide +kernel
theorem dLaw_type_2 : decode bLaw_type 2 = .ok (.aload_n 0, 1) := by decide +kernel
theorem dLaw_type_3 : decode bLaw_type 3 = .ok (.iload_n 1, 1) := by decide +kernel
theorem dLaw_type_4 : decode bLaw_type 4 = .ok (.invokevirtual 24, 3) := by decide +kernel
theorem dLaw_type_7 : decode bLaw_type 7 = .ok (.i2l, 1) := by decide +kernel
theorem dLaw_type_8 : decode bLaw_type 8 = .ok (.lastore, 1) := by decide +kernel
theorem dLaw_type_9 : decode bLaw_type 9 = .ok (.goto 9, 3) := by decide +kernel
theorem dLaw_type_12 : decode bLaw_type 12 = .ok (.astore_n 3, 1) := by decide +kernel
theorem dLaw_type_13 : decode bLaw_type 13 = .ok (.iconst 1, 1) := by decide +kernel
theorem dLaw_type_14 : decode bLaw_type 14 = .ok (.ireturn, 1) := by decide +kernel
theorem dLaw_type_15 : decode bLaw_type 15 = .ok (.astore_n 3, 1) := by decide +kernel
theorem dLaw_type_16 : decode bLaw_type 16 = .ok (.iconst 2, 1) := by decide +kernel
theorem dLaw_type_17 : decode bLaw_type 17 = .ok (.ireturn, 1) := by decide +kernel
theorem dLaw_type_18 : decode bLaw_type 18 = .ok (.iconst 0, 1) := by decide +kernel
theorem dLaw_type_19 : decode bLaw_type 19 = .ok (.ireturn, 1) := by decide +kernel
theorem dLaw_enumeration_0 : decode bLaw_enumeration 0 = .ok (.aload_n 2, 1) := by decide +kernel
theorem dLaw_enumeration_1 : decode bLaw_enumeration 1 = .ok (.iconst 0, 1) := by decide +kernel
theorem dLaw_enumeration_2 : decode bLaw_enumeration 2 = .ok (.aload_n 0, 1) := by decide +kernel
theorem dLaw_enumeration_3 : decode bLaw_enumeration 3 = .ok (.iload_n 1, 1) := by decide +kernel
theorem dLaw_enumeration_4 : decode bLaw_enumeration 4 = .ok (.invokevirtual 30, 3) := by decide +kernel
theorem dLaw_enumeration_7 : decode bLaw_enumeration 7 = .ok (.i2l, 1) := by decide +kernel
theorem dLaw_enumeration_8 : decode bLaw_enumeration 8 = .ok (.lastore, 1) := by decide +kernel
theorem dLaw_enumeration_9 : decode bLaw_enumeration 9 = .ok (.goto 9, 3) := by decide +kernel
theorem dLaw_enumeration_12 : decode bLaw_enumeration 12 = .ok (.astore_n 3, 1) := by decide +kernel
theorem dLaw_enumeration_13 : decode bLaw_enumeration 13 = .ok (.iconst 1, 1) := by decide +kernel
theorem dLaw_enumeration_14 : decode bLaw_enumeration 14 = .ok (.ireturn, 1) := by decide +kernel
theorem dLaw_enumeration_15 : decode bLaw_enumeration 15 = .ok (.astore_n 3, 1) := by decide +kernel
theorem dLaw_enumeration_16 : decode bLaw_enumeration 16 = .ok (.iconst 2, 1) := by decide +kernel
theorem dLaw_enumeration_17 : decode bLaw_enumeration 17 = .ok (.ireturn, 1) := by decide +kernel
theorem dLaw_enumeration_18 : decode bLaw_enumeration 18 = .ok (.iconst 0, 1) := by decide +kernel
theorem dLaw_enumeration_19 : decode bLaw_enumeration 19 = .ok (.ireturn, 1) := by decide +kernel
theorem dLaw_subtype_0 : decode bLaw_subtype 0 = .ok (.aload_n 3, 1) := by decide +kernel
theorem dLaw_subtype_1 : decode bLaw_subtype 1 = .ok (.iconst 0, 1) := by decide +kernel
theorem dLaw_subtype_2 : decode bLaw_subtype 2 = .ok (.aload_n 0, 1) := by decide +kernel
theorem dLaw_subtype_3 : decode bLaw_subtype 3 = .ok (.iload_n 1, 1) := by decide +kernel
theorem dLaw_subtype_4 : decode bLaw_subtype 4 = .ok (.iload_n 2, 1) := by decide +kernel
theorem dLaw_subtype_5 : decode bLaw_subtype 5 = .ok (.invokevirtual 33, 3) := by decide +kernel
theorem dLaw_subtype_8 : decode bLaw_subtype 8 = .ok (.i2l, 1) := by decide +kernel
theorem dLaw_subtype_9 : decode bLaw_subtype 9 = .ok (.lastore, 1) := by decide +kernel
theorem dLaw_subtype_10 : decode bLaw_subtype 10 = .ok (.goto 15, 3) := by decide +kernel
theorem dLaw_subtype_13 : decode bLaw_subtype 13 = .ok (.astore 4, 2) := by decide +kernel
theorem dLaw_subtype_15 : decode bLaw_subtype 15 = .ok (.iconst 1, 1) := by decide +kernel
theorem dLaw_subtype_16 : decode bLaw_subtype 16 = .ok (.ireturn, 1) := by decide +kernel
theorem dLaw_subtype_17 : decode bLaw_subtype 17 = .ok (.astore 4, 2) := by decide +kernel
theorem dLaw_subtype_19 : decode bLaw_subtype 19 = .ok (.iconst 2, 1) := by decide +kernel
theorem dLaw_subtype_20 : decode bLaw_subtype 20 = .ok (.ireturn, 1) := by decide +kernel
theorem dLaw_subtype_21 : decode bLaw_subtype 21 = .ok (.astore 4, 2) := by decide +kernel
theorem dLaw_subtype_23 : decode bLaw_subtype 23 = .ok (.iconst 3, 1) := by decide +kernel
theorem dLaw_subtype_24 : decode bLaw_subtype 24 = .ok (.ireturn, 1) := by decide +kernel
theorem dLaw_subtype_25 : decode bLaw_subtype 25 = .ok (.iconst 0, 1) := by decide +kernel
theorem dLaw_subtype_26 : decode bLaw_subtype 26 = .ok (.ireturn, 1) := by decide +kernel
theorem dLaw_declare_0 : decode bLaw_declare 0 = .ok (.aload 5, 2) := by decide +kernel
theorem dLaw_declare_2 : decode bLaw_declare 2 = .ok (.iconst 0, 1) := by decide +kernel
theorem dLaw_declare_3 : decode bLaw_declare 3 = .ok (.aload_n 0, 1) := by decide +kernel
theorem dLaw_declare_4 : decode bLaw_declare 4 = .ok (.iload_n 1, 1) := by decide +kernel
theorem dLaw_declare_5 : decode bLaw_declare 5 = .ok (.iload_n 2, 1) := by decide +kernel
theorem dLaw_declare_6 : decode bLaw_declare 6 = .ok (.iload_n 3, 1) := by decide +kernel
theorem dLaw_declare_7 : decode bLaw_declare 7 = .ok (.iload 4, 2) := by decide +kernel
theorem dLaw_declare_9 : decode bLaw_declare 9 = .ok (.invokevirtual 37, 3) := by decide +kernel
theorem dLaw_declare_12 : decode bLaw_declare 12 = .ok (.i2l, 1) := by decide +kernel
theorem dLaw_declare_13 : decode bLaw_declare 13 = .ok (.lastore, 1) := by decide +kernel
theorem dLaw_declare_14 : decode bLaw_declare 14 = .ok (.goto 15, 3) := by decide +kernel
theorem dLaw_declare_17 : decode bLaw_declare 17 = .ok (.astore 6, 2) := by decide +kernel
theorem dLaw_declare_19 : decode bLaw_declare 19 = .ok (.iconst 1, 1) := by decide +kernel
theorem dLaw_declare_20 : decode bLaw_declare 20 = .ok (.ireturn, 1) := by decide +kernel
theorem dLaw_declare_21 : decode bLaw_declare 21 = .ok (.astore 6, 2) := by decide +kernel
theorem dLaw_declare_23 : decode bLaw_declare 23 = .ok (.iconst 2, 1) := by decide +kernel
theorem dLaw_declare_24 : decode bLaw_declare 24 = .ok (.ireturn, 1) := by decide +kernel
theorem dLaw_declare_25 : decode bLaw_declare 25 = .ok (.astore 6, 2) := by decide +kernel
theorem dLaw_declare_27 : decode bLaw_declare 27 = .ok (.iconst 3, 1) := by decide +kernel
theorem dLaw_declare_28 : decode bLaw_declare 28 = .ok (.ireturn, 1) := by decide +kernel
theorem dLaw_declare_29 : decode bLaw_declare 29 = .ok (.iconst 0, 1) := by decide +kernel
theorem dLaw_declare_30 : decode bLaw_declare 30 = .ok (.ireturn, 1) := by decide +kernel
theorem dLaw_check_0 : decode bLaw_check 0 = .ok (.aload_n 3, 1) := by decide +kernel
theorem dLaw_check_1 : decode bLaw_check 1 = .ok (.iconst 0, 1) := by decide +kernel
theorem dLaw_check_2 : decode bLaw_check 2 = .ok (.aload_n 0, 1) := by decide +kernel
theorem dLaw_check_3 : decode bLaw_check 3 = .ok (.iload_n 1, 1) := by decide +kernel
theorem dLaw_check_4 : decode bLaw_check 4 = .ok (.iload_n 2, 1) := by decide +kernel
theorem dLaw_check_5 : decode bLaw_check 5 = .ok (.invokevirtual 41, 3) := by decide +kernel
theorem dLaw_check_8 : decode bLaw_check 8 = .ok (.i2l, 1) := by decide +kernel
theorem dLaw_check_9 : decode bLaw_check 9 = .ok (.lastore, 1) := by decide +kernel
theorem dLaw_check_10 : decode bLaw_check 10 = .ok (.goto 7, 3) := by decide +kernel
theorem dLaw_check_13 : decode bLaw_check 13 = .ok (.astore 4, 2) := by decide +kernel
theorem dLaw_check_15 : decode bLaw_check 15 = .ok (.iconst 1, 1) := by decide +kernel
theorem dLaw_check_16 : decode bLaw_check 16 = .ok (.ireturn, 1) := by decide +kernel
theorem dLaw_check_17 : decode bLaw_check 17 = .ok (.iconst 0, 1) := by decide +kernel
theorem dLaw_check_18 : decode bLaw_check 18 = .ok (.ireturn, 1) := by decide +kernel
theorem dLaw_typeOf_0 : decode bLaw_typeOf 0 = .ok (.aload_n 3, 1) := by decide +kernel
theorem dLaw_typeOf_1 : decode bLaw_typeOf 1 = .ok (.iconst 0, 1) := by decide +kernel
theorem dLaw_typeOf_2 : decode bLaw_typeOf 2 = .ok (.aload_n 0, 1) := by decide +kernel
theorem dLaw_typeOf_3 : decode bLaw_typeOf 3 = .ok (.iload_n 1, 1) := by decide +kernel
theorem dLaw_typeOf_4 : decode bLaw_typeOf 4 = .ok (.iload_n 2, 1) := by decide +kernel
theorem dLaw_typeOf_5 : decode bLaw_typeOf 5 = .ok (.invokevirtual 44, 3) := by decide +kernel
theorem dLaw_typeOf_8 : decode bLaw_typeOf 8 = .ok (.i2l, 1) := by decide +kernel
theorem dLaw_typeOf_9 : decode bLaw_typeOf 9 = .ok (.lastore, 1) := by decide +kernel
theorem dLaw_typeOf_10 : decode bLaw_typeOf 10 = .ok (.goto 7, 3) := by decide +kernel
theorem dLaw_typeOf_13 : decode bLaw_typeOf 13 = .ok (.astore 4, 2) := by decide +kernel
theorem dLaw_typeOf_15 : decode bLaw_typeOf 15 = .ok (.iconst 1, 1) := by decide +kernel
theorem dLaw_typeOf_16 : decode bLaw_typeOf 16 = .ok (.ireturn, 1) := by decide +kernel
theorem dLaw_typeOf_17 : decode bLaw_typeOf 17 = .ok (.iconst 0, 1) := by decide +kernel
theorem dLaw_typeOf_18 : decode bLaw_typeOf 18 = .ok (.ireturn, 1) := by decide +kernel
theorem dLaw_about_0 : decode bLaw_about 0 = .ok (.aload_n 3, 1) := by decide +kernel
theorem dLaw_about_1 : decode bLaw_about 1 = .ok (.iconst 0, 1) := by decide +kernel
theorem dLaw_about_2 : decode bLaw_about 2 = .ok (.aload_n 0, 1) := by decide +kernel
theorem dLaw_about_3 : decode bLaw_about 3 = .ok (.iload_n 1, 1) := by decide +kernel
theorem dLaw_about_4 : decode bLaw_about 4 = .ok (.iload_n 2, 1) := by decide +kernel
theorem dLaw_about_5 : decode bLaw_about 5 = .ok (.invokevirtual 47, 3) := by decide +kernel
theorem dLaw_about_8 : decode bLaw_about 8 = .ok (.i2l, 1) := by decide +kernel
theorem dLaw_about_9 : decode bLaw_about 9 = .ok (.lastore, 1) := by decide +kernel
theorem dLaw_about_10 : decode bLaw_about 10 = .ok (.goto 7, 3) := by decide +kernel
theorem dLaw_about_13 : decode bLaw_about 13 = .ok (.astore 4, 2) := by decide +kernel
theorem dLaw_about_15 : decode bLaw_about 15 = .ok (.iconst 1, 1) := by decide +kernel
theorem dLaw_about_16 : decode bLaw_about 16 = .ok (.ireturn, 1) := by decide +kernel
theorem dLaw_about_17 : decode bLaw_about 17 = .ok (.iconst 0, 1) := by decide +kernel
theorem dLaw_about_18 : decode bLaw_about 18 = .ok (.ireturn, 1) := by decide +kernel
theorem dLaw_value_0 : decode bLaw_value 0 = .ok (.aload_n 3, 1) := by decide +kernel
theorem dLaw_value_1 : decode bLaw_value 1 = .ok (.iconst 0, 1) := by decide +kernel
theorem dLaw_value_2 : decode bLaw_value 2 = .ok (.aload_n 0, 1) := by decide +kernel
theorem dLaw_value_3 : decode bLaw_value 3 = .ok (.iload_n 1, 1) := by decide +kernel
theorem dLaw_value_4 : decode bLaw_value 4 = .ok (.iload_n 2, 1) := by decide +kernel
theorem dLaw_value_5 : decode bLaw_value 5 = .ok (.invokevirtual 50, 3) := by decide +kernel
theorem dLaw_value_8 : decode bLaw_value 8 = .ok (.i2l, 1) := by decide +kernel
theorem dLaw_value_9 : decode bLaw_value 9 = .ok (.lastore, 1) := by decide +kernel
theorem dLaw_value_10 : decode bLaw_value 10 = .ok (.goto 11, 3) := by decide +kernel
theorem dLaw_value_13 : decode bLaw_value 13 = .ok (.astore 4, 2) := by decide +kernel
theorem dLaw_value_15 : decode bLaw_value 15 = .ok (.iconst 1, 1) := by decide +kernel
theorem dLaw_value_16 : decode bLaw_value 16 = .ok (.ireturn, 1) := by decide +kernel
theorem dLaw_value_17 : decode bLaw_value 17 = .ok (.astore 4, 2) := by decide +kernel
theorem dLaw_value_19 : decode bLaw_value 19 = .ok (.iconst 2, 1) := by decide +kernel
theorem dLaw_value_20 : decode bLaw_value 20 = .ok (.ireturn, 1) := by decide +kernel
theorem dLaw_value_21 : decode bLaw_value 21 = .ok (.iconst 0, 1) := by decide +kernel
theorem dLaw_value_22 : decode bLaw_value 22 = .ok (.ireturn, 1) := by decide +kernel
theorem dLaw_law_0 : decode bLaw_law 0 = .ok (.new 8, 3) := by decide +kernel
theorem dLaw_law_3 : decode bLaw_law 3 = .ok (.dup, 1) := by decide +kernel
theorem dLaw_law_4 : decode bLaw_law 4 = .ok (.invokespecial 53, 3) := by decide +kernel
theorem dLaw_law_7 : decode bLaw_law 7 = .ok (.astore_n 1, 1) := by decide +kernel
theorem dLaw_law_8 : decode bLaw_law 8 = .ok (.new 54, 3) := by decide +kernel
theorem dLaw_law_11 : decode bLaw_law 11 = .ok (.dup, 1) := by decide +kernel
theorem dLaw_law_12 : decode bLaw_law 12 = .ok (.invokespecial 56, 3) := by decide +kernel
theorem dLaw_law_15 : decode bLaw_law 15 = .ok (.astore_n 2, 1) := by decide +kernel
theorem dLaw_law_16 : decode bLaw_law 16 = .ok (.iconst 1, 1) := by decide +kernel
theorem dLaw_law_17 : decode bLaw_law 17 = .ok (.newarray .long, 2) := by decide +kernel
theorem dLaw_law_19 : decode bLaw_law 19 = .ok (.astore_n 3, 1) := by decide +kernel
theorem dLaw_law_20 : decode bLaw_law 20 = .ok (.iconst 0, 1) := by decide +kernel
theorem dLaw_law_21 : decode bLaw_law 21 = .ok (.istore 4, 2) := by decide +kernel
theorem dLaw_law_23 : decode bLaw_law 23 = .ok (.iload 4, 2) := by decide +kernel
theorem dLaw_law_25 : decode bLaw_law 25 = .ok (.aload_n 0, 1) := by decide +kernel
theorem dLaw_law_26 : decode bLaw_law 26 = .ok (.arraylength, 1) := by decide +kernel
theorem dLaw_law_27 : decode bLaw_law 27 = .ok (.iconst 5, 1) := by decide +kernel
theorem dLaw_law_28 : decode bLaw_law 28 = .ok (.isub, 1) := by decide +kernel
theorem dLaw_law_29 : decode bLaw_law 29 = .ok (.if_icmp .gt 511, 3) := by decide +kernel
theorem dLaw_law_32 : decode bLaw_law 32 = .ok (.aload_n 0, 1) := by decide +kernel
theorem dLaw_law_33 : decode bLaw_law 33 = .ok (.iload 4, 2) := by decide +kernel
theorem dLaw_law_35 : decode bLaw_law 35 = .ok (.iaload, 1) := by decide +kernel
theorem dLaw_law_36 : decode bLaw_law 36 = .ok (.bipush 15, 2) := by decide +kernel
theorem dLaw_law_38 : decode bLaw_law 38 = .ok (.iand, 1) := by decide +kernel
theorem dLaw_law_39 : decode bLaw_law 39 = .ok (.tableswitch 495 0 12 #[65, 117, 130, 146, 162, 190, 218, 258, 322, 362, 375, 415, 455], 65) := by decide +kernel
theorem dLaw_law_104 : decode bLaw_law 104 = .ok (.aload_n 1, 1) := by decide +kernel
theorem dLaw_law_105 : decode bLaw_law 105 = .ok (.aload_n 0, 1) := by decide +kernel
theorem dLaw_law_106 : decode bLaw_law 106 = .ok (.iload 4, 2) := by decide +kernel
theorem dLaw_law_108 : decode bLaw_law 108 = .ok (.iconst 1, 1) := by decide +kernel
theorem dLaw_law_109 : decode bLaw_law 109 = .ok (.iadd, 1) := by decide +kernel
theorem dLaw_law_110 : decode bLaw_law 110 = .ok (.iaload, 1) := by decide +kernel
theorem dLaw_law_111 : decode bLaw_law 111 = .ok (.aload_n 0, 1) := by decide +kernel
theorem dLaw_law_112 : decode bLaw_law 112 = .ok (.iload 4, 2) := by decide +kernel
theorem dLaw_law_114 : decode bLaw_law 114 = .ok (.iconst 2, 1) := by decide +kernel
theorem dLaw_law_115 : decode bLaw_law 115 = .ok (.iadd, 1) := by decide +kernel
theorem dLaw_law_116 : decode bLaw_law 116 = .ok (.iaload, 1) := by decide +kernel
theorem dLaw_law_117 : decode bLaw_law 117 = .ok (.aload_n 0, 1) := by decide +kernel
theorem dLaw_law_118 : decode bLaw_law 118 = .ok (.iload 4, 2) := by decide +kernel
theorem dLaw_law_120 : decode bLaw_law 120 = .ok (.iconst 3, 1) := by decide +kernel
theorem dLaw_law_121 : decode bLaw_law 121 = .ok (.iadd, 1) := by decide +kernel
theorem dLaw_law_122 : decode bLaw_law 122 = .ok (.iaload, 1) := by decide +kernel
theorem dLaw_law_123 : decode bLaw_law 123 = .ok (.aload_n 3, 1) := by decide +kernel
theorem dLaw_law_124 : decode bLaw_law 124 = .ok (.invokestatic 57, 3) := by decide +kernel
theorem dLaw_law_127 : decode bLaw_law 127 = .ok (.istore 5, 2) := by decide +kernel
theorem dLaw_law_129 : decode bLaw_law 129 = .ok (.aload_n 2, 1) := by decide +kernel
theorem dLaw_law_130 : decode bLaw_law 130 = .ok (.aload_n 0, 1) := by decide +kernel
theorem dLaw_law_131 : decode bLaw_law 131 = .ok (.iload 4, 2) := by decide +kernel
theorem dLaw_law_133 : decode bLaw_law 133 = .ok (.iconst 1, 1) := by decide +kernel
theorem dLaw_law_134 : decode bLaw_law 134 = .ok (.iadd, 1) := by decide +kernel
theorem dLaw_law_135 : decode bLaw_law 135 = .ok (.iaload, 1) := by decide +kernel
theorem dLaw_law_136 : decode bLaw_law 136 = .ok (.aload_n 0, 1) := by decide +kernel
theorem dLaw_law_137 : decode bLaw_law 137 = .ok (.iload 4, 2) := by decide +kernel
theorem dLaw_law_139 : decode bLaw_law 139 = .ok (.iconst 2, 1) := by decide +kernel
theorem dLaw_law_140 : decode bLaw_law 140 = .ok (.iadd, 1) := by decide +kernel
theorem dLaw_law_141 : decode bLaw_law 141 = .ok (.iaload, 1) := by decide +kernel
theorem dLaw_law_142 : decode bLaw_law 142 = .ok (.aload_n 0, 1) := by decide +kernel
theorem dLaw_law_143 : decode bLaw_law 143 = .ok (.iload 4, 2) := by decide +kernel
theorem dLaw_law_145 : decode bLaw_law 145 = .ok (.iconst 3, 1) := by decide +kernel
theorem dLaw_law_146 : decode bLaw_law 146 = .ok (.iadd, 1) := by decide +kernel
theorem dLaw_law_147 : decode bLaw_law 147 = .ok (.iaload, 1) := by decide +kernel
theorem dLaw_law_148 : decode bLaw_law 148 = .ok (.invokevirtual 62, 3) := by decide +kernel
theorem dLaw_law_151 : decode bLaw_law 151 = .ok (.istore 6, 2) := by decide +kernel
theorem dLaw_law_153 : decode bLaw_law 153 = .ok (.goto 381, 3) := by decide +kernel
theorem dLaw_law_156 : decode bLaw_law 156 = .ok (.aload_n 1, 1) := by decide +kernel
theorem dLaw_law_157 : decode bLaw_law 157 = .ok (.invokevirtual 63, 3) := by decide +kernel
theorem dLaw_law_160 : decode bLaw_law 160 = .ok (.aload_n 2, 1) := by decide +kernel
theorem dLaw_law_161 : decode bLaw_law 161 = .ok (.invokevirtual 66, 3) := by decide +kernel
theorem dLaw_law_164 : decode bLaw_law 164 = .ok (.if_icmp .eq 370, 3) := by decide +kernel
theorem dLaw_law_167 : decode bLaw_law 167 = .ok (.iconst 0, 1) := by decide +kernel
theorem dLaw_law_168 : decode bLaw_law 168 = .ok (.ireturn, 1) := by decide +kernel
theorem dLaw_law_169 : decode bLaw_law 169 = .ok (.aload_n 1, 1) := by decide +kernel
theorem dLaw_law_170 : decode bLaw_law 170 = .ok (.aload_n 3, 1) := by decide +kernel
theorem dLaw_law_171 : decode bLaw_law 171 = .ok (.invokestatic 67, 3) := by decide +kernel
theorem dLaw_law_174 : decode bLaw_law 174 = .ok (.istore 5, 2) := by decide +kernel
theorem dLaw_law_176 : decode bLaw_law 176 = .ok (.aload_n 2, 1) := by decide +kernel
theorem dLaw_law_177 : decode bLaw_law 177 = .ok (.invokevirtual 70, 3) := by decide +kernel
theorem dLaw_law_180 : decode bLaw_law 180 = .ok (.istore 6, 2) := by decide +kernel
theorem dLaw_law_182 : decode bLaw_law 182 = .ok (.goto 352, 3) := by decide +kernel
theorem dLaw_law_185 : decode bLaw_law 185 = .ok (.aload_n 1, 1) := by decide +kernel
theorem dLaw_law_186 : decode bLaw_law 186 = .ok (.aload_n 3, 1) := by decide +kernel
theorem dLaw_law_187 : decode bLaw_law 187 = .ok (.invokestatic 71, 3) := by decide +kernel
theorem dLaw_law_190 : decode bLaw_law 190 = .ok (.istore 5, 2) := by decide +kernel
theorem dLaw_law_192 : decode bLaw_law 192 = .ok (.aload_n 2, 1) := by decide +kernel
theorem dLaw_law_193 : decode bLaw_law 193 = .ok (.invokevirtual 73, 3) := by decide +kernel
theorem dLaw_law_196 : decode bLaw_law 196 = .ok (.istore 6, 2) := by decide +kernel
theorem dLaw_law_198 : decode bLaw_law 198 = .ok (.goto 336, 3) := by decide +kernel
theorem dLaw_law_201 : decode bLaw_law 201 = .ok (.aload_n 1, 1) := by decide +kernel
theorem dLaw_law_202 : decode bLaw_law 202 = .ok (.aload_n 0, 1) := by decide +kernel
theorem dLaw_law_203 : decode bLaw_law 203 = .ok (.iload 4, 2) := by decide +kernel
theorem dLaw_law_205 : decode bLaw_law 205 = .ok (.iconst 1, 1) := by decide +kernel
theorem dLaw_law_206 : decode bLaw_law 206 = .ok (.iadd, 1) := by decide +kernel
theorem dLaw_law_207 : decode bLaw_law 207 = .ok (.iaload, 1) := by decide +kernel
theorem dLaw_law_208 : decode bLaw_law 208 = .ok (.aload_n 3, 1) := by decide +kernel
theorem dLaw_law_209 : decode bLaw_law 209 = .ok (.invokestatic 74, 3) := by decide +kernel
theorem dLaw_law_212 : decode bLaw_law 212 = .ok (.istore 5, 2) := by decide +kernel
theorem dLaw_law_214 : decode bLaw_law 214 = .ok (.aload_n 2, 1) := by decide +kernel
theorem dLaw_law_215 : decode bLaw_law 215 = .ok (.aload_n 0, 1) := by decide +kernel
theorem dLaw_law_216 : decode bLaw_law 216 = .ok (.iload 4, 2) := by decide +kernel
theorem dLaw_law_218 : decode bLaw_law 218 = .ok (.iconst 1, 1) := by decide +kernel
theorem dLaw_law_219 : decode bLaw_law 219 = .ok (.iadd, 1) := by decide +kernel
theorem dLaw_law_220 : decode bLaw_law 220 = .ok (.iaload, 1) := by decide +kernel
theorem dLaw_law_221 : decode bLaw_law 221 = .ok (.invokevirtual 77, 3) := by decide +kernel
theorem dLaw_law_224 : decode bLaw_law 224 = .ok (.istore 6, 2) := by decide +kernel
theorem dLaw_law_226 : decode bLaw_law 226 = .ok (.goto 308, 3) := by decide +kernel
theorem dLaw_law_229 : decode bLaw_law 229 = .ok (.aload_n 1, 1) := by decide +kernel
theorem dLaw_law_230 : decode bLaw_law 230 = .ok (.aload_n 0, 1) := by decide +kernel
theorem dLaw_law_231 : decode bLaw_law 231 = .ok (.iload 4, 2) := by decide +kernel
theorem dLaw_law_233 : decode bLaw_law 233 = .ok (.iconst 1, 1) := by decide +kernel
theorem dLaw_law_234 : decode bLaw_law 234 = .ok (.iadd, 1) := by decide +kernel
theorem dLaw_law_235 : decode bLaw_law 235 = .ok (.iaload, 1) := by decide +kernel
theorem dLaw_law_236 : decode bLaw_law 236 = .ok (.aload_n 3, 1) := by decide +kernel
theorem dLaw_law_237 : decode bLaw_law 237 = .ok (.invokestatic 78, 3) := by decide +kernel
theorem dLaw_law_240 : decode bLaw_law 240 = .ok (.istore 5, 2) := by decide +kernel
theorem dLaw_law_242 : decode bLaw_law 242 = .ok (.aload_n 2, 1) := by decide +kernel
theorem dLaw_law_243 : decode bLaw_law 243 = .ok (.aload_n 0, 1) := by decide +kernel
theorem dLaw_law_244 : decode bLaw_law 244 = .ok (.iload 4, 2) := by decide +kernel
theorem dLaw_law_246 : decode bLaw_law 246 = .ok (.iconst 1, 1) := by decide +kernel
theorem dLaw_law_247 : decode bLaw_law 247 = .ok (.iadd, 1) := by decide +kernel
theorem dLaw_law_248 : decode bLaw_law 248 = .ok (.iaload, 1) := by decide +kernel
theorem dLaw_law_249 : decode bLaw_law 249 = .ok (.invokevirtual 80, 3) := by decide +kernel
theorem dLaw_law_252 : decode bLaw_law 252 = .ok (.istore 6, 2) := by decide +kernel
theorem dLaw_law_254 : decode bLaw_law 254 = .ok (.goto 280, 3) := by decide +kernel
theorem dLaw_law_257 : decode bLaw_law 257 = .ok (.aload_n 1, 1) := by decide +kernel
theorem dLaw_law_258 : decode bLaw_law 258 = .ok (.aload_n 0, 1) := by decide +kernel
theorem dLaw_law_259 : decode bLaw_law 259 = .ok (.iload 4, 2) := by decide +kernel
theorem dLaw_law_261 : decode bLaw_law 261 = .ok (.iconst 1, 1) := by decide +kernel
theorem dLaw_law_262 : decode bLaw_law 262 = .ok (.iadd, 1) := by decide +kernel
theorem dLaw_law_263 : decode bLaw_law 263 = .ok (.iaload, 1) := by decide +kernel
theorem dLaw_law_264 : decode bLaw_law 264 = .ok (.aload_n 0, 1) := by decide +kernel
theorem dLaw_law_265 : decode bLaw_law 265 = .ok (.iload 4, 2) := by decide +kernel
theorem dLaw_law_267 : decode bLaw_law 267 = .ok (.iconst 2, 1) := by decide +kernel
theorem dLaw_law_268 : decode bLaw_law 268 = .ok (.iadd, 1) := by decide +kernel
theorem dLaw_law_269 : decode bLaw_law 269 = .ok (.iaload, 1) := by decide +kernel
theorem dLaw_law_270 : decode bLaw_law 270 = .ok (.aload_n 3, 1) := by decide +kernel
theorem dLaw_law_271 : decode bLaw_law 271 = .ok (.invokestatic 81, 3) := by decide +kernel
theorem dLaw_law_274 : decode bLaw_law 274 = .ok (.istore 5, 2) := by decide +kernel
theorem dLaw_law_276 : decode bLaw_law 276 = .ok (.aload_n 2, 1) := by decide +kernel
theorem dLaw_law_277 : decode bLaw_law 277 = .ok (.aload_n 0, 1) := by decide +kernel
theorem dLaw_law_278 : decode bLaw_law 278 = .ok (.iload 4, 2) := by decide +kernel
theorem dLaw_law_280 : decode bLaw_law 280 = .ok (.iconst 1, 1) := by decide +kernel
theorem dLaw_law_281 : decode bLaw_law 281 = .ok (.iadd, 1) := by decide +kernel
theorem dLaw_law_282 : decode bLaw_law 282 = .ok (.iaload, 1) := by decide +kernel
theorem dLaw_law_283 : decode bLaw_law 283 = .ok (.aload_n 0, 1) := by decide +kernel
theorem dLaw_law_284 : decode bLaw_law 284 = .ok (.iload 4, 2) := by decide +kernel
theorem dLaw_law_286 : decode bLaw_law 286 = .ok (.iconst 2, 1) := by decide +kernel
theorem dLaw_law_287 : decode bLaw_law 287 = .ok (.iadd, 1) := by decide +kernel
theorem dLaw_law_288 : decode bLaw_law 288 = .ok (.iaload, 1) := by decide +kernel
theorem dLaw_law_289 : decode bLaw_law 289 = .ok (.invokevirtual 84, 3) := by decide +kernel
theorem dLaw_law_292 : decode bLaw_law 292 = .ok (.istore 6, 2) := by decide +kernel
theorem dLaw_law_294 : decode bLaw_law 294 = .ok (.goto 240, 3) := by decide +kernel
theorem dLaw_law_297 : decode bLaw_law 297 = .ok (.aload_n 1, 1) := by decide +kernel
theorem dLaw_law_298 : decode bLaw_law 298 = .ok (.aload_n 0, 1) := by decide +kernel
theorem dLaw_law_299 : decode bLaw_law 299 = .ok (.iload 4, 2) := by decide +kernel
theorem dLaw_law_301 : decode bLaw_law 301 = .ok (.iconst 1, 1) := by decide +kernel
theorem dLaw_law_302 : decode bLaw_law 302 = .ok (.iadd, 1) := by decide +kernel
theorem dLaw_law_303 : decode bLaw_law 303 = .ok (.iaload, 1) := by decide +kernel
theorem dLaw_law_304 : decode bLaw_law 304 = .ok (.aload_n 0, 1) := by decide +kernel
theorem dLaw_law_305 : decode bLaw_law 305 = .ok (.iload 4, 2) := by decide +kernel
theorem dLaw_law_307 : decode bLaw_law 307 = .ok (.iconst 2, 1) := by decide +kernel
theorem dLaw_law_308 : decode bLaw_law 308 = .ok (.iadd, 1) := by decide +kernel
theorem dLaw_law_309 : decode bLaw_law 309 = .ok (.iaload, 1) := by decide +kernel
theorem dLaw_law_310 : decode bLaw_law 310 = .ok (.aload_n 0, 1) := by decide +kernel
theorem dLaw_law_311 : decode bLaw_law 311 = .ok (.iload 4, 2) := by decide +kernel
theorem dLaw_law_313 : decode bLaw_law 313 = .ok (.iconst 3, 1) := by decide +kernel
theorem dLaw_law_314 : decode bLaw_law 314 = .ok (.iadd, 1) := by decide +kernel
theorem dLaw_law_315 : decode bLaw_law 315 = .ok (.iaload, 1) := by decide +kernel
theorem dLaw_law_316 : decode bLaw_law 316 = .ok (.aload_n 0, 1) := by decide +kernel
theorem dLaw_law_317 : decode bLaw_law 317 = .ok (.iload 4, 2) := by decide +kernel
theorem dLaw_law_319 : decode bLaw_law 319 = .ok (.iconst 4, 1) := by decide +kernel
theorem dLaw_law_320 : decode bLaw_law 320 = .ok (.iadd, 1) := by decide +kernel
theorem dLaw_law_321 : decode bLaw_law 321 = .ok (.iaload, 1) := by decide +kernel
theorem dLaw_law_322 : decode bLaw_law 322 = .ok (.aload_n 3, 1) := by decide +kernel
theorem dLaw_law_323 : decode bLaw_law 323 = .ok (.invokestatic 85, 3) := by decide +kernel
theorem dLaw_law_326 : decode bLaw_law 326 = .ok (.istore 5, 2) := by decide +kernel
theorem dLaw_law_328 : decode bLaw_law 328 = .ok (.aload_n 2, 1) := by decide +kernel
theorem dLaw_law_329 : decode bLaw_law 329 = .ok (.aload_n 0, 1) := by decide +kernel
theorem dLaw_law_330 : decode bLaw_law 330 = .ok (.iload 4, 2) := by decide +kernel
theorem dLaw_law_332 : decode bLaw_law 332 = .ok (.iconst 1, 1) := by decide +kernel
theorem dLaw_law_333 : decode bLaw_law 333 = .ok (.iadd, 1) := by decide +kernel
theorem dLaw_law_334 : decode bLaw_law 334 = .ok (.iaload, 1) := by decide +kernel
theorem dLaw_law_335 : decode bLaw_law 335 = .ok (.aload_n 0, 1) := by decide +kernel
theorem dLaw_law_336 : decode bLaw_law 336 = .ok (.iload 4, 2) := by decide +kernel
theorem dLaw_law_338 : decode bLaw_law 338 = .ok (.iconst 2, 1) := by decide +kernel
theorem dLaw_law_339 : decode bLaw_law 339 = .ok (.iadd, 1) := by decide +kernel
theorem dLaw_law_340 : decode bLaw_law 340 = .ok (.iaload, 1) := by decide +kernel
theorem dLaw_law_341 : decode bLaw_law 341 = .ok (.aload_n 0, 1) := by decide +kernel
theorem dLaw_law_342 : decode bLaw_law 342 = .ok (.iload 4, 2) := by decide +kernel
theorem dLaw_law_344 : decode bLaw_law 344 = .ok (.iconst 3, 1) := by decide +kernel
theorem dLaw_law_345 : decode bLaw_law 345 = .ok (.iadd, 1) := by decide +kernel
theorem dLaw_law_346 : decode bLaw_law 346 = .ok (.iaload, 1) := by decide +kernel
theorem dLaw_law_347 : decode bLaw_law 347 = .ok (.aload_n 0, 1) := by decide +kernel
theorem dLaw_law_348 : decode bLaw_law 348 = .ok (.iload 4, 2) := by decide +kernel
theorem dLaw_law_350 : decode bLaw_law 350 = .ok (.iconst 4, 1) := by decide +kernel
theorem dLaw_law_351 : decode bLaw_law 351 = .ok (.iadd, 1) := by decide +kernel
theorem dLaw_law_352 : decode bLaw_law 352 = .ok (.iaload, 1) := by decide +kernel
theorem dLaw_law_353 : decode bLaw_law 353 = .ok (.invokevirtual 88, 3) := by decide +kernel
theorem dLaw_law_356 : decode bLaw_law 356 = .ok (.istore 6, 2) := by decide +kernel
theorem dLaw_law_358 : decode bLaw_law 358 = .ok (.goto 176, 3) := by decide +kernel
theorem dLaw_law_361 : decode bLaw_law 361 = .ok (.aload_n 1, 1) := by decide +kernel
theorem dLaw_law_362 : decode bLaw_law 362 = .ok (.aload_n 0, 1) := by decide +kernel
theorem dLaw_law_363 : decode bLaw_law 363 = .ok (.iload 4, 2) := by decide +kernel
theorem dLaw_law_365 : decode bLaw_law 365 = .ok (.iconst 1, 1) := by decide +kernel
theorem dLaw_law_366 : decode bLaw_law 366 = .ok (.iadd, 1) := by decide +kernel
theorem dLaw_law_367 : decode bLaw_law 367 = .ok (.iaload, 1) := by decide +kernel
theorem dLaw_law_368 : decode bLaw_law 368 = .ok (.aload_n 0, 1) := by decide +kernel
theorem dLaw_law_369 : decode bLaw_law 369 = .ok (.iload 4, 2) := by decide +kernel
theorem dLaw_law_371 : decode bLaw_law 371 = .ok (.iconst 2, 1) := by decide +kernel
theorem dLaw_law_372 : decode bLaw_law 372 = .ok (.iadd, 1) := by decide +kernel
theorem dLaw_law_373 : decode bLaw_law 373 = .ok (.iaload, 1) := by decide +kernel
theorem dLaw_law_374 : decode bLaw_law 374 = .ok (.aload_n 3, 1) := by decide +kernel
theorem dLaw_law_375 : decode bLaw_law 375 = .ok (.invokestatic 89, 3) := by decide +kernel
theorem dLaw_law_378 : decode bLaw_law 378 = .ok (.istore 5, 2) := by decide +kernel
theorem dLaw_law_380 : decode bLaw_law 380 = .ok (.aload_n 2, 1) := by decide +kernel
theorem dLaw_law_381 : decode bLaw_law 381 = .ok (.aload_n 0, 1) := by decide +kernel
theorem dLaw_law_382 : decode bLaw_law 382 = .ok (.iload 4, 2) := by decide +kernel
theorem dLaw_law_384 : decode bLaw_law 384 = .ok (.iconst 1, 1) := by decide +kernel
theorem dLaw_law_385 : decode bLaw_law 385 = .ok (.iadd, 1) := by decide +kernel
theorem dLaw_law_386 : decode bLaw_law 386 = .ok (.iaload, 1) := by decide +kernel
theorem dLaw_law_387 : decode bLaw_law 387 = .ok (.aload_n 0, 1) := by decide +kernel
theorem dLaw_law_388 : decode bLaw_law 388 = .ok (.iload 4, 2) := by decide +kernel
theorem dLaw_law_390 : decode bLaw_law 390 = .ok (.iconst 2, 1) := by decide +kernel
theorem dLaw_law_391 : decode bLaw_law 391 = .ok (.iadd, 1) := by decide +kernel
theorem dLaw_law_392 : decode bLaw_law 392 = .ok (.iaload, 1) := by decide +kernel
theorem dLaw_law_393 : decode bLaw_law 393 = .ok (.invokevirtual 91, 3) := by decide +kernel
theorem dLaw_law_396 : decode bLaw_law 396 = .ok (.istore 6, 2) := by decide +kernel
theorem dLaw_law_398 : decode bLaw_law 398 = .ok (.goto 136, 3) := by decide +kernel
theorem dLaw_law_401 : decode bLaw_law 401 = .ok (.aload_n 1, 1) := by decide +kernel
theorem dLaw_law_402 : decode bLaw_law 402 = .ok (.invokevirtual 92, 3) := by decide +kernel
theorem dLaw_law_405 : decode bLaw_law 405 = .ok (.pop, 1) := by decide +kernel
theorem dLaw_law_406 : decode bLaw_law 406 = .ok (.aload_n 2, 1) := by decide +kernel
theorem dLaw_law_407 : decode bLaw_law 407 = .ok (.invokevirtual 95, 3) := by decide +kernel
theorem dLaw_law_410 : decode bLaw_law 410 = .ok (.pop, 1) := by decide +kernel
theorem dLaw_law_411 : decode bLaw_law 411 = .ok (.goto 123, 3) := by decide +kernel
theorem dLaw_law_414 : decode bLaw_law 414 = .ok (.aload_n 1, 1) := by decide +kernel
theorem dLaw_law_415 : decode bLaw_law 415 = .ok (.aload_n 0, 1) := by decide +kernel
theorem dLaw_law_416 : decode bLaw_law 416 = .ok (.iload 4, 2) := by decide +kernel
theorem dLaw_law_418 : decode bLaw_law 418 = .ok (.iconst 1, 1) := by decide +kernel
theorem dLaw_law_419 : decode bLaw_law 419 = .ok (.iadd, 1) := by decide +kernel
theorem dLaw_law_420 : decode bLaw_law 420 = .ok (.iaload, 1) := by decide +kernel
theorem dLaw_law_421 : decode bLaw_law 421 = .ok (.aload_n 0, 1) := by decide +kernel
theorem dLaw_law_422 : decode bLaw_law 422 = .ok (.iload 4, 2) := by decide +kernel
theorem dLaw_law_424 : decode bLaw_law 424 = .ok (.iconst 2, 1) := by decide +kernel
theorem dLaw_law_425 : decode bLaw_law 425 = .ok (.iadd, 1) := by decide +kernel
theorem dLaw_law_426 : decode bLaw_law 426 = .ok (.iaload, 1) := by decide +kernel
theorem dLaw_law_427 : decode bLaw_law 427 = .ok (.aload_n 3, 1) := by decide +kernel
theorem dLaw_law_428 : decode bLaw_law 428 = .ok (.invokestatic 96, 3) := by decide +kernel
theorem dLaw_law_431 : decode bLaw_law 431 = .ok (.istore 5, 2) := by decide +kernel
theorem dLaw_law_433 : decode bLaw_law 433 = .ok (.aload_n 2, 1) := by decide +kernel
theorem dLaw_law_434 : decode bLaw_law 434 = .ok (.aload_n 0, 1) := by decide +kernel
theorem dLaw_law_435 : decode bLaw_law 435 = .ok (.iload 4, 2) := by decide +kernel
theorem dLaw_law_437 : decode bLaw_law 437 = .ok (.iconst 1, 1) := by decide +kernel
theorem dLaw_law_438 : decode bLaw_law 438 = .ok (.iadd, 1) := by decide +kernel
theorem dLaw_law_439 : decode bLaw_law 439 = .ok (.iaload, 1) := by decide +kernel
theorem dLaw_law_440 : decode bLaw_law 440 = .ok (.aload_n 0, 1) := by decide +kernel
theorem dLaw_law_441 : decode bLaw_law 441 = .ok (.iload 4, 2) := by decide +kernel
theorem dLaw_law_443 : decode bLaw_law 443 = .ok (.iconst 2, 1) := by decide +kernel
theorem dLaw_law_444 : decode bLaw_law 444 = .ok (.iadd, 1) := by decide +kernel
theorem dLaw_law_445 : decode bLaw_law 445 = .ok (.iaload, 1) := by decide +kernel
theorem dLaw_law_446 : decode bLaw_law 446 = .ok (.invokevirtual 98, 3) := by decide +kernel
theorem dLaw_law_449 : decode bLaw_law 449 = .ok (.istore 6, 2) := by decide +kernel
theorem dLaw_law_451 : decode bLaw_law 451 = .ok (.goto 83, 3) := by decide +kernel
theorem dLaw_law_454 : decode bLaw_law 454 = .ok (.aload_n 1, 1) := by decide +kernel
theorem dLaw_law_455 : decode bLaw_law 455 = .ok (.aload_n 0, 1) := by decide +kernel
theorem dLaw_law_456 : decode bLaw_law 456 = .ok (.iload 4, 2) := by decide +kernel
theorem dLaw_law_458 : decode bLaw_law 458 = .ok (.iconst 1, 1) := by decide +kernel
theorem dLaw_law_459 : decode bLaw_law 459 = .ok (.iadd, 1) := by decide +kernel
theorem dLaw_law_460 : decode bLaw_law 460 = .ok (.iaload, 1) := by decide +kernel
theorem dLaw_law_461 : decode bLaw_law 461 = .ok (.aload_n 0, 1) := by decide +kernel
theorem dLaw_law_462 : decode bLaw_law 462 = .ok (.iload 4, 2) := by decide +kernel
theorem dLaw_law_464 : decode bLaw_law 464 = .ok (.iconst 2, 1) := by decide +kernel
theorem dLaw_law_465 : decode bLaw_law 465 = .ok (.iadd, 1) := by decide +kernel
theorem dLaw_law_466 : decode bLaw_law 466 = .ok (.iaload, 1) := by decide +kernel
theorem dLaw_law_467 : decode bLaw_law 467 = .ok (.aload_n 3, 1) := by decide +kernel
theorem dLaw_law_468 : decode bLaw_law 468 = .ok (.invokestatic 99, 3) := by decide +kernel
theorem dLaw_law_471 : decode bLaw_law 471 = .ok (.istore 5, 2) := by decide +kernel
theorem dLaw_law_473 : decode bLaw_law 473 = .ok (.aload_n 2, 1) := by decide +kernel
theorem dLaw_law_474 : decode bLaw_law 474 = .ok (.aload_n 0, 1) := by decide +kernel
theorem dLaw_law_475 : decode bLaw_law 475 = .ok (.iload 4, 2) := by decide +kernel
theorem dLaw_law_477 : decode bLaw_law 477 = .ok (.iconst 1, 1) := by decide +kernel
theorem dLaw_law_478 : decode bLaw_law 478 = .ok (.iadd, 1) := by decide +kernel
theorem dLaw_law_479 : decode bLaw_law 479 = .ok (.iaload, 1) := by decide +kernel
theorem dLaw_law_480 : decode bLaw_law 480 = .ok (.aload_n 0, 1) := by decide +kernel
theorem dLaw_law_481 : decode bLaw_law 481 = .ok (.iload 4, 2) := by decide +kernel
theorem dLaw_law_483 : decode bLaw_law 483 = .ok (.iconst 2, 1) := by decide +kernel
theorem dLaw_law_484 : decode bLaw_law 484 = .ok (.iadd, 1) := by decide +kernel
theorem dLaw_law_485 : decode bLaw_law 485 = .ok (.iaload, 1) := by decide +kernel
theorem dLaw_law_486 : decode bLaw_law 486 = .ok (.invokevirtual 101, 3) := by decide +kernel
theorem dLaw_law_489 : decode bLaw_law 489 = .ok (.istore 6, 2) := by decide +kernel
theorem dLaw_law_491 : decode bLaw_law 491 = .ok (.goto 43, 3) := by decide +kernel
theorem dLaw_law_494 : decode bLaw_law 494 = .ok (.aload_n 1, 1) := by decide +kernel
theorem dLaw_law_495 : decode bLaw_law 495 = .ok (.aload_n 0, 1) := by decide +kernel
theorem dLaw_law_496 : decode bLaw_law 496 = .ok (.iload 4, 2) := by decide +kernel
theorem dLaw_law_498 : decode bLaw_law 498 = .ok (.iconst 1, 1) := by decide +kernel
theorem dLaw_law_499 : decode bLaw_law 499 = .ok (.iadd, 1) := by decide +kernel
theorem dLaw_law_500 : decode bLaw_law 500 = .ok (.iaload, 1) := by decide +kernel
theorem dLaw_law_501 : decode bLaw_law 501 = .ok (.aload_n 0, 1) := by decide +kernel
theorem dLaw_law_502 : decode bLaw_law 502 = .ok (.iload 4, 2) := by decide +kernel
theorem dLaw_law_504 : decode bLaw_law 504 = .ok (.iconst 2, 1) := by decide +kernel
theorem dLaw_law_505 : decode bLaw_law 505 = .ok (.iadd, 1) := by decide +kernel
theorem dLaw_law_506 : decode bLaw_law 506 = .ok (.iaload, 1) := by decide +kernel
theorem dLaw_law_507 : decode bLaw_law 507 = .ok (.aload_n 3, 1) := by decide +kernel
theorem dLaw_law_508 : decode bLaw_law 508 = .ok (.invokestatic 102, 3) := by decide +kernel
theorem dLaw_law_511 : decode bLaw_law 511 = .ok (.istore 5, 2) := by decide +kernel
theorem dLaw_law_513 : decode bLaw_law 513 = .ok (.aload_n 2, 1) := by decide +kernel
theorem dLaw_law_514 : decode bLaw_law 514 = .ok (.aload_n 0, 1) := by decide +kernel
theorem dLaw_law_515 : decode bLaw_law 515 = .ok (.iload 4, 2) := by decide +kernel
theorem dLaw_law_517 : decode bLaw_law 517 = .ok (.iconst 1, 1) := by decide +kernel
theorem dLaw_law_518 : decode bLaw_law 518 = .ok (.iadd, 1) := by decide +kernel
theorem dLaw_law_519 : decode bLaw_law 519 = .ok (.iaload, 1) := by decide +kernel
theorem dLaw_law_520 : decode bLaw_law 520 = .ok (.aload_n 0, 1) := by decide +kernel
theorem dLaw_law_521 : decode bLaw_law 521 = .ok (.iload 4, 2) := by decide +kernel
theorem dLaw_law_523 : decode bLaw_law 523 = .ok (.iconst 2, 1) := by decide +kernel
theorem dLaw_law_524 : decode bLaw_law 524 = .ok (.iadd, 1) := by decide +kernel
theorem dLaw_law_525 : decode bLaw_law 525 = .ok (.iaload, 1) := by decide +kernel
theorem dLaw_law_526 : decode bLaw_law 526 = .ok (.invokevirtual 104, 3) := by decide +kernel
theorem dLaw_law_529 : decode bLaw_law 529 = .ok (.istore 6, 2) := by decide +kernel
theorem dLaw_law_531 : decode bLaw_law 531 = .ok (.goto 3, 3) := by decide +kernel
theorem dLaw_law_534 : decode bLaw_law 534 = .ok (.iinc 4 5, 3) := by decide +kernel
theorem dLaw_law_537 : decode bLaw_law 537 = .ok (.goto (-514), 3) := by decide +kernel
theorem dLaw_law_540 : decode bLaw_law 540 = .ok (.iconst 1, 1) := by decide +kernel
theorem dLaw_law_541 : decode bLaw_law 541 = .ok (.ireturn, 1) := by decide +kernel
