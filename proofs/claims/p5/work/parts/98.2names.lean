abbrev bLaw_add : ByteArray := method_3_code
def yLaw_add : MethodName := ⟨R_Law, "add", "(LTypeBook;III[J)I"⟩
abbrev hLaw_add : List (Nat × Nat × Nat × Nat) := [(0, 12, 15, 13), (0, 12, 19, 15)]
theorem meLaw_add : bs_Mw yLaw_add bLaw_add 6 hLaw_add 5 := ⟨bs_in (in_tables_1_2 (List.mem_of_getElem? (i := 87) rfl)) rfl, bs_in (in_tables_1_1 (List.mem_of_getElem? (i := 0) rfl)) rfl, bs_in (in_tables_1_2 (List.mem_of_getElem? (i := 88) rfl)) rfl, by decide, by decide, by decide +kernel⟩
abbrev bLaw_enter : ByteArray := method_4_code
def yLaw_enter : MethodName := ⟨R_Law, "enter", "(LTypeBook;[J)I"⟩
abbrev hLaw_enter : List (Nat × Nat × Nat × Nat) := [(0, 8, 11, 15)]
theorem meLaw_enter : bs_Mw yLaw_enter bLaw_enter 3 hLaw_enter 2 := ⟨bs_in (in_tables_1_2 (List.mem_of_getElem? (i := 231) rfl)) rfl, bs_in (in_tables_1_1 (List.mem_of_getElem? (i := 0) rfl)) rfl, bs_in (in_tables_1_2 (List.mem_of_getElem? (i := 232) rfl)) rfl, by decide, by decide, by decide +kernel⟩
abbrev bLaw_leave : ByteArray := method_5_code
def yLaw_leave : MethodName := ⟨R_Law, "leave", "(LTypeBook;[J)I"⟩
abbrev hLaw_leave : List (Nat × Nat × Nat × Nat) := [(0, 8, 11, 15)]
theorem meLaw_leave : bs_Mw yLaw_leave bLaw_leave 3 hLaw_leave 2 := ⟨bs_in (in_tables_1_3 (List.mem_of_getElem? (i := 3) rfl)) rfl, bs_in (in_tables_1_1 (List.mem_of_getElem? (i := 0) rfl)) rfl, bs_in (in_tables_1_3 (List.mem_of_getElem? (i := 4) rfl)) rfl, by decide, by decide, by decide +kernel⟩
abbrev bLaw_type : ByteArray := method_6_code
def yLaw_type : MethodName := ⟨R_Law, "type", "(LTypeBook;I[J)I"⟩
abbrev hLaw_type : List (Nat × Nat × Nat × Nat) := [(0, 9, 12, 28), (0, 9, 15, 15)]
theorem meLaw_type : bs_Mw yLaw_type bLaw_type 4 hLaw_type 3 := ⟨bs_in (in_tables_1_3 (List.mem_of_getElem? (i := 15) rfl)) rfl, bs_in (in_tables_1_1 (List.mem_of_getElem? (i := 0) rfl)) rfl, bs_in (in_tables_1_3 (List.mem_of_getElem? (i := 16) rfl)) rfl, by decide, by decide, by decide +kernel⟩
abbrev bLaw_enumeration : ByteArray := method_7_code
def yLaw_enumeration : MethodName := ⟨R_Law, "enumeration", "(LTypeBook;I[J)I"⟩
abbrev hLaw_enumeration : List (Nat × Nat × Nat × Nat) := [(0, 9, 12, 28), (0, 9, 15, 15)]
theorem meLaw_enumeration : bs_Mw yLaw_enumeration bLaw_enumeration 4 hLaw_enumeration 3 := ⟨bs_in (in_tables_1_5 (List.mem_of_getElem? (i := 11) rfl)) rfl, bs_in (in_tables_1_1 (List.mem_of_getElem? (i := 0) rfl)) rfl, bs_in (in_tables_1_5 (List.mem_of_getElem? (i := 12) rfl)) rfl, by decide, by decide, by decide +kernel⟩
abbrev bLaw_subtype : ByteArray := method_8_code
def yLaw_subtype : MethodName := ⟨R_Law, "subtype", "(LTypeBook;II[J)I"⟩
abbrev hLaw_subtype : List (Nat × Nat × Nat × Nat) := [(0, 10, 13, 28), (0, 10, 17, 13), (0, 10, 21, 15)]
theorem meLaw_subtype : bs_Mw yLaw_subtype bLaw_subtype 5 hLaw_subtype 4 := ⟨bs_in (in_tables_1_5 (List.mem_of_getElem? (i := 45) rfl)) rfl, bs_in (in_tables_1_1 (List.mem_of_getElem? (i := 0) rfl)) rfl, bs_in (in_tables_1_5 (List.mem_of_getElem? (i := 46) rfl)) rfl, by decide, by decide, by decide +kernel⟩
abbrev bLaw_declare : ByteArray := method_9_code
def yLaw_declare : MethodName := ⟨R_Law, "declare", "(LTypeBook;IIII[J)I"⟩
abbrev hLaw_declare : List (Nat × Nat × Nat × Nat) := [(0, 14, 17, 28), (0, 14, 21, 13), (0, 14, 25, 15)]
theorem meLaw_declare : bs_Mw yLaw_declare bLaw_declare 7 hLaw_declare 6 := ⟨bs_in (in_tables_1_5 (List.mem_of_getElem? (i := 55) rfl)) rfl, bs_in (in_tables_1_1 (List.mem_of_getElem? (i := 0) rfl)) rfl, bs_in (in_tables_1_5 (List.mem_of_getElem? (i := 56) rfl)) rfl, by decide, by decide, by decide +kernel⟩
abbrev bLaw_check : ByteArray := method_10_code
def yLaw_check : MethodName := ⟨R_Law, "check", "(LTypeBook;II[J)I"⟩
abbrev hLaw_check : List (Nat × Nat × Nat × Nat) := [(0, 10, 13, 28)]
theorem meLaw_check : bs_Mw yLaw_check bLaw_check 5 hLaw_check 4 := ⟨bs_in (in_tables_1_5 (List.mem_of_getElem? (i := 97) rfl)) rfl, bs_in (in_tables_1_1 (List.mem_of_getElem? (i := 0) rfl)) rfl, bs_in (in_tables_1_5 (List.mem_of_getElem? (i := 98) rfl)) rfl, by decide, by decide, by decide +kernel⟩
abbrev bLaw_typeOf : ByteArray := method_11_code
def yLaw_typeOf : MethodName := ⟨R_Law, "typeOf", "(LTypeBook;II[J)I"⟩
abbrev hLaw_typeOf : List (Nat × Nat × Nat × Nat) := [(0, 10, 13, 28)]
theorem meLaw_typeOf : bs_Mw yLaw_typeOf bLaw_typeOf 5 hLaw_typeOf 4 := ⟨bs_in (in_tables_1_5 (List.mem_of_getElem? (i := 105) rfl)) rfl, bs_in (in_tables_1_1 (List.mem_of_getElem? (i := 0) rfl)) rfl, bs_in (in_tables_1_5 (List.mem_of_getElem? (i := 106) rfl)) rfl, by decide, by decide, by decide +kernel⟩
abbrev bLaw_about : ByteArray := method_12_code
def yLaw_about : MethodName := ⟨R_Law, "about", "(LTypeBook;II[J)I"⟩
abbrev hLaw_about : List (Nat × Nat × Nat × Nat) := [(0, 10, 13, 28)]
theorem meLaw_about : bs_Mw yLaw_about bLaw_about 5 hLaw_about 4 := ⟨bs_in (in_tables_1_5 (List.mem_of_getElem? (i := 118) rfl)) rfl, bs_in (in_tables_1_1 (List.mem_of_getElem? (i := 0) rfl)) rfl, bs_in (in_tables_1_5 (List.mem_of_getElem? (i := 119) rfl)) rfl, by decide, by decide, by decide +kernel⟩
abbrev bLaw_value : ByteArray := method_13_code
def yLaw_value : MethodName := ⟨R_Law, "value", "(LTypeBook;II[J)I"⟩
abbrev hLaw_value : List (Nat × Nat × Nat × Nat) := [(0, 10, 13, 28), (0, 10, 17, 15)]
theorem meLaw_value : bs_Mw yLaw_value bLaw_value 5 hLaw_value 4 := ⟨bs_in (in_tables_1_5 (List.mem_of_getElem? (i := 130) rfl)) rfl, bs_in (in_tables_1_1 (List.mem_of_getElem? (i := 0) rfl)) rfl, bs_in (in_tables_1_5 (List.mem_of_getElem? (i := 131) rfl)) rfl, by decide, by decide, by decide +kernel⟩
abbrev bLaw_law : ByteArray := code
theorem dLaw_add_0 : decode bLaw_add 0 = .ok (.aload 4, 2) := by decide +kernel
theorem dLaw_add_2 : decode bLaw_add 2 = .ok (.iconst 0, 1) := by decide +kernel
theorem dLaw_add_3 : decode bLaw_add 3 = .ok (.aload_n 0, 1) := by decide +kernel
theorem dLaw_add_4 : decode bLaw_add 4 = .ok (.iload_n 1, 1) := by decide +kernel
theorem dLaw_add_5 : decode bLaw_add 5 = .ok (.iload_n 2, 1) := by decide +kernel
theorem dLaw_add_6 : decode bLaw_add 6 = .ok (.iload_n 3, 1) := by decide +kernel
theorem dLaw_add_7 : decode bLaw_add 7 = .ok (.invokevirtual 7, 3) := by decide +kernel
theorem dLaw_add_10 : decode bLaw_add 10 = .ok (.i2l, 1) := by decide +kernel
theorem dLaw_add_11 : decode bLaw_add 11 = .ok (.lastore, 1) := by decide +kernel
theorem dLaw_add_12 : decode bLaw_add 12 = .ok (.goto 11, 3) := by decide +kernel
theorem dLaw_add_15 : decode bLaw_add 15 = .ok (.astore 5, 2) := by decide +kernel
theorem dLaw_add_17 : decode bLaw_add 17 = .ok (.iconst 1, 1) := by decide +kernel
theorem dLaw_add_18 : decode bLaw_add 18 = .ok (.ireturn, 1) := by decide +kernel
theorem dLaw_add_19 : decode bLaw_add 19 = .ok (.astore 5, 2) := by decide +kernel
theorem dLaw_add_21 : decode bLaw_add 21 = .ok (.iconst 2, 1) := by decide +kernel
theorem dLaw_add_22 : decode bLaw_add 22 = .ok (.ireturn, 1) := by decide +kernel
theorem dLaw_add_23 : decode bLaw_add 23 = .ok (.iconst 0, 1) := by decide +kernel
theorem dLaw_add_24 : decode bLaw_add 24 = .ok (.ireturn, 1) := by decide +kernel
theorem dLaw_enter_0 : decode bLaw_enter 0 = .ok (.aload_n 1, 1) := by decide +kernel
theorem dLaw_enter_1 : decode bLaw_enter 1 = .ok (.iconst 0, 1) := by decide +kernel
theorem dLaw_enter_2 : decode bLaw_enter 2 = .ok (.aload_n 0, 1) := by decide +kernel
theorem dLaw_enter_3 : decode bLaw_enter 3 = .ok (.invokevirtual 17, 3) := by decide +kernel
theorem dLaw_enter_6 : decode bLaw_enter 6 = .ok (.i2l, 1) := by decide +kernel
theorem dLaw_enter_7 : decode bLaw_enter 7 = .ok (.lastore, 1) := by decide +kernel
theorem dLaw_enter_8 : decode bLaw_enter 8 = .ok (.goto 6, 3) := by decide +kernel
theorem dLaw_enter_11 : decode bLaw_enter 11 = .ok (.astore_n 2, 1) := by decide +kernel
theorem dLaw_enter_12 : decode bLaw_enter 12 = .ok (.iconst 1, 1) := by decide +kernel
theorem dLaw_enter_13 : decode bLaw_enter 13 = .ok (.ireturn, 1) := by decide +kernel
theorem dLaw_enter_14 : decode bLaw_enter 14 = .ok (.iconst 0, 1) := by decide +kernel
theorem dLaw_enter_15 : decode bLaw_enter 15 = .ok (.ireturn, 1) := by decide +kernel
theorem dLaw_leave_0 : decode bLaw_leave 0 = .ok (.aload_n 1, 1) := by decide +kernel
theorem dLaw_leave_1 : decode bLaw_leave 1 = .ok (.iconst 0, 1) := by decide +kernel
theorem dLaw_leave_2 : decode bLaw_leave 2 = .ok (.aload_n 0, 1) := by decide +kernel
theorem dLaw_leave_3 : decode bLaw_leave 3 = .ok (.invokevirtual 21, 3) := by decide +kernel
theorem dLaw_leave_6 : decode bLaw_leave 6 = .ok (.i2l, 1) := by decide +kernel
theorem dLaw_leave_7 : decode bLaw_leave 7 = .ok (.lastore, 1) := by decide +kernel
theorem dLaw_leave_8 : decode bLaw_leave 8 = .ok (.goto 6, 3) := by decide +kernel
theorem dLaw_leave_11 : decode bLaw_leave 11 = .ok (.astore_n 2, 1) := by decide +kernel
theorem dLaw_leave_12 : decode bLaw_leave 12 = .ok (.iconst 1, 1) := by decide +kernel
theorem dLaw_leave_13 : decode bLaw_leave 13 = .ok (.ireturn, 1) := by decide +kernel
theorem dLaw_leave_14 : decode bLaw_leave 14 = .ok (.iconst 0, 1) := by decide +kernel
theorem dLaw_leave_15 : decode bLaw_leave 15 = .ok (.ireturn, 1) := by decide +kernel
theorem dLaw_type_0 : decode bLaw_type 0 = .ok (.aload_n 2, 1) := by decide +kernel
theorem dLaw_type_1 : decode bLaw_type 1 = .ok (.iconst 0, 1) := by decide +kernel
theorem dLaw_type_2 : decode bLaw_type 2 = .ok (.aload_n 0, 1) := by decide +kernel
theorem dLaw_type_3 : decode bLaw_type 3 = .ok (.iload_n 1, 1) := by decide +kernel
theorem dLaw_type_4 : decode bLaw_type 4 = .ok (.invokevirtual 24, 3) := by decide +kernel
theorem dLaw_type_7 : decode bLaw_type 7 = .ok (.i2l, 1) := by decide +kernel
theorem dLaw_type_8 : decode bLaw_type 8 = .ok (.lastore, 1) := by decide +kernel
theorem dLaw_type_9 : decode bLaw_type 9 = .ok (.goto 9, 3) := by decide +kernel
theorem dLaw_type_12 : decode bLaw_type 12 = .ok (.astore_n 3, 1) := by decide +kernel
theorem dLaw_type_13 : decode bLaw_type 13 = .ok (.iconst 1, 1) := by decide +kernel
theorem dLaw_type_14 : decode bLaw_type 14 = .ok (.ireturn, 1) := by decide +kernel
theorem dLaw_type_15 : decode bLaw_type 15 = .ok (.astore_n 3, 1) := by decide +kernel
theorem dLaw_type_16 : decode bLaw_type 16 = .ok (.iconst 2, 1) := by decide +kernel
theorem dLaw_type_17 : decode bLaw_type 17 = .ok (.ireturn, 1) := by decide +kernel
theorem dLaw_type_18 : decode bLaw_type 18 = .ok (.iconst 0, 1) := by decide +kernel
theorem dLaw_type_19 : decode bLaw_type 19 = .ok (.ireturn, 1) := by decide +kernel
theorem dLaw_enumeration_0 : decode bLaw_enumeration 0 = .ok (.aload_n 2, 1) := by decide +kernel
theorem dLaw_enumeration_1 : decode bLaw_enumeration 1 = .ok (.iconst 0, 1) := by decide +kernel
theorem dLaw_enumeration_2 : decode bLaw_enumeration 2 = .ok (.aload_n 0, 1) := by decide +kernel
theorem dLaw_enumeration_3 : decode bLaw_enumeration 3 = .ok (.iload_n 1, 1) := by decide +kernel
theorem dLaw_enumeration_4 : decode bLaw_enumeration 4 = .ok (.invokevirtual 30, 3) := by decide +kernel
theorem dLaw_enumeration_7 : decode bLaw_enumeration 7 = .ok (.i2l, 1) := by decide +kernel
theorem dLaw_enumeration_8 : decode bLaw_enumeration 8 = .ok (.lastore, 1) := by decide +kernel
theorem dLaw_enumeration_9 : decode bLaw_enumeration 9 = .ok (.goto 9, 3) := by decide +kernel
theorem dLaw_enumeration_12 : decode bLaw_enumeration 12 = .ok (.astore_n 3, 1) := by decide +kernel
theorem dLaw_enumeration_13 : decode bLaw_enumeration 13 = .ok (.iconst 1, 1) := by decide +kernel
theorem dLaw_enumeration_14 : decode bLaw_enumeration 14 = .ok (.ireturn, 1) := by decide +kernel
theorem dLaw_enumeration_15 : decode bLaw_enumeration 15 = .ok (.astore_n 3, 1) := by decide +kernel
theorem dLaw_enumeration_16 : decode bLaw_enumeration 16 = .ok (.iconst 2, 1) := by decide +kernel
theorem dLaw_enumeration_17 : decode bLaw_enumeration 17 = .ok (.ireturn, 1) := by decide +kernel
theorem dLaw_enumeration_18 : decode bLaw_enumeration 18 = .ok (.iconst 0, 1) := by decide +kernel
theorem dLaw_enumeration_19 : decode bLaw_enumeration 19 = .ok (.ireturn, 1) := by decide +kernel
theorem dLaw_subtype_0 : decode bLaw_subtype 0 = .ok (.aload_n 3, 1) := by decide +kernel
theorem dLaw_subtype_1 : decode bLaw_subtype 1 = .ok (.iconst 0, 1) := by decide +kernel
theorem dLaw_subtype_2 : decode bLaw_subtype 2 = .ok (.aload_n 0, 1) := by decide +kernel
theorem dLaw_subtype_3 : decode bLaw_subtype 3 = .ok (.iload_n 1, 1) := by decide +kernel
theorem dLaw_subtype_4 : decode bLaw_subtype 4 = .ok (.iload_n 2, 1) := by decide +kernel
theorem dLaw_subtype_5 : decode bLaw_subtype 5 = .ok (.invokevirtual 33, 3) := by decide +kernel
theorem dLaw_subtype_8 : decode bLaw_subtype 8 = .ok (.i2l, 1) := by decide +kernel
theorem dLaw_subtype_9 : decode bLaw_subtype 9 = .ok (.lastore, 1) := by decide +kernel
theorem dLaw_subtype_10 : decode bLaw_subtype 10 = .ok (.goto 15, 3) := by decide +kernel
theorem dLaw_subtype_13 : decode bLaw_subtype 13 = .ok (.astore 4, 2) := by decide +kernel
theorem dLaw_subtype_15 : decode bLaw_subtype 15 = .ok (.iconst 1, 1) := by decide +kernel
theorem dLaw_subtype_16 : decode bLaw_subtype 16 = .ok (.ireturn, 1) := by decide +kernel
theorem dLaw_subtype_17 : decode bLaw_subtype 17 = .ok (.astore 4, 2) := by decide +kernel
theorem dLaw_subtype_19 : decode bLaw_subtype 19 = .ok (.iconst 2, 1) := by decide +kernel
theorem dLaw_subtype_20 : decode bLaw_subtype 20 = .ok (.ireturn, 1) := by decide +kernel
theorem dLaw_subtype_21 : decode bLaw_subtype 21 = .ok (.astore 4, 2) := by decide +kernel
theorem dLaw_subtype_23 : decode bLaw_subtype 23 = .ok (.iconst 3, 1) := by decide +kernel
theorem dLaw_subtype_24 : decode bLaw_subtype 24 = .ok (.ireturn, 1) := by decide +kernel
theorem dLaw_subtype_25 : decode bLaw_subtype 25 = .ok (.iconst 0, 1) := by decide +kernel
theorem dLaw_subtype_26 : decode bLaw_subtype 26 = .ok (.ireturn, 1) := by decide +kernel
theorem dLaw_declare_0 : decode bLaw_declare 0 = .ok (.aload 5, 2) := by decide +kernel
theorem dLaw_declare_2 : decode bLaw_declare 2 = .ok (.iconst 0, 1) := by decide +kernel
theorem dLaw_declare_3 : decode bLaw_declare 3 = .ok (.aload_n 0, 1) := by decide +kernel
theorem dLaw_declare_4 : decode bLaw_declare 4 = .ok (.iload_n 1, 1) := by decide +kernel
theorem dLaw_declare_5 : decode bLaw_declare 5 = .ok (.iload_n 2, 1) := by decide +kernel
theorem dLaw_declare_6 : decode bLaw_declare 6 = .ok (.iload_n 3, 1) := by decide +kernel
theorem dLaw_declare_7 : decode bLaw_declare 7 = .ok (.iload 4, 2) := by decide +kernel
theorem dLaw_declare_9 : decode bLaw_declare 9 = .ok (.invokevirtual 37, 3) := by decide +kernel
theorem dLaw_declare_12 : decode bLaw_declare 12 = .ok (.i2l, 1) := by decide +kernel
theorem dLaw_declare_13 : decode bLaw_declare 13 = .ok (.lastore, 1) := by decide +kernel
theorem dLaw_declare_14 : decode bLaw_declare 14 = .ok (.goto 15, 3) := by decide +kernel
theorem dLaw_declare_17 : decode bLaw_declare 17 = .ok (.astore 6, 2) := by decide +kernel
theorem dLaw_declare_19 : decode bLaw_declare 19 = .ok (.iconst 1, 1) := by decide +kernel
theorem dLaw_declare_20 : decode bLaw_declare 20 = .ok (.ireturn, 1) := by decide +kernel
theorem dLaw_declare_21 : decode bLaw_declare 21 = .ok (.astore 6, 2) := by decide +kernel
theorem dLaw_declare_23 : decode bLaw_declare 23 = .ok (.iconst 2, 1) := by decide +kernel
theorem dLaw_declare_24 : decode bLaw_declare 24 = .ok (.ireturn, 1) := by decide +kernel
theorem dLaw_declare_25 : decode bLaw_declare 25 = .ok (.astore 6, 2) := by decide +kernel
theorem dLaw_declare_27 : decode bLaw_declare 27 = .ok (.iconst 3, 1) := by decide +kernel
theorem dLaw_declare_28 : decode bLaw_declare 28 = .ok (.ireturn, 1) := by decide +kernel
theorem dLaw_declare_29 : decode bLaw_declare 29 = .ok (.iconst 0, 1) := by decide +kernel
theorem dLaw_declare_30 : decode bLaw_declare 30 = .ok (.ireturn, 1) := by decide +kernel
theorem dLaw_check_0 : decode bLaw_check 0 = .ok (.aload_n 3, 1) := by decide +kernel
theorem dLaw_check_1 : decode bLaw_check 1 = .ok (.iconst 0, 1) := by decide +kernel
theorem dLaw_check_2 : decode bLaw_check 2 = .ok (.aload_n 0, 1) := by decide +kernel
theorem dLaw_check_3 : decode bLaw_check 3 = .ok (.iload_n 1, 1) := by decide +kernel
theorem dLaw_check_4 : decode bLaw_check 4 = .ok (.iload_n 2, 1) := by decide +kernel
theorem dLaw_check_5 : decode bLaw_check 5 = .ok (.invokevirtual 41, 3) := by decide +kernel
theorem dLaw_check_8 : decode bLaw_check 8 = .ok (.i2l, 1) := by decide +kernel
theorem dLaw_check_9 : decode bLaw_check 9 = .ok (.lastore, 1) := by decide +kernel
theorem dLaw_check_10 : decode bLaw_check 10 = .ok (.goto 7, 3) := by decide +kernel
theorem dLaw_check_13 : decode bLaw_check 13 = .ok (.astore 4, 2) := by decide +kernel
theorem dLaw_check_15 : decode bLaw_check 15 = .ok (.iconst 1, 1) := by decide +kernel
theorem dLaw_check_16 : decode bLaw_check 16 = .ok (.ireturn, 1) := by decide +kernel
theorem dLaw_check_17 : decode bLaw_check 17 = .ok (.iconst 0, 1) := by decide +kernel
theorem dLaw_check_18 : decode bLaw_check 18 = .ok (.ireturn, 1) := by decide +kernel
theorem dLaw_typeOf_0 : decode bLaw_typeOf 0 = .ok (.aload_n 3, 1) := by decide +kernel
theorem dLaw_typeOf_1 : decode bLaw_typeOf 1 = .ok (.iconst 0, 1) := by decide +kernel
theorem dLaw_typeOf_2 : decode bLaw_typeOf 2 = .ok (.aload_n 0, 1) := by decide +kernel
theorem dLaw_typeOf_3 : decode bLaw_typeOf 3 = .ok (.iload_n 1, 1) := by decide +kernel
theorem dLaw_typeOf_4 : decode bLaw_typeOf 4 = .ok (.iload_n 2, 1) := by decide +kernel
theorem dLaw_typeOf_5 : decode bLaw_typeOf 5 = .ok (.invokevirtual 44, 3) := by decide +kernel
theorem dLaw_typeOf_8 : decode bLaw_typeOf 8 = .ok (.i2l, 1) := by decide +kernel
theorem dLaw_typeOf_9 : decode bLaw_typeOf 9 = .ok (.lastore, 1) := by decide +kernel
theorem dLaw_typeOf_10 : decode bLaw_typeOf 10 = .ok (.goto 7, 3) := by decide +kernel
theorem dLaw_typeOf_13 : decode bLaw_typeOf 13 = .ok (.astore 4, 2) := by decide +kernel
theorem dLaw_typeOf_15 : decode bLaw_typeOf 15 = .ok (.iconst 1, 1) := by decide +kernel
theorem dLaw_typeOf_16 : decode bLaw_typeOf 16 = .ok (.ireturn, 1) := by decide +kernel
theorem dLaw_typeOf_17 : decode bLaw_typeOf 17 = .ok (.iconst 0, 1) := by decide +kernel
theorem dLaw_typeOf_18 : decode bLaw_typeOf 18 = .ok (.ireturn, 1) := by decide +kernel
theorem dLaw_about_0 : decode bLaw_about 0 = .ok (.aload_n 3, 1) := by decide +kernel
theorem dLaw_about_1 : decode bLaw_about 1 = .ok (.iconst 0, 1) := by decide +kernel
theorem dLaw_about_2 : decode bLaw_about 2 = .ok (.aload_n 0, 1) := by decide +kernel
theorem dLaw_about_3 : decode bLaw_about 3 = .ok (.iload_n 1, 1) := by decide +kernel
theorem dLaw_about_4 : decode bLaw_about 4 = .ok (.iload_n 2, 1) := by decide +kernel
theorem dLaw_about_5 : decode bLaw_about 5 = .ok (.invokevirtual 47, 3) := by decide +kernel
theorem dLaw_about_8 : decode bLaw_about 8 = .ok (.i2l, 1) := by decide +kernel
theorem dLaw_about_9 : decode bLaw_about 9 = .ok (.lastore, 1) := by decide +kernel
theorem dLaw_about_10 : decode bLaw_about 10 = .ok (.goto 7, 3) := by decide +kernel
theorem dLaw_about_13 : decode bLaw_about 13 = .ok (.astore 4, 2) := by decide +kernel
theorem dLaw_about_15 : decode bLaw_about 15 = .ok (.iconst 1, 1) := by decide +kernel
theorem dLaw_about_16 : decode bLaw_about 16 = .ok (.ireturn, 1) := by decide +kernel
theorem dLaw_about_17 : decode bLaw_about 17 = .ok (.iconst 0, 1) := by decide +kernel
theorem dLaw_about_18 : decode bLaw_about 18 = .ok (.ireturn, 1) := by decide +kernel
theorem dLaw_value_0 : decode bLaw_value 0 = .ok (.aload_n 3, 1) := by decide +kernel
theorem dLaw_value_1 : decode bLaw_value 1 = .ok (.iconst 0, 1) := by decide +kernel
theorem dLaw_value_2 : decode bLaw_value 2 = .ok (.aload_n 0, 1) := by decide +kernel
theorem dLaw_value_3 : decode bLaw_value 3 = .ok (.iload_n 1, 1) := by decide +kernel
theorem dLaw_value_4 : decode bLaw_value 4 = .ok (.iload_n 2, 1) := by decide +kernel
theorem dLaw_value_5 : decode bLaw_value 5 = .ok (.invokevirtual 50, 3) := by decide +kernel
theorem dLaw_value_8 : decode bLaw_value 8 = .ok (.i2l, 1) := by decide +kernel
theorem dLaw_value_9 : decode bLaw_value 9 = .ok (.lastore, 1) := by decide +kernel
theorem dLaw_value_10 : decode bLaw_value 10 = .ok (.goto 11, 3) := by decide +kernel
theorem dLaw_value_13 : decode bLaw_value 13 = .ok (.astore 4, 2) := by decide +kernel
theorem dLaw_value_15 : decode bLaw_value 15 = .ok (.iconst 1, 1) := by decide +kernel
theorem dLaw_value_16 : decode bLaw_value 16 = .ok (.ireturn, 1) := by decide +kernel
theorem dLaw_value_17 : decode bLaw_value 17 = .ok (.astore 4, 2) := by decide +kernel
theorem dLaw_value_19 : decode bLaw_value 19 = .ok (.iconst 2, 1) := by decide +kernel
theorem dLaw_value_20 : decode bLaw_value 20 = .ok (.ireturn, 1) := by decide +kernel
theorem dLaw_value_21 : decode bLaw_value 21 = .ok (.iconst 0, 1) := by decide +kernel
theorem dLaw_value_22 : decode bLaw_value 22 = .ok (.ireturn, 1) := by decide +kernel
theorem dLaw_law_0 : decode bLaw_law 0 = .ok (.new 8, 3) := by decide +kernel
theorem dLaw_law_3 : decode bLaw_law 3 = .ok (.dup, 1) := by decide +kernel
theorem dLaw_law_4 : decode bLaw_law 4 = .ok (.invokespecial 53, 3) := by decide +kernel
theorem dLaw_law_7 : decode bLaw_law 7 = .ok (.astore_n 1, 1) := by decide +kernel
theorem dLaw_law_8 : decode bLaw_law 8 = .ok (.new 54, 3) := by decide +kernel
theorem dLaw_law_11 : decode bLaw_law 11 = .ok (.dup, 1) := by decide +kernel
theorem dLaw_law_12 : decode bLaw_law 12 = .ok (.invokespecial 56, 3) := by decide +kernel
theorem dLaw_law_15 : decode bLaw_law 15 = .ok (.astore_n 2, 1) := by decide +kernel
theorem dLaw_law_16 : decode bLaw_law 16 = .ok (.iconst 1, 1) := by decide +kernel
theorem dLaw_law_17 : decode bLaw_law 17 = .ok (.newarray .long, 2) := by decide +kernel
theorem dLaw_law_19 : decode bLaw_law 19 = .ok (.astore_n 3, 1) := by decide +kernel
theorem dLaw_law_20 : decode bLaw_law 20 = .ok (.iconst 0, 1) := by decide +kernel
theorem dLaw_law_21 : decode bLaw_law 21 = .ok (.istore 4, 2) := by decide +kernel
theorem dLaw_law_23 : decode bLaw_law 23 = .ok (.iload 4, 2) := by decide +kernel
theorem dLaw_law_25 : decode bLaw_law 25 = .ok (.aload_n 0, 1) := by decide +kernel
theorem dLaw_law_26 : decode bLaw_law 26 = .ok (.arraylength, 1) := by decide +kernel
theorem dLaw_law_27 : decode bLaw_law 27 = .ok (.iconst 5, 1) := by decide +kernel
theorem dLaw_law_28 : decode bLaw_law 28 = .ok (.isub, 1) := by decide +kernel
theorem dLaw_law_29 : decode bLaw_law 29 = .ok (.if_icmp .gt 539, 3) := by decide +kernel
theorem dLaw_law_32 : decode bLaw_law 32 = .ok (.aload_n 0, 1) := by decide +kernel
theorem dLaw_law_33 : decode bLaw_law 33 = .ok (.iload 4, 2) := by decide +kernel
theorem dLaw_law_35 : decode bLaw_law 35 = .ok (.iaload, 1) := by decide +kernel
theorem dLaw_law_36 : decode bLaw_law 36 = .ok (.bipush 15, 2) := by decide +kernel
theorem dLaw_law_38 : decode bLaw_law 38 = .ok (.iand, 1) := by decide +kernel
theorem dLaw_law_39 : decode bLaw_law 39 = .ok (.tableswitch 523 0 12 #[65, 117, 130, 146, 190, 218, 246, 286, 350, 390, 403, 443, 483], 65) := by decide +kernel
theorem dLaw_law_104 : decode bLaw_law 104 = .ok (.aload_n 1, 1) := by decide +kernel
theorem dLaw_law_105 : decode bLaw_law 105 = .ok (.aload_n 0, 1) := by decide +kernel
theorem dLaw_law_106 : decode bLaw_law 106 = .ok (.iload 4, 2) := by decide +kernel
theorem dLaw_law_108 : decode bLaw_law 108 = .ok (.iconst 1, 1) := by decide +kernel
theorem dLaw_law_109 : decode bLaw_law 109 = .ok (.iadd, 1) := by decide +kernel
theorem dLaw_law_110 : decode bLaw_law 110 = .ok (.iaload, 1) := by decide +kernel
theorem dLaw_law_111 : decode bLaw_law 111 = .ok (.aload_n 0, 1) := by decide +kernel
theorem dLaw_law_112 : decode bLaw_law 112 = .ok (.iload 4, 2) := by decide +kernel
theorem dLaw_law_114 : decode bLaw_law 114 = .ok (.iconst 2, 1) := by decide +kernel
theorem dLaw_law_115 : decode bLaw_law 115 = .ok (.iadd, 1) := by decide +kernel
theorem dLaw_law_116 : decode bLaw_law 116 = .ok (.iaload, 1) := by decide +kernel
theorem dLaw_law_117 : decode bLaw_law 117 = .ok (.aload_n 0, 1) := by decide +kernel
theorem dLaw_law_118 : decode bLaw_law 118 = .ok (.iload 4, 2) := by decide +kernel
theorem dLaw_law_120 : decode bLaw_law 120 = .ok (.iconst 3, 1) := by decide +kernel
theorem dLaw_law_121 : decode bLaw_law 121 = .ok (.iadd, 1) := by decide +kernel
theorem dLaw_law_122 : decode bLaw_law 122 = .ok (.iaload, 1) := by decide +kernel
theorem dLaw_law_123 : decode bLaw_law 123 = .ok (.aload_n 3, 1) := by decide +kernel
theorem dLaw_law_124 : decode bLaw_law 124 = .ok (.invokestatic 57, 3) := by decide +kernel
theorem dLaw_law_127 : decode bLaw_law 127 = .ok (.istore 5, 2) := by decide +kernel
theorem dLaw_law_129 : decode bLaw_law 129 = .ok (.aload_n 2, 1) := by decide +kernel
theorem dLaw_law_130 : decode bLaw_law 130 = .ok (.aload_n 0, 1) := by decide +kernel
theorem dLaw_law_131 : decode bLaw_law 131 = .ok (.iload 4, 2) := by decide +kernel
theorem dLaw_law_133 : decode bLaw_law 133 = .ok (.iconst 1, 1) := by decide +kernel
theorem dLaw_law_134 : decode bLaw_law 134 = .ok (.iadd, 1) := by decide +kernel
theorem dLaw_law_135 : decode bLaw_law 135 = .ok (.iaload, 1) := by decide +kernel
theorem dLaw_law_136 : decode bLaw_law 136 = .ok (.aload_n 0, 1) := by decide +kernel
theorem dLaw_law_137 : decode bLaw_law 137 = .ok (.iload 4, 2) := by decide +kernel
theorem dLaw_law_139 : decode bLaw_law 139 = .ok (.iconst 2, 1) := by decide +kernel
theorem dLaw_law_140 : decode bLaw_law 140 = .ok (.iadd, 1) := by decide +kernel
theorem dLaw_law_141 : decode bLaw_law 141 = .ok (.iaload, 1) := by decide +kernel
theorem dLaw_law_142 : decode bLaw_law 142 = .ok (.aload_n 0, 1) := by decide +kernel
theorem dLaw_law_143 : decode bLaw_law 143 = .ok (.iload 4, 2) := by decide +kernel
theorem dLaw_law_145 : decode bLaw_law 145 = .ok (.iconst 3, 1) := by decide +kernel
theorem dLaw_law_146 : decode bLaw_law 146 = .ok (.iadd, 1) := by decide +kernel
theorem dLaw_law_147 : decode bLaw_law 147 = .ok (.iaload, 1) := by decide +kernel
theorem dLaw_law_148 : decode bLaw_law 148 = .ok (.invokevirtual 62, 3) := by decide +kernel
theorem dLaw_law_151 : decode bLaw_law 151 = .ok (.istore 6, 2) := by decide +kernel
theorem dLaw_law_153 : decode bLaw_law 153 = .ok (.goto 409, 3) := by decide +kernel
theorem dLaw_law_156 : decode bLaw_law 156 = .ok (.aload_n 1, 1) := by decide +kernel
theorem dLaw_law_157 : decode bLaw_law 157 = .ok (.invokevirtual 63, 3) := by decide +kernel
theorem dLaw_law_160 : decode bLaw_law 160 = .ok (.pop, 1) := by decide +kernel
theorem dLaw_law_161 : decode bLaw_law 161 = .ok (.aload_n 2, 1) := by decide +kernel
theorem dLaw_law_162 : decode bLaw_law 162 = .ok (.invokevirtual 66, 3) := by decide +kernel
theorem dLaw_law_165 : decode bLaw_law 165 = .ok (.pop, 1) := by decide +kernel
theorem dLaw_law_166 : decode bLaw_law 166 = .ok (.goto 396, 3) := by decide +kernel
theorem dLaw_law_169 : decode bLaw_law 169 = .ok (.aload_n 1, 1) := by decide +kernel
theorem dLaw_law_170 : decode bLaw_law 170 = .ok (.aload_n 3, 1) := by decide +kernel
theorem dLaw_law_171 : decode bLaw_law 171 = .ok (.invokestatic 67, 3) := by decide +kernel
theorem dLaw_law_174 : decode bLaw_law 174 = .ok (.istore 5, 2) := by decide +kernel
theorem dLaw_law_176 : decode bLaw_law 176 = .ok (.aload_n 2, 1) := by decide +kernel
theorem dLaw_law_177 : decode bLaw_law 177 = .ok (.invokevirtual 70, 3) := by decide +kernel
theorem dLaw_law_180 : decode bLaw_law 180 = .ok (.istore 6, 2) := by decide +kernel
theorem dLaw_law_182 : decode bLaw_law 182 = .ok (.goto 380, 3) := by decide +kernel
theorem dLaw_law_185 : decode bLaw_law 185 = .ok (.aload_n 1, 1) := by decide +kernel
theorem dLaw_law_186 : decode bLaw_law 186 = .ok (.aload_n 3, 1) := by decide +kernel
theorem dLaw_law_187 : decode bLaw_law 187 = .ok (.invokestatic 71, 3) := by decide +kernel
theorem dLaw_law_190 : decode bLaw_law 190 = .ok (.istore 5, 2) := by decide +kernel
theorem dLaw_law_192 : decode bLaw_law 192 = .ok (.aload_n 2, 1) := by decide +kernel
theorem dLaw_law_193 : decode bLaw_law 193 = .ok (.invokevirtual 73, 3) := by decide +kernel
theorem dLaw_law_196 : decode bLaw_law 196 = .ok (.istore 6, 2) := by decide +kernel
theorem dLaw_law_198 : decode bLaw_law 198 = .ok (.aload_n 2, 1) := by decide +kernel
theorem dLaw_law_199 : decode bLaw_law 199 = .ok (.invokevirtual 74, 3) := by decide +kernel
theorem dLaw_law_202 : decode bLaw_law 202 = .ok (.iload 5, 2) := by decide +kernel
theorem dLaw_law_204 : decode bLaw_law 204 = .ok (.if_icmp .eq 5, 3) := by decide +kernel
theorem dLaw_law_207 : decode bLaw_law 207 = .ok (.iconst 0, 1) := by decide +kernel
theorem dLaw_law_208 : decode bLaw_law 208 = .ok (.ireturn, 1) := by decide +kernel
theorem dLaw_law_209 : decode bLaw_law 209 = .ok (.iload 5, 2) := by decide +kernel
theorem dLaw_law_211 : decode bLaw_law 211 = .ok (.ifCond .ne 15, 3) := by decide +kernel
theorem dLaw_law_214 : decode bLaw_law 214 = .ok (.aload_n 3, 1) := by decide +kernel
theorem dLaw_law_215 : decode bLaw_law 215 = .ok (.iconst 0, 1) := by decide +kernel
theorem dLaw_law_216 : decode bLaw_law 216 = .ok (.laload, 1) := by decide +kernel
theorem dLaw_law_217 : decode bLaw_law 217 = .ok (.iload 6, 2) := by decide +kernel
theorem dLaw_law_219 : decode bLaw_law 219 = .ok (.i2l, 1) := by decide +kernel
theorem dLaw_law_220 : decode bLaw_law 220 = .ok (.lcmp, 1) := by decide +kernel
theorem dLaw_law_221 : decode bLaw_law 221 = .ok (.ifCond .eq 5, 3) := by decide +kernel
theorem dLaw_law_224 : decode bLaw_law 224 = .ok (.iconst 0, 1) := by decide +kernel
theorem dLaw_law_225 : decode bLaw_law 225 = .ok (.ireturn, 1) := by decide +kernel
theorem dLaw_law_226 : decode bLaw_law 226 = .ok (.goto 336, 3) := by decide +kernel
theorem dLaw_law_229 : decode bLaw_law 229 = .ok (.aload_n 1, 1) := by decide +kernel
theorem dLaw_law_230 : decode bLaw_law 230 = .ok (.aload_n 0, 1) := by decide +kernel
theorem dLaw_law_231 : decode bLaw_law 231 = .ok (.iload 4, 2) := by decide +kernel
theorem dLaw_law_233 : decode bLaw_law 233 = .ok (.iconst 1, 1) := by decide +kernel
theorem dLaw_law_234 : decode bLaw_law 234 = .ok (.iadd, 1) := by decide +kernel
theorem dLaw_law_235 : decode bLaw_law 235 = .ok (.iaload, 1) := by decide +kernel
theorem dLaw_law_236 : decode bLaw_law 236 = .ok (.aload_n 3, 1) := by decide +kernel
theorem dLaw_law_237 : decode bLaw_law 237 = .ok (.invokestatic 77, 3) := by decide +kernel
theorem dLaw_law_240 : decode bLaw_law 240 = .ok (.istore 5, 2) := by decide +kernel
theorem dLaw_law_242 : decode bLaw_law 242 = .ok (.aload_n 2, 1) := by decide +kernel
theorem dLaw_law_243 : decode bLaw_law 243 = .ok (.aload_n 0, 1) := by decide +kernel
theorem dLaw_law_244 : decode bLaw_law 244 = .ok (.iload 4, 2) := by decide +kernel
theorem dLaw_law_246 : decode bLaw_law 246 = .ok (.iconst 1, 1) := by decide +kernel
theorem dLaw_law_247 : decode bLaw_law 247 = .ok (.iadd, 1) := by decide +kernel
theorem dLaw_law_248 : decode bLaw_law 248 = .ok (.iaload, 1) := by decide +kernel
theorem dLaw_law_249 : decode bLaw_law 249 = .ok (.invokevirtual 80, 3) := by decide +kernel
theorem dLaw_law_252 : decode bLaw_law 252 = .ok (.istore 6, 2) := by decide +kernel
theorem dLaw_law_254 : decode bLaw_law 254 = .ok (.goto 308, 3) := by decide +kernel
theorem dLaw_law_257 : decode bLaw_law 257 = .ok (.aload_n 1, 1) := by decide +kernel
theorem dLaw_law_258 : decode bLaw_law 258 = .ok (.aload_n 0, 1) := by decide +kernel
theorem dLaw_law_259 : decode bLaw_law 259 = .ok (.iload 4, 2) := by decide +kernel
theorem dLaw_law_261 : decode bLaw_law 261 = .ok (.iconst 1, 1) := by decide +kernel
theorem dLaw_law_262 : decode bLaw_law 262 = .ok (.iadd, 1) := by decide +kernel
theorem dLaw_law_263 : decode bLaw_law 263 = .ok (.iaload, 1) := by decide +kernel
theorem dLaw_law_264 : decode bLaw_law 264 = .ok (.aload_n 3, 1) := by decide +kernel
theorem dLaw_law_265 : decode bLaw_law 265 = .ok (.invokestatic 81, 3) := by decide +kernel
theorem dLaw_law_268 : decode bLaw_law 268 = .ok (.istore 5, 2) := by decide +kernel
theorem dLaw_law_270 : decode bLaw_law 270 = .ok (.aload_n 2, 1) := by decide +kernel
theorem dLaw_law_271 : decode bLaw_law 271 = .ok (.aload_n 0, 1) := by decide +kernel
theorem dLaw_law_272 : decode bLaw_law 272 = .ok (.iload 4, 2) := by decide +kernel
theorem dLaw_law_274 : decode bLaw_law 274 = .ok (.iconst 1, 1) := by decide +kernel
theorem dLaw_law_275 : decode bLaw_law 275 = .ok (.iadd, 1) := by decide +kernel
theorem dLaw_law_276 : decode bLaw_law 276 = .ok (.iaload, 1) := by decide +kernel
theorem dLaw_law_277 : decode bLaw_law 277 = .ok (.invokevirtual 83, 3) := by decide +kernel
theorem dLaw_law_280 : decode bLaw_law 280 = .ok (.istore 6, 2) := by decide +kernel
theorem dLaw_law_282 : decode bLaw_law 282 = .ok (.goto 280, 3) := by decide +kernel
theorem dLaw_law_285 : decode bLaw_law 285 = .ok (.aload_n 1, 1) := by decide +kernel
theorem dLaw_law_286 : decode bLaw_law 286 = .ok (.aload_n 0, 1) := by decide +kernel
theorem dLaw_law_287 : decode bLaw_law 287 = .ok (.iload 4, 2) := by decide +kernel
theorem dLaw_law_289 : decode bLaw_law 289 = .ok (.iconst 1, 1) := by decide +kernel
theorem dLaw_law_290 : decode bLaw_law 290 = .ok (.iadd, 1) := by decide +kernel
theorem dLaw_law_291 : decode bLaw_law 291 = .ok (.iaload, 1) := by decide +kernel
theorem dLaw_law_292 : decode bLaw_law 292 = .ok (.aload_n 0, 1) := by decide +kernel
theorem dLaw_law_293 : decode bLaw_law 293 = .ok (.iload 4, 2) := by decide +kernel
theorem dLaw_law_295 : decode bLaw_law 295 = .ok (.iconst 2, 1) := by decide +kernel
theorem dLaw_law_296 : decode bLaw_law 296 = .ok (.iadd, 1) := by decide +kernel
theorem dLaw_law_297 : decode bLaw_law 297 = .ok (.iaload, 1) := by decide +kernel
theorem dLaw_law_298 : decode bLaw_law 298 = .ok (.aload_n 3, 1) := by decide +kernel
theorem dLaw_law_299 : decode bLaw_law 299 = .ok (.invokestatic 84, 3) := by decide +kernel
theorem dLaw_law_302 : decode bLaw_law 302 = .ok (.istore 5, 2) := by decide +kernel
theorem dLaw_law_304 : decode bLaw_law 304 = .ok (.aload_n 2, 1) := by decide +kernel
theorem dLaw_law_305 : decode bLaw_law 305 = .ok (.aload_n 0, 1) := by decide +kernel
theorem dLaw_law_306 : decode bLaw_law 306 = .ok (.iload 4, 2) := by decide +kernel
theorem dLaw_law_308 : decode bLaw_law 308 = .ok (.iconst 1, 1) := by decide +kernel
theorem dLaw_law_309 : decode bLaw_law 309 = .ok (.iadd, 1) := by decide +kernel
theorem dLaw_law_310 : decode bLaw_law 310 = .ok (.iaload, 1) := by decide +kernel
theorem dLaw_law_311 : decode bLaw_law 311 = .ok (.aload_n 0, 1) := by decide +kernel
theorem dLaw_law_312 : decode bLaw_law 312 = .ok (.iload 4, 2) := by decide +kernel
theorem dLaw_law_314 : decode bLaw_law 314 = .ok (.iconst 2, 1) := by decide +kernel
theorem dLaw_law_315 : decode bLaw_law 315 = .ok (.iadd, 1) := by decide +kernel
theorem dLaw_law_316 : decode bLaw_law 316 = .ok (.iaload, 1) := by decide +kernel
theorem dLaw_law_317 : decode bLaw_law 317 = .ok (.invokevirtual 87, 3) := by decide +kernel
theorem dLaw_law_320 : decode bLaw_law 320 = .ok (.istore 6, 2) := by decide +kernel
theorem dLaw_law_322 : decode bLaw_law 322 = .ok (.goto 240, 3) := by decide +kernel
theorem dLaw_law_325 : decode bLaw_law 325 = .ok (.aload_n 1, 1) := by decide +kernel
theorem dLaw_law_326 : decode bLaw_law 326 = .ok (.aload_n 0, 1) := by decide +kernel
theorem dLaw_law_327 : decode bLaw_law 327 = .ok (.iload 4, 2) := by decide +kernel
theorem dLaw_law_329 : decode bLaw_law 329 = .ok (.iconst 1, 1) := by decide +kernel
theorem dLaw_law_330 : decode bLaw_law 330 = .ok (.iadd, 1) := by decide +kernel
theorem dLaw_law_331 : decode bLaw_law 331 = .ok (.iaload, 1) := by decide +kernel
theorem dLaw_law_332 : decode bLaw_law 332 = .ok (.aload_n 0, 1) := by decide +kernel
theorem dLaw_law_333 : decode bLaw_law 333 = .ok (.iload 4, 2) := by decide +kernel
theorem dLaw_law_335 : decode bLaw_law 335 = .ok (.iconst 2, 1) := by decide +kernel
theorem dLaw_law_336 : decode bLaw_law 336 = .ok (.iadd, 1) := by decide +kernel
theorem dLaw_law_337 : decode bLaw_law 337 = .ok (.iaload, 1) := by decide +kernel
theorem dLaw_law_338 : decode bLaw_law 338 = .ok (.aload_n 0, 1) := by decide +kernel
theorem dLaw_law_339 : decode bLaw_law 339 = .ok (.iload 4, 2) := by decide +kernel
theorem dLaw_law_341 : decode bLaw_law 341 = .ok (.iconst 3, 1) := by decide +kernel
theorem dLaw_law_342 : decode bLaw_law 342 = .ok (.iadd, 1) := by decide +kernel
theorem dLaw_law_343 : decode bLaw_law 343 = .ok (.iaload, 1) := by decide +kernel
theorem dLaw_law_344 : decode bLaw_law 344 = .ok (.aload_n 0, 1) := by decide +kernel
theorem dLaw_law_345 : decode bLaw_law 345 = .ok (.iload 4, 2) := by decide +kernel
theorem dLaw_law_347 : decode bLaw_law 347 = .ok (.iconst 4, 1) := by decide +kernel
theorem dLaw_law_348 : decode bLaw_law 348 = .ok (.iadd, 1) := by decide +kernel
theorem dLaw_law_349 : decode bLaw_law 349 = .ok (.iaload, 1) := by decide +kernel
theorem dLaw_law_350 : decode bLaw_law 350 = .ok (.aload_n 3, 1) := by decide +kernel
theorem dLaw_law_351 : decode bLaw_law 351 = .ok (.invokestatic 88, 3) := by decide +kernel
theorem dLaw_law_354 : decode bLaw_law 354 = .ok (.istore 5, 2) := by decide +kernel
theorem dLaw_law_356 : decode bLaw_law 356 = .ok (.aload_n 2, 1) := by decide +kernel
theorem dLaw_law_357 : decode bLaw_law 357 = .ok (.aload_n 0, 1) := by decide +kernel
theorem dLaw_law_358 : decode bLaw_law 358 = .ok (.iload 4, 2) := by decide +kernel
theorem dLaw_law_360 : decode bLaw_law 360 = .ok (.iconst 1, 1) := by decide +kernel
theorem dLaw_law_361 : decode bLaw_law 361 = .ok (.iadd, 1) := by decide +kernel
theorem dLaw_law_362 : decode bLaw_law 362 = .ok (.iaload, 1) := by decide +kernel
theorem dLaw_law_363 : decode bLaw_law 363 = .ok (.aload_n 0, 1) := by decide +kernel
theorem dLaw_law_364 : decode bLaw_law 364 = .ok (.iload 4, 2) := by decide +kernel
theorem dLaw_law_366 : decode bLaw_law 366 = .ok (.iconst 2, 1) := by decide +kernel
theorem dLaw_law_367 : decode bLaw_law 367 = .ok (.iadd, 1) := by decide +kernel
theorem dLaw_law_368 : decode bLaw_law 368 = .ok (.iaload, 1) := by decide +kernel
theorem dLaw_law_369 : decode bLaw_law 369 = .ok (.aload_n 0, 1) := by decide +kernel
theorem dLaw_law_370 : decode bLaw_law 370 = .ok (.iload 4, 2) := by decide +kernel
theorem dLaw_law_372 : decode bLaw_law 372 = .ok (.iconst 3, 1) := by decide +kernel
theorem dLaw_law_373 : decode bLaw_law 373 = .ok (.iadd, 1) := by decide +kernel
theorem dLaw_law_374 : decode bLaw_law 374 = .ok (.iaload, 1) := by decide +kernel
theorem dLaw_law_375 : decode bLaw_law 375 = .ok (.aload_n 0, 1) := by decide +kernel
theorem dLaw_law_376 : decode bLaw_law 376 = .ok (.iload 4, 2) := by decide +kernel
theorem dLaw_law_378 : decode bLaw_law 378 = .ok (.iconst 4, 1) := by decide +kernel
theorem dLaw_law_379 : decode bLaw_law 379 = .ok (.iadd, 1) := by decide +kernel
theorem dLaw_law_380 : decode bLaw_law 380 = .ok (.iaload, 1) := by decide +kernel
theorem dLaw_law_381 : decode bLaw_law 381 = .ok (.invokevirtual 91, 3) := by decide +kernel
theorem dLaw_law_384 : decode bLaw_law 384 = .ok (.istore 6, 2) := by decide +kernel
theorem dLaw_law_386 : decode bLaw_law 386 = .ok (.goto 176, 3) := by decide +kernel
theorem dLaw_law_389 : decode bLaw_law 389 = .ok (.aload_n 1, 1) := by decide +kernel
theorem dLaw_law_390 : decode bLaw_law 390 = .ok (.aload_n 0, 1) := by decide +kernel
theorem dLaw_law_391 : decode bLaw_law 391 = .ok (.iload 4, 2) := by decide +kernel
theorem dLaw_law_393 : decode bLaw_law 393 = .ok (.iconst 1, 1) := by decide +kernel
theorem dLaw_law_394 : decode bLaw_law 394 = .ok (.iadd, 1) := by decide +kernel
theorem dLaw_law_395 : decode bLaw_law 395 = .ok (.iaload, 1) := by decide +kernel
theorem dLaw_law_396 : decode bLaw_law 396 = .ok (.aload_n 0, 1) := by decide +kernel
theorem dLaw_law_397 : decode bLaw_law 397 = .ok (.iload 4, 2) := by decide +kernel
theorem dLaw_law_399 : decode bLaw_law 399 = .ok (.iconst 2, 1) := by decide +kernel
theorem dLaw_law_400 : decode bLaw_law 400 = .ok (.iadd, 1) := by decide +kernel
theorem dLaw_law_401 : decode bLaw_law 401 = .ok (.iaload, 1) := by decide +kernel
theorem dLaw_law_402 : decode bLaw_law 402 = .ok (.aload_n 3, 1) := by decide +kernel
theorem dLaw_law_403 : decode bLaw_law 403 = .ok (.invokestatic 92, 3) := by decide +kernel
theorem dLaw_law_406 : decode bLaw_law 406 = .ok (.istore 5, 2) := by decide +kernel
theorem dLaw_law_408 : decode bLaw_law 408 = .ok (.aload_n 2, 1) := by decide +kernel
theorem dLaw_law_409 : decode bLaw_law 409 = .ok (.aload_n 0, 1) := by decide +kernel
theorem dLaw_law_410 : decode bLaw_law 410 = .ok (.iload 4, 2) := by decide +kernel
theorem dLaw_law_412 : decode bLaw_law 412 = .ok (.iconst 1, 1) := by decide +kernel
theorem dLaw_law_413 : decode bLaw_law 413 = .ok (.iadd, 1) := by decide +kernel
theorem dLaw_law_414 : decode bLaw_law 414 = .ok (.iaload, 1) := by decide +kernel
theorem dLaw_law_415 : decode bLaw_law 415 = .ok (.aload_n 0, 1) := by decide +kernel
theorem dLaw_law_416 : decode bLaw_law 416 = .ok (.iload 4, 2) := by decide +kernel
theorem dLaw_law_418 : decode bLaw_law 418 = .ok (.iconst 2, 1) := by decide +kernel
theorem dLaw_law_419 : decode bLaw_law 419 = .ok (.iadd, 1) := by decide +kernel
theorem dLaw_law_420 : decode bLaw_law 420 = .ok (.iaload, 1) := by decide +kernel
theorem dLaw_law_421 : decode bLaw_law 421 = .ok (.invokevirtual 94, 3) := by decide +kernel
theorem dLaw_law_424 : decode bLaw_law 424 = .ok (.istore 6, 2) := by decide +kernel
theorem dLaw_law_426 : decode bLaw_law 426 = .ok (.goto 136, 3) := by decide +kernel
theorem dLaw_law_429 : decode bLaw_law 429 = .ok (.aload_n 1, 1) := by decide +kernel
theorem dLaw_law_430 : decode bLaw_law 430 = .ok (.invokevirtual 95, 3) := by decide +kernel
theorem dLaw_law_433 : decode bLaw_law 433 = .ok (.pop, 1) := by decide +kernel
theorem dLaw_law_434 : decode bLaw_law 434 = .ok (.aload_n 2, 1) := by decide +kernel
theorem dLaw_law_435 : decode bLaw_law 435 = .ok (.invokevirtual 98, 3) := by decide +kernel
theorem dLaw_law_438 : decode bLaw_law 438 = .ok (.pop, 1) := by decide +kernel
theorem dLaw_law_439 : decode bLaw_law 439 = .ok (.goto 123, 3) := by decide +kernel
theorem dLaw_law_442 : decode bLaw_law 442 = .ok (.aload_n 1, 1) := by decide +kernel
theorem dLaw_law_443 : decode bLaw_law 443 = .ok (.aload_n 0, 1) := by decide +kernel
theorem dLaw_law_444 : decode bLaw_law 444 = .ok (.iload 4, 2) := by decide +kernel
theorem dLaw_law_446 : decode bLaw_law 446 = .ok (.iconst 1, 1) := by decide +kernel
theorem dLaw_law_447 : decode bLaw_law 447 = .ok (.iadd, 1) := by decide +kernel
theorem dLaw_law_448 : decode bLaw_law 448 = .ok (.iaload, 1) := by decide +kernel
theorem dLaw_law_449 : decode bLaw_law 449 = .ok (.aload_n 0, 1) := by decide +kernel
theorem dLaw_law_450 : decode bLaw_law 450 = .ok (.iload 4, 2) := by decide +kernel
theorem dLaw_law_452 : decode bLaw_law 452 = .ok (.iconst 2, 1) := by decide +kernel
theorem dLaw_law_453 : decode bLaw_law 453 = .ok (.iadd, 1) := by decide +kernel
theorem dLaw_law_454 : decode bLaw_law 454 = .ok (.iaload, 1) := by decide +kernel
theorem dLaw_law_455 : decode bLaw_law 455 = .ok (.aload_n 3, 1) := by decide +kernel
theorem dLaw_law_456 : decode bLaw_law 456 = .ok (.invokestatic 99, 3) := by decide +kernel
theorem dLaw_law_459 : decode bLaw_law 459 = .ok (.istore 5, 2) := by decide +kernel
theorem dLaw_law_461 : decode bLaw_law 461 = .ok (.aload_n 2, 1) := by decide +kernel
theorem dLaw_law_462 : decode bLaw_law 462 = .ok (.aload_n 0, 1) := by decide +kernel
theorem dLaw_law_463 : decode bLaw_law 463 = .ok (.iload 4, 2) := by decide +kernel
theorem dLaw_law_465 : decode bLaw_law 465 = .ok (.iconst 1, 1) := by decide +kernel
theorem dLaw_law_466 : decode bLaw_law 466 = .ok (.iadd, 1) := by decide +kernel
theorem dLaw_law_467 : decode bLaw_law 467 = .ok (.iaload, 1) := by decide +kernel
theorem dLaw_law_468 : decode bLaw_law 468 = .ok (.aload_n 0, 1) := by decide +kernel
theorem dLaw_law_469 : decode bLaw_law 469 = .ok (.iload 4, 2) := by decide +kernel
theorem dLaw_law_471 : decode bLaw_law 471 = .ok (.iconst 2, 1) := by decide +kernel
theorem dLaw_law_472 : decode bLaw_law 472 = .ok (.iadd, 1) := by decide +kernel
theorem dLaw_law_473 : decode bLaw_law 473 = .ok (.iaload, 1) := by decide +kernel
theorem dLaw_law_474 : decode bLaw_law 474 = .ok (.invokevirtual 101, 3) := by decide +kernel
theorem dLaw_law_477 : decode bLaw_law 477 = .ok (.istore 6, 2) := by decide +kernel
theorem dLaw_law_479 : decode bLaw_law 479 = .ok (.goto 83, 3) := by decide +kernel
theorem dLaw_law_482 : decode bLaw_law 482 = .ok (.aload_n 1, 1) := by decide +kernel
theorem dLaw_law_483 : decode bLaw_law 483 = .ok (.aload_n 0, 1) := by decide +kernel
theorem dLaw_law_484 : decode bLaw_law 484 = .ok (.iload 4, 2) := by decide +kernel
theorem dLaw_law_486 : decode bLaw_law 486 = .ok (.iconst 1, 1) := by decide +kernel
theorem dLaw_law_487 : decode bLaw_law 487 = .ok (.iadd, 1) := by decide +kernel
theorem dLaw_law_488 : decode bLaw_law 488 = .ok (.iaload, 1) := by decide +kernel
theorem dLaw_law_489 : decode bLaw_law 489 = .ok (.aload_n 0, 1) := by decide +kernel
theorem dLaw_law_490 : decode bLaw_law 490 = .ok (.iload 4, 2) := by decide +kernel
theorem dLaw_law_492 : decode bLaw_law 492 = .ok (.iconst 2, 1) := by decide +kernel
theorem dLaw_law_493 : decode bLaw_law 493 = .ok (.iadd, 1) := by decide +kernel
theorem dLaw_law_494 : decode bLaw_law 494 = .ok (.iaload, 1) := by decide +kernel
theorem dLaw_law_495 : decode bLaw_law 495 = .ok (.aload_n 3, 1) := by decide +kernel
theorem dLaw_law_496 : decode bLaw_law 496 = .ok (.invokestatic 102, 3) := by decide +kernel
theorem dLaw_law_499 : decode bLaw_law 499 = .ok (.istore 5, 2) := by decide +kernel
theorem dLaw_law_501 : decode bLaw_law 501 = .ok (.aload_n 2, 1) := by decide +kernel
theorem dLaw_law_502 : decode bLaw_law 502 = .ok (.aload_n 0, 1) := by decide +kernel
theorem dLaw_law_503 : decode bLaw_law 503 = .ok (.iload 4, 2) := by decide +kernel
theorem dLaw_law_505 : decode bLaw_law 505 = .ok (.iconst 1, 1) := by decide +kernel
theorem dLaw_law_506 : decode bLaw_law 506 = .ok (.iadd, 1) := by decide +kernel
theorem dLaw_law_507 : decode bLaw_law 507 = .ok (.iaload, 1) := by decide +kernel
theorem dLaw_law_508 : decode bLaw_law 508 = .ok (.aload_n 0, 1) := by decide +kernel
theorem dLaw_law_509 : decode bLaw_law 509 = .ok (.iload 4, 2) := by decide +kernel
theorem dLaw_law_511 : decode bLaw_law 511 = .ok (.iconst 2, 1) := by decide +kernel
theorem dLaw_law_512 : decode bLaw_law 512 = .ok (.iadd, 1) := by decide +kernel
theorem dLaw_law_513 : decode bLaw_law 513 = .ok (.iaload, 1) := by decide +kernel
theorem dLaw_law_514 : decode bLaw_law 514 = .ok (.invokevirtual 104, 3) := by decide +kernel
theorem dLaw_law_517 : decode bLaw_law 517 = .ok (.istore 6, 2) := by decide +kernel
theorem dLaw_law_519 : decode bLaw_law 519 = .ok (.goto 43, 3) := by decide +kernel
theorem dLaw_law_522 : decode bLaw_law 522 = .ok (.aload_n 1, 1) := by decide +kernel
theorem dLaw_law_523 : decode bLaw_law 523 = .ok (.aload_n 0, 1) := by decide +kernel
theorem dLaw_law_524 : decode bLaw_law 524 = .ok (.iload 4, 2) := by decide +kernel
theorem dLaw_law_526 : decode bLaw_law 526 = .ok (.iconst 1, 1) := by decide +kernel
theorem dLaw_law_527 : decode bLaw_law 527 = .ok (.iadd, 1) := by decide +kernel
theorem dLaw_law_528 : decode bLaw_law 528 = .ok (.iaload, 1) := by decide +kernel
theorem dLaw_law_529 : decode bLaw_law 529 = .ok (.aload_n 0, 1) := by decide +kernel
theorem dLaw_law_530 : decode bLaw_law 530 = .ok (.iload 4, 2) := by decide +kernel
theorem dLaw_law_532 : decode bLaw_law 532 = .ok (.iconst 2, 1) := by decide +kernel
theorem dLaw_law_533 : decode bLaw_law 533 = .ok (.iadd, 1) := by decide +kernel
theorem dLaw_law_534 : decode bLaw_law 534 = .ok (.iaload, 1) := by decide +kernel
theorem dLaw_law_535 : decode bLaw_law 535 = .ok (.aload_n 3, 1) := by decide +kernel
theorem dLaw_law_536 : decode bLaw_law 536 = .ok (.invokestatic 105, 3) := by decide +kernel
theorem dLaw_law_539 : decode bLaw_law 539 = .ok (.istore 5, 2) := by decide +kernel
theorem dLaw_law_541 : decode bLaw_law 541 = .ok (.aload_n 2, 1) := by decide +kernel
theorem dLaw_law_542 : decode bLaw_law 542 = .ok (.aload_n 0, 1) := by decide +kernel
theorem dLaw_law_543 : decode bLaw_law 543 = .ok (.iload 4, 2) := by decide +kernel
theorem dLaw_law_545 : decode bLaw_law 545 = .ok (.iconst 1, 1) := by decide +kernel
theorem dLaw_law_546 : decode bLaw_law 546 = .ok (.iadd, 1) := by decide +kernel
theorem dLaw_law_547 : decode bLaw_law 547 = .ok (.iaload, 1) := by decide +kernel
theorem dLaw_law_548 : decode bLaw_law 548 = .ok (.aload_n 0, 1) := by decide +kernel
theorem dLaw_law_549 : decode bLaw_law 549 = .ok (.iload 4, 2) := by decide +kernel
theorem dLaw_law_551 : decode bLaw_law 551 = .ok (.iconst 2, 1) := by decide +kernel
theorem dLaw_law_552 : decode bLaw_law 552 = .ok (.iadd, 1) := by decide +kernel
theorem dLaw_law_553 : decode bLaw_law 553 = .ok (.iaload, 1) := by decide +kernel
theorem dLaw_law_554 : decode bLaw_law 554 = .ok (.invokevirtual 107, 3) := by decide +kernel
theorem dLaw_law_557 : decode bLaw_law 557 = .ok (.istore 6, 2) := by decide +kernel
theorem dLaw_law_559 : decode bLaw_law 559 = .ok (.goto 3, 3) := by decide +kernel
theorem dLaw_law_562 : decode bLaw_law 562 = .ok (.iinc 4 5, 3) := by decide +kernel
theorem dLaw_law_565 : decode bLaw_law 565 = .ok (.goto (-542), 3) := by decide +kernel
theorem dLaw_law_568 : decode bLaw_law 568 = .ok (.iconst 1, 1) := by decide +kernel
theorem dLaw_law_569 : decode bLaw_law 569 = .ok (.ireturn, 1) := by decide +kernel
