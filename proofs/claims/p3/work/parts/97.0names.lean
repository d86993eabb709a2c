abbrev bModel_init : ByteArray := prog_13_method_1_code
def yModel_init : MethodName := ⟨R_Model, "<init>", "()V"⟩
abbrev bModel_newType : ByteArray := prog_13_method_3_code
def yModel_newType : MethodName := ⟨R_Model, "newType", "(IIIIZ)I"⟩
abbrev bModel_goodName : ByteArray := prog_13_method_4_code
def yModel_goodName : MethodName := ⟨R_Model, "goodName", "(I)Z"⟩
abbrev bModel_noNode : ByteArray := prog_13_method_5_code
def yModel_noNode : MethodName := ⟨R_Model, "noNode", "(I)Z"⟩
abbrev bModel_noType : ByteArray := prog_13_method_6_code
def yModel_noType : MethodName := ⟨R_Model, "noType", "(I)Z"⟩
abbrev bModel_add : ByteArray := prog_13_method_7_code
def yModel_add : MethodName := ⟨R_Model, "add", "(III)I"⟩
abbrev bModel_clear : ByteArray := prog_13_method_8_code
def yModel_clear : MethodName := ⟨R_Model, "clear", "()I"⟩
abbrev bModel_child : ByteArray := prog_13_method_9_code
def yModel_child : MethodName := ⟨R_Model, "child", "(II)I"⟩
abbrev bModel_enter : ByteArray := prog_13_method_10_code
def yModel_enter : MethodName := ⟨R_Model, "enter", "()I"⟩
abbrev bModel_leave : ByteArray := prog_13_method_11_code
def yModel_leave : MethodName := ⟨R_Model, "leave", "()I"⟩
abbrev bModel_hasHere : ByteArray := prog_13_method_12_code
def yModel_hasHere : MethodName := ⟨R_Model, "hasHere", "(I)Z"⟩
abbrev bModel_find : ByteArray := prog_13_method_13_code
def yModel_find : MethodName := ⟨R_Model, "find", "(I)V"⟩
abbrev bModel_name : ByteArray := prog_13_method_14_code
def yModel_name : MethodName := ⟨R_Model, "name", "(IIII)V"⟩
abbrev bModel_element : ByteArray := prog_13_method_15_code
def yModel_element : MethodName := ⟨R_Model, "element", "(II)I"⟩
abbrev bModel_setElement : ByteArray := prog_13_method_16_code
def yModel_setElement : MethodName := ⟨R_Model, "setElement", "(III)V"⟩
abbrev bModel_fact : ByteArray := prog_13_method_17_code
def yModel_fact : MethodName := ⟨R_Model, "fact", "(IIIZ)V"⟩
abbrev bModel_copy : ByteArray := prog_13_method_18_code
def yModel_copy : MethodName := ⟨R_Model, "copy", "(II)V"⟩
abbrev bModel_isLow : ByteArray := prog_13_method_19_code
def yModel_isLow : MethodName := ⟨R_Model, "isLow", "(I)Z"⟩
abbrev bModel_isHigh : ByteArray := prog_13_method_20_code
def yModel_isHigh : MethodName := ⟨R_Model, "isHigh", "(I)Z"⟩
abbrev bModel_isClear : ByteArray := prog_13_method_21_code
def yModel_isClear : MethodName := ⟨R_Model, "isClear", "(I)Z"⟩
abbrev bModel_numberOf : ByteArray := prog_13_method_22_code
def yModel_numberOf : MethodName := ⟨R_Model, "numberOf", "(I)J"⟩
abbrev bModel_bits : ByteArray := prog_13_method_23_code
def yModel_bits : MethodName := ⟨R_Model, "bits", "(IJ)V"⟩
abbrev bModel_look : ByteArray := prog_13_method_24_code
def yModel_look : MethodName := ⟨R_Model, "look", "(I)I"⟩
abbrev bModel_factOfType : ByteArray := prog_13_method_25_code
def yModel_factOfType : MethodName := ⟨R_Model, "factOfType", "(II)V"⟩
abbrev bModel_lookName : ByteArray := prog_13_method_26_code
def yModel_lookName : MethodName := ⟨R_Model, "lookName", "(I)I"⟩
abbrev bModel_lookRow : ByteArray := prog_13_method_27_code
def yModel_lookRow : MethodName := ⟨R_Model, "lookRow", "(I)I"⟩
abbrev bModel_not : ByteArray := prog_13_method_28_code
def yModel_not : MethodName := ⟨R_Model, "not", "(I)I"⟩
abbrev bModel_join : ByteArray := prog_13_method_29_code
def yModel_join : MethodName := ⟨R_Model, "join", "(III)I"⟩
abbrev bModel_logic : ByteArray := prog_13_method_30_code
def yModel_logic : MethodName := ⟨R_Model, "logic", "(III)I"⟩
abbrev bModel_truth : ByteArray := prog_13_method_31_code
def yModel_truth : MethodName := ⟨R_Model, "truth", "(IZZ)Z"⟩
abbrev bModel_known : ByteArray := prog_13_method_32_code
def yModel_known : MethodName := ⟨R_Model, "known", "(I)I"⟩
abbrev bModel_lookUnary : ByteArray := prog_13_method_33_code
def yModel_lookUnary : MethodName := ⟨R_Model, "lookUnary", "(II)I"⟩
abbrev bModel_lookBinary : ByteArray := prog_13_method_34_code
def yModel_lookBinary : MethodName := ⟨R_Model, "lookBinary", "(III)I"⟩
abbrev bModel_lookLogic : ByteArray := prog_13_method_35_code
def yModel_lookLogic : MethodName := ⟨R_Model, "lookLogic", "(IIII)I"⟩
abbrev bModel_lookOrder : ByteArray := prog_13_method_36_code
def yModel_lookOrder : MethodName := ⟨R_Model, "lookOrder", "(IIII)I"⟩
abbrev bModel_integer : ByteArray := prog_13_method_37_code
def yModel_integer : MethodName := ⟨R_Model, "integer", "(IZJ)I"⟩
abbrev bModel_lookSum : ByteArray := prog_13_method_38_code
def yModel_lookSum : MethodName := ⟨R_Model, "lookSum", "(IZII)I"⟩
abbrev bModel_lookJoined : ByteArray := prog_13_method_39_code
def yModel_lookJoined : MethodName := ⟨R_Model, "lookJoined", "(III)I"⟩
abbrev bModel_lookNumbers : ByteArray := prog_13_method_40_code
def yModel_lookNumbers : MethodName := ⟨R_Model, "lookNumbers", "(IIII)I"⟩
abbrev bModel_lookShift : ByteArray := prog_13_method_41_code
def yModel_lookShift : MethodName := ⟨R_Model, "lookShift", "(IZII)I"⟩
abbrev bModel_within : ByteArray := prog_13_method_42_code
def yModel_within : MethodName := ⟨R_Model, "within", "(IJ)Z"⟩
abbrev bModel_rowObject : ByteArray := prog_13_method_43_code
def yModel_rowObject : MethodName := ⟨R_Model, "rowObject", "(I)I"⟩
abbrev bModel_lookApply : ByteArray := prog_13_method_44_code
def yModel_lookApply : MethodName := ⟨R_Model, "lookApply", "(I)I"⟩
abbrev bModel_lookFunction : ByteArray := prog_13_method_45_code
def yModel_lookFunction : MethodName := ⟨R_Model, "lookFunction", "(II)I"⟩
abbrev bModel_lookSlice : ByteArray := prog_13_method_46_code
def yModel_lookSlice : MethodName := ⟨R_Model, "lookSlice", "(III)I"⟩
abbrev bModel_lookAttribute : ByteArray := prog_13_method_47_code
def yModel_lookAttribute : MethodName := ⟨R_Model, "lookAttribute", "(I)I"⟩
abbrev bModel_below : ByteArray := prog_13_method_48_code
def yModel_below : MethodName := ⟨R_Model, "below", "(II)Z"⟩
abbrev bModel_goThrough : ByteArray := prog_13_method_49_code
def yModel_goThrough : MethodName := ⟨R_Model, "goThrough", "(II)I"⟩
abbrev bModel_keep : ByteArray := prog_13_method_50_code
def yModel_keep : MethodName := ⟨R_Model, "keep", "(II)V"⟩
abbrev bModel_wrong : ByteArray := prog_13_method_51_code
def yModel_wrong : MethodName := ⟨R_Model, "wrong", "(II)I"⟩
abbrev bModel_type : ByteArray := prog_13_method_52_code
def yModel_type : MethodName := ⟨R_Model, "type", "(I)I"⟩
abbrev bModel_constantFault : ByteArray := prog_13_method_53_code
def yModel_constantFault : MethodName := ⟨R_Model, "constantFault", "(I)I"⟩
abbrev bModel_enumeration : ByteArray := prog_13_method_54_code
def yModel_enumeration : MethodName := ⟨R_Model, "enumeration", "(I)I"⟩
abbrev bModel_subtype : ByteArray := prog_13_method_55_code
def yModel_subtype : MethodName := ⟨R_Model, "subtype", "(II)I"⟩
abbrev bModel_fits : ByteArray := prog_13_method_56_code
def yModel_fits : MethodName := ⟨R_Model, "fits", "(II)I"⟩
abbrev bModel_declare : ByteArray := prog_13_method_57_code
def yModel_declare : MethodName := ⟨R_Model, "declare", "(IIII)I"⟩
abbrev bModel_check : ByteArray := prog_13_method_58_code
def yModel_check : MethodName := ⟨R_Model, "check", "(II)I"⟩
abbrev bModel_place : ByteArray := prog_13_method_59_code
def yModel_place : MethodName := ⟨R_Model, "place", "()I"⟩
abbrev bModel_typeOf : ByteArray := prog_13_method_60_code
def yModel_typeOf : MethodName := ⟨R_Model, "typeOf", "(II)I"⟩
abbrev bModel_about : ByteArray := prog_13_method_61_code
def yModel_about : MethodName := ⟨R_Model, "about", "(II)I"⟩
abbrev bModel_value : ByteArray := prog_13_method_62_code
def yModel_value : MethodName := ⟨R_Model, "value", "(II)I"⟩
theorem meModel_init : bs_Mc yModel_init bModel_init 1 0 := ⟨bs_in (in_tables_1_5 (List.mem_of_getElem? (i := 143) rfl)) rfl, bs_in (in_tables_1_1 (List.mem_of_getElem? (i := 14) rfl)) rfl, bs_in (in_tables_1_5 (List.mem_of_getElem? (i := 144) rfl)) rfl, ⟨by decide, by decide, by decide +kernel⟩, rfl⟩
theorem meModel_newType : bs_Mi yModel_newType bModel_newType 6 (some .int) 5 := ⟨bs_in (in_tables_1_5 (List.mem_of_getElem? (i := 149) rfl)) rfl, bs_in (sel_priv (q := ((yModel_newType), 35)) (List.mem_of_getElem? (i := 47) rfl)) rfl, bs_in (in_tables_1_1 (List.mem_of_getElem? (i := 14) rfl)) rfl, bs_in (in_tables_1_5 (List.mem_of_getElem? (i := 150) rfl)) rfl, by decide, by decide, by decide +kernel⟩
theorem meModel_goodName : bs_Ms yModel_goodName bModel_goodName 1 (some .boolean) 1 := ⟨bs_in (in_tables_1_6 (List.mem_of_getElem? (i := 25) rfl)) rfl, bs_in (in_tables_1_1 (List.mem_of_getElem? (i := 14) rfl)) rfl, bs_in (in_tables_1_6 (List.mem_of_getElem? (i := 26) rfl)) rfl, by decide, by decide, by decide +kernel⟩
theorem meModel_noNode : bs_Mi yModel_noNode bModel_noNode 2 (some .boolean) 1 := ⟨bs_in (in_tables_1_6 (List.mem_of_getElem? (i := 45) rfl)) rfl, bs_in (sel_priv (q := ((yModel_noNode), 35)) (List.mem_of_getElem? (i := 48) rfl)) rfl, bs_in (in_tables_1_1 (List.mem_of_getElem? (i := 14) rfl)) rfl, bs_in (in_tables_1_6 (List.mem_of_getElem? (i := 46) rfl)) rfl, by decide, by decide, by decide +kernel⟩
theorem meModel_noType : bs_Mi yModel_noType bModel_noType 2 (some .boolean) 1 := ⟨bs_in (in_tables_1_6 (List.mem_of_getElem? (i := 225) rfl)) rfl, bs_in (sel_priv (q := ((yModel_noType), 35)) (List.mem_of_getElem? (i := 85) rfl)) rfl, bs_in (in_tables_1_1 (List.mem_of_getElem? (i := 14) rfl)) rfl, bs_in (in_tables_1_6 (List.mem_of_getElem? (i := 226) rfl)) rfl, by decide, by decide, by decide +kernel⟩
theorem meModel_add : bs_Mi yModel_add bModel_add 5 (some .int) 3 := ⟨bs_in (in_tables_1_6 (List.mem_of_getElem? (i := 21) rfl)) rfl, bs_in (in_tables_1_6 (List.mem_of_getElem? (i := 22) rfl)) rfl, bs_in (in_tables_1_1 (List.mem_of_getElem? (i := 14) rfl)) rfl, bs_in (in_tables_1_6 (List.mem_of_getElem? (i := 23) rfl)) rfl, by decide, by decide, by decide +kernel⟩
theorem meModel_clear : bs_Mi yModel_clear bModel_clear 2 (some .int) 0 := ⟨bs_in (in_tables_1_6 (List.mem_of_getElem? (i := 28) rfl)) rfl, bs_in (in_tables_1_6 (List.mem_of_getElem? (i := 29) rfl)) rfl, bs_in (in_tables_1_1 (List.mem_of_getElem? (i := 14) rfl)) rfl, bs_in (in_tables_1_6 (List.mem_of_getElem? (i := 30) rfl)) rfl, by decide, by decide, by decide +kernel⟩
theorem meModel_child : bs_Mi yModel_child bModel_child 5 (some .int) 2 := ⟨bs_in (in_tables_1_6 (List.mem_of_getElem? (i := 93) rfl)) rfl, bs_in (sel_priv (q := ((yModel_child), 35)) (List.mem_of_getElem? (i := 60) rfl)) rfl, bs_in (in_tables_1_1 (List.mem_of_getElem? (i := 14) rfl)) rfl, bs_in (in_tables_1_6 (List.mem_of_getElem? (i := 94) rfl)) rfl, by decide, by decide, by decide +kernel⟩
theorem meModel_enter : bs_Mi yModel_enter bModel_enter 1 (some .int) 0 := ⟨bs_in (in_tables_1_6 (List.mem_of_getElem? (i := 32) rfl)) rfl, bs_in (in_tables_1_6 (List.mem_of_getElem? (i := 33) rfl)) rfl, bs_in (in_tables_1_1 (List.mem_of_getElem? (i := 14) rfl)) rfl, bs_in (in_tables_1_6 (List.mem_of_getElem? (i := 34) rfl)) rfl, by decide, by decide, by decide +kernel⟩
theorem meModel_leave : bs_Mi yModel_leave bModel_leave 1 (some .int) 0 := ⟨bs_in (in_tables_1_6 (List.mem_of_getElem? (i := 36) rfl)) rfl, bs_in (in_tables_1_6 (List.mem_of_getElem? (i := 37) rfl)) rfl, bs_in (in_tables_1_1 (List.mem_of_getElem? (i := 14) rfl)) rfl, bs_in (in_tables_1_6 (List.mem_of_getElem? (i := 38) rfl)) rfl, by decide, by decide, by decide +kernel⟩
theorem meModel_hasHere : bs_Mi yModel_hasHere bModel_hasHere 4 (some .boolean) 1 := ⟨bs_in (in_tables_1_6 (List.mem_of_getElem? (i := 213) rfl)) rfl, bs_in (sel_priv (q := ((yModel_hasHere), 35)) (List.mem_of_getElem? (i := 83) rfl)) rfl, bs_in (in_tables_1_1 (List.mem_of_getElem? (i := 14) rfl)) rfl, bs_in (in_tables_1_6 (List.mem_of_getElem? (i := 214) rfl)) rfl, by decide, by decide, by decide +kernel⟩
theorem meModel_find : bs_Mi yModel_find bModel_find 3 none 1 := ⟨bs_in (in_tables_1_6 (List.mem_of_getElem? (i := 65) rfl)) rfl, bs_in (sel_priv (q := ((yModel_find), 35)) (List.mem_of_getElem? (i := 53) rfl)) rfl, bs_in (in_tables_1_1 (List.mem_of_getElem? (i := 14) rfl)) rfl, bs_in (in_tables_1_6 (List.mem_of_getElem? (i := 66) rfl)) rfl, by decide, by decide, by decide +kernel⟩
theorem meModel_name : bs_Mi yModel_name bModel_name 5 none 4 := ⟨bs_in (in_tables_1_6 (List.mem_of_getElem? (i := 217) rfl)) rfl, bs_in (sel_priv (q := ((yModel_name), 35)) (List.mem_of_getElem? (i := 84) rfl)) rfl, bs_in (in_tables_1_1 (List.mem_of_getElem? (i := 14) rfl)) rfl, bs_in (in_tables_1_6 (List.mem_of_getElem? (i := 218) rfl)) rfl, by decide, by decide, by decide +kernel⟩
theorem meModel_element : bs_Mi yModel_element bModel_element 3 (some .int) 2 := ⟨bs_in (in_tables_1_6 (List.mem_of_getElem? (i := 73) rfl)) rfl, bs_in (sel_priv (q := ((yModel_element), 35)) (List.mem_of_getElem? (i := 55) rfl)) rfl, bs_in (in_tables_1_1 (List.mem_of_getElem? (i := 14) rfl)) rfl, bs_in (in_tables_1_6 (List.mem_of_getElem? (i := 74) rfl)) rfl, by decide, by decide, by decide +kernel⟩
theorem meModel_setElement : bs_Mi yModel_setElement bModel_setElement 4 none 3 := ⟨bs_in (in_tables_1_6 (List.mem_of_getElem? (i := 77) rfl)) rfl, bs_in (sel_priv (q := ((yModel_setElement), 35)) (List.mem_of_getElem? (i := 56) rfl)) rfl, bs_in (in_tables_1_1 (List.mem_of_getElem? (i := 14) rfl)) rfl, bs_in (in_tables_1_6 (List.mem_of_getElem? (i := 78) rfl)) rfl, by decide, by decide, by decide +kernel⟩
theorem meModel_fact : bs_Mi yModel_fact bModel_fact 6 none 4 := ⟨bs_in (in_tables_1_6 (List.mem_of_getElem? (i := 85) rfl)) rfl, bs_in (sel_priv (q := ((yModel_fact), 35)) (List.mem_of_getElem? (i := 58) rfl)) rfl, bs_in (in_tables_1_1 (List.mem_of_getElem? (i := 14) rfl)) rfl, bs_in (in_tables_1_6 (List.mem_of_getElem? (i := 86) rfl)) rfl, by decide, by decide, by decide +kernel⟩
theorem meModel_copy : bs_Mi yModel_copy bModel_copy 4 none 2 := ⟨bs_in (in_tables_1_6 (List.mem_of_getElem? (i := 69) rfl)) rfl, bs_in (sel_priv (q := ((yModel_copy), 35)) (List.mem_of_getElem? (i := 54) rfl)) rfl, bs_in (in_tables_1_1 (List.mem_of_getElem? (i := 14) rfl)) rfl, bs_in (in_tables_1_6 (List.mem_of_getElem? (i := 70) rfl)) rfl, by decide, by decide, by decide +kernel⟩
theorem meModel_isLow : bs_Ms yModel_isLow bModel_isLow 1 (some .boolean) 1 := ⟨bs_in (in_tables_1_6 (List.mem_of_getElem? (i := 107) rfl)) rfl, bs_in (in_tables_1_1 (List.mem_of_getElem? (i := 14) rfl)) rfl, bs_in (in_tables_1_6 (List.mem_of_getElem? (i := 108) rfl)) rfl, by decide, by decide, by decide +kernel⟩
theorem meModel_isHigh : bs_Ms yModel_isHigh bModel_isHigh 1 (some .boolean) 1 := ⟨bs_in (in_tables_1_6 (List.mem_of_getElem? (i := 110) rfl)) rfl, bs_in (in_tables_1_1 (List.mem_of_getElem? (i := 14) rfl)) rfl, bs_in (in_tables_1_6 (List.mem_of_getElem? (i := 111) rfl)) rfl, by decide, by decide, by decide +kernel⟩
theorem meModel_isClear : bs_Mi yModel_isClear bModel_isClear 4 (some .boolean) 1 := ⟨bs_in (in_tables_1_6 (List.mem_of_getElem? (i := 135) rfl)) rfl, bs_in (sel_priv (q := ((yModel_isClear), 35)) (List.mem_of_getElem? (i := 66) rfl)) rfl, bs_in (in_tables_1_1 (List.mem_of_getElem? (i := 14) rfl)) rfl, bs_in (in_tables_1_6 (List.mem_of_getElem? (i := 136) rfl)) rfl, by decide, by decide, by decide +kernel⟩
theorem meModel_numberOf : bs_Mi yModel_numberOf bModel_numberOf 5 (some .long) 1 := ⟨bs_in (in_tables_1_6 (List.mem_of_getElem? (i := 149) rfl)) rfl, bs_in (sel_priv (q := ((yModel_numberOf), 35)) (List.mem_of_getElem? (i := 69) rfl)) rfl, bs_in (in_tables_1_1 (List.mem_of_getElem? (i := 14) rfl)) rfl, bs_in (in_tables_1_6 (List.mem_of_getElem? (i := 150) rfl)) rfl, by decide, by decide, by decide +kernel⟩
theorem meModel_bits : bs_Mi yModel_bits bModel_bits 5 none 2 := ⟨bs_in (in_tables_1_6 (List.mem_of_getElem? (i := 154) rfl)) rfl, bs_in (sel_priv (q := ((yModel_bits), 35)) (List.mem_of_getElem? (i := 70) rfl)) rfl, bs_in (in_tables_1_1 (List.mem_of_getElem? (i := 14) rfl)) rfl, bs_in (in_tables_1_6 (List.mem_of_getElem? (i := 155) rfl)) rfl, by decide, by decide, by decide +kernel⟩
theorem meModel_look : bs_Mi yModel_look bModel_look 3 (some .int) 1 := ⟨bs_in (in_tables_1_6 (List.mem_of_getElem? (i := 57) rfl)) rfl, bs_in (sel_priv (q := ((yModel_look), 35)) (List.mem_of_getElem? (i := 51) rfl)) rfl, bs_in (in_tables_1_1 (List.mem_of_getElem? (i := 14) rfl)) rfl, bs_in (in_tables_1_6 (List.mem_of_getElem? (i := 58) rfl)) rfl, by decide, by decide, by decide +kernel⟩
theorem meModel_factOfType : bs_Mi yModel_factOfType bModel_factOfType 3 none 2 := ⟨bs_in (in_tables_1_6 (List.mem_of_getElem? (i := 81) rfl)) rfl, bs_in (sel_priv (q := ((yModel_factOfType), 35)) (List.mem_of_getElem? (i := 57) rfl)) rfl, bs_in (in_tables_1_1 (List.mem_of_getElem? (i := 14) rfl)) rfl, bs_in (in_tables_1_6 (List.mem_of_getElem? (i := 82) rfl)) rfl, by decide, by decide, by decide +kernel⟩
theorem meModel_lookName : bs_Mi yModel_lookName bModel_lookName 3 (some .int) 1 := ⟨bs_in (in_tables_1_6 (List.mem_of_getElem? (i := 61) rfl)) rfl, bs_in (sel_priv (q := ((yModel_lookName), 35)) (List.mem_of_getElem? (i := 52) rfl)) rfl, bs_in (in_tables_1_1 (List.mem_of_getElem? (i := 14) rfl)) rfl, bs_in (in_tables_1_6 (List.mem_of_getElem? (i := 62) rfl)) rfl, by decide, by decide, by decide +kernel⟩
theorem meModel_lookRow : bs_Mi yModel_lookRow bModel_lookRow 5 (some .int) 1 := ⟨bs_in (in_tables_1_6 (List.mem_of_getElem? (i := 89) rfl)) rfl, bs_in (sel_priv (q := ((yModel_lookRow), 35)) (List.mem_of_getElem? (i := 59) rfl)) rfl, bs_in (in_tables_1_1 (List.mem_of_getElem? (i := 14) rfl)) rfl, bs_in (in_tables_1_6 (List.mem_of_getElem? (i := 90) rfl)) rfl, by decide, by decide, by decide +kernel⟩
theorem meModel_not : bs_Ms yModel_not bModel_not 1 (some .int) 1 := ⟨bs_in (in_tables_1_6 (List.mem_of_getElem? (i := 104) rfl)) rfl, bs_in (in_tables_1_1 (List.mem_of_getElem? (i := 14) rfl)) rfl, bs_in (in_tables_1_6 (List.mem_of_getElem? (i := 105) rfl)) rfl, by decide, by decide, by decide +kernel⟩
theorem meModel_join : bs_Ms yModel_join bModel_join 4 (some .int) 3 := ⟨bs_in (in_tables_1_6 (List.mem_of_getElem? (i := 127) rfl)) rfl, bs_in (in_tables_1_1 (List.mem_of_getElem? (i := 14) rfl)) rfl, bs_in (in_tables_1_6 (List.mem_of_getElem? (i := 128) rfl)) rfl, by decide, by decide, by decide +kernel⟩
theorem meModel_logic : bs_Ms yModel_logic bModel_logic 4 (some .int) 3 := ⟨bs_in (in_tables_1_6 (List.mem_of_getElem? (i := 124) rfl)) rfl, bs_in (in_tables_1_1 (List.mem_of_getElem? (i := 14) rfl)) rfl, bs_in (in_tables_1_6 (List.mem_of_getElem? (i := 125) rfl)) rfl, by decide, by decide, by decide +kernel⟩
theorem meModel_truth : bs_Ms yModel_truth bModel_truth 4 (some .boolean) 3 := ⟨bs_in (in_tables_1_6 (List.mem_of_getElem? (i := 121) rfl)) rfl, bs_in (in_tables_1_1 (List.mem_of_getElem? (i := 14) rfl)) rfl, bs_in (in_tables_1_6 (List.mem_of_getElem? (i := 122) rfl)) rfl, by decide, by decide, by decide +kernel⟩
theorem meModel_known : bs_Mi yModel_known bModel_known 3 (some .int) 1 := ⟨bs_in (in_tables_1_6 (List.mem_of_getElem? (i := 101) rfl)) rfl, bs_in (sel_priv (q := ((yModel_known), 35)) (List.mem_of_getElem? (i := 62) rfl)) rfl, bs_in (in_tables_1_1 (List.mem_of_getElem? (i := 14) rfl)) rfl, bs_in (in_tables_1_6 (List.mem_of_getElem? (i := 102) rfl)) rfl, by decide, by decide, by decide +kernel⟩
theorem meModel_lookUnary : bs_Mi yModel_lookUnary bModel_lookUnary 5 (some .int) 2 := ⟨bs_in (in_tables_1_6 (List.mem_of_getElem? (i := 97) rfl)) rfl, bs_in (sel_priv (q := ((yModel_lookUnary), 35)) (List.mem_of_getElem? (i := 61) rfl)) rfl, bs_in (in_tables_1_1 (List.mem_of_getElem? (i := 14) rfl)) rfl, bs_in (in_tables_1_6 (List.mem_of_getElem? (i := 98) rfl)) rfl, by decide, by decide, by decide +kernel⟩
theorem meModel_lookBinary : bs_Mi yModel_lookBinary bModel_lookBinary 5 (some .int) 3 := ⟨bs_in (in_tables_1_6 (List.mem_of_getElem? (i := 114) rfl)) rfl, bs_in (sel_priv (q := ((yModel_lookBinary), 35)) (List.mem_of_getElem? (i := 63) rfl)) rfl, bs_in (in_tables_1_1 (List.mem_of_getElem? (i := 14) rfl)) rfl, bs_in (in_tables_1_6 (List.mem_of_getElem? (i := 115) rfl)) rfl, by decide, by decide, by decide +kernel⟩
theorem meModel_lookLogic : bs_Mi yModel_lookLogic bModel_lookLogic 6 (some .int) 4 := ⟨bs_in (in_tables_1_6 (List.mem_of_getElem? (i := 118) rfl)) rfl, bs_in (sel_priv (q := ((yModel_lookLogic), 35)) (List.mem_of_getElem? (i := 64) rfl)) rfl, bs_in (in_tables_1_1 (List.mem_of_getElem? (i := 14) rfl)) rfl, bs_in (in_tables_1_6 (List.mem_of_getElem? (i := 119) rfl)) rfl, by decide, by decide, by decide +kernel⟩
theorem meModel_lookOrder : bs_Mi yModel_lookOrder bModel_lookOrder 10 (some .int) 4 := ⟨bs_in (in_tables_1_6 (List.mem_of_getElem? (i := 131) rfl)) rfl, bs_in (sel_priv (q := ((yModel_lookOrder), 35)) (List.mem_of_getElem? (i := 65) rfl)) rfl, bs_in (in_tables_1_1 (List.mem_of_getElem? (i := 14) rfl)) rfl, bs_in (in_tables_1_6 (List.mem_of_getElem? (i := 132) rfl)) rfl, by decide, by decide, by decide +kernel⟩
theorem meModel_integer : bs_Mi yModel_integer bModel_integer 5 (some .int) 3 := ⟨bs_in (in_tables_1_6 (List.mem_of_getElem? (i := 143) rfl)) rfl, bs_in (sel_priv (q := ((yModel_integer), 35)) (List.mem_of_getElem? (i := 68) rfl)) rfl, bs_in (in_tables_1_1 (List.mem_of_getElem? (i := 14) rfl)) rfl, bs_in (in_tables_1_6 (List.mem_of_getElem? (i := 144) rfl)) rfl, by decide, by decide, by decide +kernel⟩
theorem meModel_lookSum : bs_Mi yModel_lookSum bModel_lookSum 14 (some .int) 4 := ⟨bs_in (in_tables_1_6 (List.mem_of_getElem? (i := 139) rfl)) rfl, bs_in (sel_priv (q := ((yModel_lookSum), 35)) (List.mem_of_getElem? (i := 67) rfl)) rfl, bs_in (in_tables_1_1 (List.mem_of_getElem? (i := 14) rfl)) rfl, bs_in (in_tables_1_6 (List.mem_of_getElem? (i := 140) rfl)) rfl, by decide, by decide, by decide +kernel⟩
theorem meModel_lookJoined : bs_Mi yModel_lookJoined bModel_lookJoined 7 (some .int) 3 := ⟨bs_in (in_tables_1_6 (List.mem_of_getElem? (i := 158) rfl)) rfl, bs_in (sel_priv (q := ((yModel_lookJoined), 35)) (List.mem_of_getElem? (i := 71) rfl)) rfl, bs_in (in_tables_1_1 (List.mem_of_getElem? (i := 14) rfl)) rfl, bs_in (in_tables_1_6 (List.mem_of_getElem? (i := 159) rfl)) rfl, by decide, by decide, by decide +kernel⟩
theorem meModel_lookNumbers : bs_Mi yModel_lookNumbers bModel_lookNumbers 16 (some .int) 4 := ⟨bs_in (in_tables_1_6 (List.mem_of_getElem? (i := 162) rfl)) rfl, bs_in (sel_priv (q := ((yModel_lookNumbers), 35)) (List.mem_of_getElem? (i := 72) rfl)) rfl, bs_in (in_tables_1_1 (List.mem_of_getElem? (i := 14) rfl)) rfl, bs_in (in_tables_1_6 (List.mem_of_getElem? (i := 163) rfl)) rfl, by decide, by decide, by decide +kernel⟩
theorem meModel_lookShift : bs_Mi yModel_lookShift bModel_lookShift 10 (some .int) 4 := ⟨bs_in (in_tables_1_6 (List.mem_of_getElem? (i := 166) rfl)) rfl, bs_in (sel_priv (q := ((yModel_lookShift), 35)) (List.mem_of_getElem? (i := 73) rfl)) rfl, bs_in (in_tables_1_1 (List.mem_of_getElem? (i := 14) rfl)) rfl, bs_in (in_tables_1_6 (List.mem_of_getElem? (i := 167) rfl)) rfl, by decide, by decide, by decide +kernel⟩
theorem meModel_within : bs_Mi yModel_within bModel_within 4 (some .boolean) 2 := ⟨bs_in (in_tables_1_6 (List.mem_of_getElem? (i := 183) rfl)) rfl, bs_in (sel_priv (q := ((yModel_within), 35)) (List.mem_of_getElem? (i := 77) rfl)) rfl, bs_in (in_tables_1_1 (List.mem_of_getElem? (i := 14) rfl)) rfl, bs_in (in_tables_1_6 (List.mem_of_getElem? (i := 184) rfl)) rfl, by decide, by decide, by decide +kernel⟩
theorem meModel_rowObject : bs_Mi yModel_rowObject bModel_rowObject 2 (some .int) 1 := ⟨bs_in (in_tables_1_6 (List.mem_of_getElem? (i := 179) rfl)) rfl, bs_in (sel_priv (q := ((yModel_rowObject), 35)) (List.mem_of_getElem? (i := 76) rfl)) rfl, bs_in (in_tables_1_1 (List.mem_of_getElem? (i := 14) rfl)) rfl, bs_in (in_tables_1_6 (List.mem_of_getElem? (i := 180) rfl)) rfl, by decide, by decide, by decide +kernel⟩
theorem meModel_lookApply : bs_Mi yModel_lookApply bModel_lookApply 6 (some .int) 1 := ⟨bs_in (in_tables_1_6 (List.mem_of_getElem? (i := 170) rfl)) rfl, bs_in (sel_priv (q := ((yModel_lookApply), 35)) (List.mem_of_getElem? (i := 74) rfl)) rfl, bs_in (in_tables_1_1 (List.mem_of_getElem? (i := 14) rfl)) rfl, bs_in (in_tables_1_6 (List.mem_of_getElem? (i := 171) rfl)) rfl, by decide, by decide, by decide +kernel⟩
theorem meModel_lookFunction : bs_Mi yModel_lookFunction bModel_lookFunction 6 (some .int) 2 := ⟨bs_in (in_tables_1_6 (List.mem_of_getElem? (i := 174) rfl)) rfl, bs_in (sel_priv (q := ((yModel_lookFunction), 35)) (List.mem_of_getElem? (i := 75) rfl)) rfl, bs_in (in_tables_1_1 (List.mem_of_getElem? (i := 14) rfl)) rfl, bs_in (in_tables_1_6 (List.mem_of_getElem? (i := 175) rfl)) rfl, by decide, by decide, by decide +kernel⟩
theorem meModel_lookSlice : bs_Mi yModel_lookSlice bModel_lookSlice 12 (some .int) 3 := ⟨bs_in (in_tables_1_6 (List.mem_of_getElem? (i := 189) rfl)) rfl, bs_in (sel_priv (q := ((yModel_lookSlice), 35)) (List.mem_of_getElem? (i := 78) rfl)) rfl, bs_in (in_tables_1_1 (List.mem_of_getElem? (i := 14) rfl)) rfl, bs_in (in_tables_1_6 (List.mem_of_getElem? (i := 190) rfl)) rfl, by decide, by decide, by decide +kernel⟩
theorem meModel_lookAttribute : bs_Mi yModel_lookAttribute bModel_lookAttribute 5 (some .int) 1 := ⟨bs_in (in_tables_1_6 (List.mem_of_getElem? (i := 193) rfl)) rfl, bs_in (sel_priv (q := ((yModel_lookAttribute), 35)) (List.mem_of_getElem? (i := 79) rfl)) rfl, bs_in (in_tables_1_1 (List.mem_of_getElem? (i := 14) rfl)) rfl, bs_in (in_tables_1_6 (List.mem_of_getElem? (i := 194) rfl)) rfl, by decide, by decide, by decide +kernel⟩
theorem meModel_below : bs_Mi yModel_below bModel_below 5 (some .boolean) 2 := ⟨bs_in (in_tables_1_6 (List.mem_of_getElem? (i := 53) rfl)) rfl, bs_in (sel_priv (q := ((yModel_below), 35)) (List.mem_of_getElem? (i := 50) rfl)) rfl, bs_in (in_tables_1_1 (List.mem_of_getElem? (i := 14) rfl)) rfl, bs_in (in_tables_1_6 (List.mem_of_getElem? (i := 54) rfl)) rfl, by decide, by decide, by decide +kernel⟩
theorem meModel_goThrough : bs_Mi yModel_goThrough bModel_goThrough 5 (some .int) 2 := ⟨bs_in (in_tables_1_6 (List.mem_of_getElem? (i := 49) rfl)) rfl, bs_in (sel_priv (q := ((yModel_goThrough), 35)) (List.mem_of_getElem? (i := 49) rfl)) rfl, bs_in (in_tables_1_1 (List.mem_of_getElem? (i := 14) rfl)) rfl, bs_in (in_tables_1_6 (List.mem_of_getElem? (i := 50) rfl)) rfl, by decide, by decide, by decide +kernel⟩
theorem meModel_keep : bs_Mi yModel_keep bModel_keep 4 none 2 := ⟨bs_in (in_tables_1_6 (List.mem_of_getElem? (i := 205) rfl)) rfl, bs_in (sel_priv (q := ((yModel_keep), 35)) (List.mem_of_getElem? (i := 82) rfl)) rfl, bs_in (in_tables_1_1 (List.mem_of_getElem? (i := 14) rfl)) rfl, bs_in (in_tables_1_6 (List.mem_of_getElem? (i := 206) rfl)) rfl, by decide, by decide, by decide +kernel⟩
theorem meModel_wrong : bs_Mi yModel_wrong bModel_wrong 3 (some .int) 2 := ⟨bs_in (in_tables_1_6 (List.mem_of_getElem? (i := 197) rfl)) rfl, bs_in (sel_priv (q := ((yModel_wrong), 35)) (List.mem_of_getElem? (i := 80) rfl)) rfl, bs_in (in_tables_1_1 (List.mem_of_getElem? (i := 14) rfl)) rfl, bs_in (in_tables_1_6 (List.mem_of_getElem? (i := 198) rfl)) rfl, by decide, by decide, by decide +kernel⟩
theorem meModel_type : bs_Mi yModel_type bModel_type 13 (some .int) 1 := ⟨bs_in (in_tables_1_6 (List.mem_of_getElem? (i := 40) rfl)) rfl, bs_in (in_tables_1_6 (List.mem_of_getElem? (i := 41) rfl)) rfl, bs_in (in_tables_1_1 (List.mem_of_getElem? (i := 14) rfl)) rfl, bs_in (in_tables_1_6 (List.mem_of_getElem? (i := 42) rfl)) rfl, by decide, by decide, by decide +kernel⟩
theorem meModel_constantFault : bs_Mi yModel_constantFault bModel_constantFault 2 (some .int) 1 := ⟨bs_in (in_tables_1_6 (List.mem_of_getElem? (i := 201) rfl)) rfl, bs_in (sel_priv (q := ((yModel_constantFault), 35)) (List.mem_of_getElem? (i := 81) rfl)) rfl, bs_in (in_tables_1_1 (List.mem_of_getElem? (i := 14) rfl)) rfl, bs_in (in_tables_1_6 (List.mem_of_getElem? (i := 202) rfl)) rfl, by decide, by decide, by decide +kernel⟩
theorem meModel_enumeration : bs_Mi yModel_enumeration bModel_enumeration 7 (some .int) 1 := ⟨bs_in (in_tables_1_6 (List.mem_of_getElem? (i := 208) rfl)) rfl, bs_in (in_tables_1_6 (List.mem_of_getElem? (i := 209) rfl)) rfl, bs_in (in_tables_1_1 (List.mem_of_getElem? (i := 14) rfl)) rfl, bs_in (in_tables_1_6 (List.mem_of_getElem? (i := 210) rfl)) rfl, by decide, by decide, by decide +kernel⟩
theorem meModel_subtype : bs_Mi yModel_subtype bModel_subtype 3 (some .int) 2 := ⟨bs_in (in_tables_1_6 (List.mem_of_getElem? (i := 220) rfl)) rfl, bs_in (in_tables_1_6 (List.mem_of_getElem? (i := 221) rfl)) rfl, bs_in (in_tables_1_1 (List.mem_of_getElem? (i := 14) rfl)) rfl, bs_in (in_tables_1_6 (List.mem_of_getElem? (i := 222) rfl)) rfl, by decide, by decide, by decide +kernel⟩
theorem meModel_fits : bs_Mi yModel_fits bModel_fits 3 (some .int) 2 := ⟨bs_in (in_tables_1_6 (List.mem_of_getElem? (i := 233) rfl)) rfl, bs_in (sel_priv (q := ((yModel_fits), 35)) (List.mem_of_getElem? (i := 86) rfl)) rfl, bs_in (in_tables_1_1 (List.mem_of_getElem? (i := 14) rfl)) rfl, bs_in (in_tables_1_6 (List.mem_of_getElem? (i := 234) rfl)) rfl, by decide, by decide, by decide +kernel⟩
theorem meModel_declare : bs_Mi yModel_declare bModel_declare 7 (some .int) 4 := ⟨bs_in (in_tables_1_6 (List.mem_of_getElem? (i := 228) rfl)) rfl, bs_in (in_tables_1_6 (List.mem_of_getElem? (i := 229) rfl)) rfl, bs_in (in_tables_1_1 (List.mem_of_getElem? (i := 14) rfl)) rfl, bs_in (in_tables_1_6 (List.mem_of_getElem? (i := 230) rfl)) rfl, by decide, by decide, by decide +kernel⟩
theorem meModel_check : bs_Mi yModel_check bModel_check 4 (some .int) 2 := ⟨bs_in (in_tables_1_6 (List.mem_of_getElem? (i := 236) rfl)) rfl, bs_in (in_tables_1_6 (List.mem_of_getElem? (i := 237) rfl)) rfl, bs_in (in_tables_1_1 (List.mem_of_getElem? (i := 14) rfl)) rfl, bs_in (in_tables_1_6 (List.mem_of_getElem? (i := 238) rfl)) rfl, by decide, by decide, by decide +kernel⟩
theorem meModel_place : bs_Mi yModel_place bModel_place 1 (some .int) 0 := ⟨bs_in (in_tables_1_7 (List.mem_of_getElem? (i := 0) rfl)) rfl, bs_in (in_tables_1_7 (List.mem_of_getElem? (i := 1) rfl)) rfl, bs_in (in_tables_1_1 (List.mem_of_getElem? (i := 14) rfl)) rfl, bs_in (in_tables_1_7 (List.mem_of_getElem? (i := 2) rfl)) rfl, by decide, by decide, by decide +kernel⟩
theorem meModel_typeOf : bs_Mi yModel_typeOf bModel_typeOf 3 (some .int) 2 := ⟨bs_in (in_tables_1_7 (List.mem_of_getElem? (i := 4) rfl)) rfl, bs_in (in_tables_1_7 (List.mem_of_getElem? (i := 5) rfl)) rfl, bs_in (in_tables_1_1 (List.mem_of_getElem? (i := 14) rfl)) rfl, bs_in (in_tables_1_7 (List.mem_of_getElem? (i := 6) rfl)) rfl, by decide, by decide, by decide +kernel⟩
theorem meModel_about : bs_Mi yModel_about bModel_about 4 (some .int) 2 := ⟨bs_in (in_tables_1_7 (List.mem_of_getElem? (i := 8) rfl)) rfl, bs_in (in_tables_1_7 (List.mem_of_getElem? (i := 9) rfl)) rfl, bs_in (in_tables_1_1 (List.mem_of_getElem? (i := 14) rfl)) rfl, bs_in (in_tables_1_7 (List.mem_of_getElem? (i := 10) rfl)) rfl, by decide, by decide, by decide +kernel⟩
theorem meModel_value : bs_Mi yModel_value bModel_value 5 (some .int) 2 := ⟨bs_in (in_tables_1_7 (List.mem_of_getElem? (i := 12) rfl)) rfl, bs_in (in_tables_1_7 (List.mem_of_getElem? (i := 13) rfl)) rfl, bs_in (in_tables_1_1 (List.mem_of_getElem? (i := 14) rfl)) rfl, bs_in (in_tables_1_7 (List.mem_of_getElem? (i := 14) rfl)) rfl, by decide, by decide, by decide +kernel⟩
