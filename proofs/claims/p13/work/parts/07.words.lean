theorem sel_priv {q : MethodName × Nat} (h : q ∈ lw_privs) : Cond.selects q.1.cls q.1 q.1 ∈ lw_tbl := List.mem_append_left _ (List.mem_map_of_mem h)
theorem meTypeBook_add : bs_Mi yTypeBook_add bTypeBook_add 5 (some .int) 3 := ⟨bs_in (in_tables_1_2 (List.mem_of_getElem? (i := 92) rfl)) rfl, bs_in (in_tables_1_2 (List.mem_of_getElem? (i := 93) rfl)) rfl, bs_in (in_tables_1_1 (List.mem_of_getElem? (i := 1) rfl)) rfl, bs_in (in_tables_1_2 (List.mem_of_getElem? (i := 94) rfl)) rfl, by decide, by decide, by decide +kernel⟩
theorem meTypeBook_clear : bs_Mi yTypeBook_clear bTypeBook_clear 2 (some .int) 0 := ⟨bs_in (in_tables_1_2 (List.mem_of_getElem? (i := 75) rfl)) rfl, bs_in (in_tables_1_2 (List.mem_of_getElem? (i := 76) rfl)) rfl, bs_in (in_tables_1_1 (List.mem_of_getElem? (i := 1) rfl)) rfl, bs_in (in_tables_1_2 (List.mem_of_getElem? (i := 77) rfl)) rfl, by decide, by decide, by decide +kernel⟩
theorem meTypeBook_enter : bs_Mi yTypeBook_enter bTypeBook_enter 1 (some .int) 0 := ⟨bs_in (in_tables_1_2 (List.mem_of_getElem? (i := 234) rfl)) rfl, bs_in (in_tables_1_2 (List.mem_of_getElem? (i := 235) rfl)) rfl, bs_in (in_tables_1_1 (List.mem_of_getElem? (i := 1) rfl)) rfl, bs_in (in_tables_1_2 (List.mem_of_getElem? (i := 236) rfl)) rfl, by decide, by decide, by decide +kernel⟩
theorem meTypeBook_leave : bs_Mi yTypeBook_leave bTypeBook_leave 1 (some .int) 0 := ⟨bs_in (in_tables_1_3 (List.mem_of_getElem? (i := 6) rfl)) rfl, bs_in (in_tables_1_3 (List.mem_of_getElem? (i := 7) rfl)) rfl, bs_in (in_tables_1_1 (List.mem_of_getElem? (i := 1) rfl)) rfl, bs_in (in_tables_1_3 (List.mem_of_getElem? (i := 8) rfl)) rfl, by decide, by decide, by decide +kernel⟩
theorem meTypeBook_type : bs_Mi yTypeBook_type bTypeBook_type 4 (some .int) 1 := ⟨bs_in (in_tables_1_3 (List.mem_of_getElem? (i := 19) rfl)) rfl, bs_in (in_tables_1_3 (List.mem_of_getElem? (i := 20) rfl)) rfl, bs_in (in_tables_1_1 (List.mem_of_getElem? (i := 1) rfl)) rfl, bs_in (in_tables_1_3 (List.mem_of_getElem? (i := 21) rfl)) rfl, by decide, by decide, by decide +kernel⟩
theorem meTypeBook_enumeration : bs_Mi yTypeBook_enumeration bTypeBook_enumeration 7 (some .int) 1 := ⟨bs_in (in_tables_1_5 (List.mem_of_getElem? (i := 14) rfl)) rfl, bs_in (in_tables_1_5 (List.mem_of_getElem? (i := 15) rfl)) rfl, bs_in (in_tables_1_1 (List.mem_of_getElem? (i := 1) rfl)) rfl, bs_in (in_tables_1_5 (List.mem_of_getElem? (i := 16) rfl)) rfl, by decide, by decide, by decide +kernel⟩
theorem meTypeBook_subtype : bs_Mi yTypeBook_subtype bTypeBook_subtype 3 (some .int) 2 := ⟨bs_in (in_tables_1_5 (List.mem_of_getElem? (i := 48) rfl)) rfl, bs_in (in_tables_1_5 (List.mem_of_getElem? (i := 49) rfl)) rfl, bs_in (in_tables_1_1 (List.mem_of_getElem? (i := 1) rfl)) rfl, bs_in (in_tables_1_5 (List.mem_of_getElem? (i := 50) rfl)) rfl, by decide, by decide, by decide +kernel⟩
theorem meTypeBook_declare : bs_Mi yTypeBook_declare bTypeBook_declare 7 (some .int) 4 := ⟨bs_in (in_tables_1_5 (List.mem_of_getElem? (i := 58) rfl)) rfl, bs_in (in_tables_1_5 (List.mem_of_getElem? (i := 59) rfl)) rfl, bs_in (in_tables_1_1 (List.mem_of_getElem? (i := 1) rfl)) rfl, bs_in (in_tables_1_5 (List.mem_of_getElem? (i := 60) rfl)) rfl, by decide, by decide, by decide +kernel⟩
theorem meTypeBook_check : bs_Mi yTypeBook_check bTypeBook_check 4 (some .int) 2 := ⟨bs_in (in_tables_1_5 (List.mem_of_getElem? (i := 100) rfl)) rfl, bs_in (in_tables_1_5 (List.mem_of_getElem? (i := 101) rfl)) rfl, bs_in (in_tables_1_1 (List.mem_of_getElem? (i := 1) rfl)) rfl, bs_in (in_tables_1_5 (List.mem_of_getElem? (i := 102) rfl)) rfl, by decide, by decide, by decide +kernel⟩
theorem meTypeBook_place : bs_Mi yTypeBook_place bTypeBook_place 1 (some .int) 0 := ⟨bs_in (in_tables_1_2 (List.mem_of_getElem? (i := 83) rfl)) rfl, bs_in (in_tables_1_2 (List.mem_of_getElem? (i := 84) rfl)) rfl, bs_in (in_tables_1_1 (List.mem_of_getElem? (i := 1) rfl)) rfl, bs_in (in_tables_1_2 (List.mem_of_getElem? (i := 85) rfl)) rfl, by decide, by decide, by decide +kernel⟩
theorem meTypeBook_typeOf : bs_Mi yTypeBook_typeOf bTypeBook_typeOf 3 (some .int) 2 := ⟨bs_in (in_tables_1_5 (List.mem_of_getElem? (i := 108) rfl)) rfl, bs_in (in_tables_1_5 (List.mem_of_getElem? (i := 109) rfl)) rfl, bs_in (in_tables_1_1 (List.mem_of_getElem? (i := 1) rfl)) rfl, bs_in (in_tables_1_5 (List.mem_of_getElem? (i := 110) rfl)) rfl, by decide, by decide, by decide +kernel⟩
theorem meTypeBook_about : bs_Mi yTypeBook_about bTypeBook_about 3 (some .int) 2 := ⟨bs_in (in_tables_1_5 (List.mem_of_getElem? (i := 121) rfl)) rfl, bs_in (in_tables_1_5 (List.mem_of_getElem? (i := 122) rfl)) rfl, bs_in (in_tables_1_1 (List.mem_of_getElem? (i := 1) rfl)) rfl, bs_in (in_tables_1_5 (List.mem_of_getElem? (i := 123) rfl)) rfl, by decide, by decide, by decide +kernel⟩
theorem meTypeBook_value : bs_Mi yTypeBook_value bTypeBook_value 3 (some .int) 2 := ⟨bs_in (in_tables_1_5 (List.mem_of_getElem? (i := 133) rfl)) rfl, bs_in (in_tables_1_5 (List.mem_of_getElem? (i := 134) rfl)) rfl, bs_in (in_tables_1_1 (List.mem_of_getElem? (i := 1) rfl)) rfl, bs_in (in_tables_1_5 (List.mem_of_getElem? (i := 135) rfl)) rfl, by decide, by decide, by decide +kernel⟩
theorem meTypeBook_refused : bs_Mi yTypeBook_refused bTypeBook_refused 3 (some .int) 2 := ⟨bs_in (in_tables_1_4 (List.mem_of_getElem? (i := 199) rfl)) rfl, bs_in (sel_priv (q := ((yTypeBook_refused), 7)) (List.mem_of_getElem? (i := 40) rfl)) rfl, bs_in (in_tables_1_1 (List.mem_of_getElem? (i := 1) rfl)) rfl, bs_in (in_tables_1_4 (List.mem_of_getElem? (i := 200) rfl)) rfl, by decide, by decide, by decide +kernel⟩
theorem meTypeBook_isName : bs_Ms yTypeBook_isName bTypeBook_isName 1 (some .boolean) 1 := ⟨bs_in (in_tables_1_2 (List.mem_of_getElem? (i := 167) rfl)) rfl, bs_in (in_tables_1_1 (List.mem_of_getElem? (i := 1) rfl)) rfl, bs_in (in_tables_1_2 (List.mem_of_getElem? (i := 168) rfl)) rfl, by decide, by decide, by decide +kernel⟩
theorem meTypeBook_malformedEnumNode : bs_Mi yTypeBook_malformedEnumNode bTypeBook_malformedEnumNode 6 (some .int) 1 := ⟨bs_in (in_tables_1_5 (List.mem_of_getElem? (i := 19) rfl)) rfl, bs_in (sel_priv (q := ((yTypeBook_malformedEnumNode), 7)) (List.mem_of_getElem? (i := 42) rfl)) rfl, bs_in (in_tables_1_1 (List.mem_of_getElem? (i := 1) rfl)) rfl, bs_in (in_tables_1_5 (List.mem_of_getElem? (i := 20) rfl)) rfl, by decide, by decide, by decide +kernel⟩
theorem meTypeBook_takenEnumNode : bs_Mi yTypeBook_takenEnumNode bTypeBook_takenEnumNode 6 (some .int) 1 := ⟨bs_in (in_tables_1_5 (List.mem_of_getElem? (i := 25) rfl)) rfl, bs_in (sel_priv (q := ((yTypeBook_takenEnumNode), 7)) (List.mem_of_getElem? (i := 43) rfl)) rfl, bs_in (in_tables_1_1 (List.mem_of_getElem? (i := 1) rfl)) rfl, bs_in (in_tables_1_5 (List.mem_of_getElem? (i := 26) rfl)) rfl, by decide, by decide, by decide +kernel⟩
theorem meTypeBook_isNameOfOneBefore : bs_Mi yTypeBook_isNameOfOneBefore bTypeBook_isNameOfOneBefore 4 (some .boolean) 2 := ⟨bs_in (in_tables_1_5 (List.mem_of_getElem? (i := 35) rfl)) rfl, bs_in (sel_priv (q := ((yTypeBook_isNameOfOneBefore), 7)) (List.mem_of_getElem? (i := 44) rfl)) rfl, bs_in (in_tables_1_1 (List.mem_of_getElem? (i := 1) rfl)) rfl, bs_in (in_tables_1_5 (List.mem_of_getElem? (i := 36) rfl)) rfl, by decide, by decide, by decide +kernel⟩
theorem meTypeBook_withRoom : bs_Ms yTypeBook_withRoom bTypeBook_withRoom 2 (some (.array .int)) 2 := ⟨bs_in (in_tables_1_1 (List.mem_of_getElem? (i := 78) rfl)) rfl, bs_in (in_tables_1_1 (List.mem_of_getElem? (i := 1) rfl)) rfl, bs_in (in_tables_1_1 (List.mem_of_getElem? (i := 79) rfl)) rfl, by decide, by decide, by decide +kernel⟩
theorem meLogic_isLow : bs_Ms yLogic_isLow bLogic_isLow 1 (some .boolean) 1 := ⟨bs_in (in_tables_1_3 (List.mem_of_getElem? (i := 215) rfl)) rfl, bs_in (in_tables_1_1 (List.mem_of_getElem? (i := 21) rfl)) rfl, bs_in (in_tables_1_3 (List.mem_of_getElem? (i := 216) rfl)) rfl, by decide, by decide, by decide +kernel⟩
theorem meLogic_isHigh : bs_Ms yLogic_isHigh bLogic_isHigh 1 (some .boolean) 1 := ⟨bs_in (in_tables_1_3 (List.mem_of_getElem? (i := 218) rfl)) rfl, bs_in (in_tables_1_1 (List.mem_of_getElem? (i := 21) rfl)) rfl, bs_in (in_tables_1_3 (List.mem_of_getElem? (i := 219) rfl)) rfl, by decide, by decide, by decide +kernel⟩
theorem meLogic_isClear : bs_Ms yLogic_isClear bLogic_isClear 1 (some .boolean) 1 := ⟨bs_in (in_tables_1_4 (List.mem_of_getElem? (i := 43) rfl)) rfl, bs_in (in_tables_1_1 (List.mem_of_getElem? (i := 21) rfl)) rfl, bs_in (in_tables_1_4 (List.mem_of_getElem? (i := 44) rfl)) rfl, by decide, by decide, by decide +kernel⟩
theorem meLogic_not : bs_Ms yLogic_not bLogic_not 1 (some .int) 1 := ⟨bs_in (in_tables_1_3 (List.mem_of_getElem? (i := 212) rfl)) rfl, bs_in (in_tables_1_1 (List.mem_of_getElem? (i := 21) rfl)) rfl, bs_in (in_tables_1_3 (List.mem_of_getElem? (i := 213) rfl)) rfl, by decide, by decide, by decide +kernel⟩
theorem meLogic_and : bs_Ms yLogic_and bLogic_and 2 (some .int) 2 := ⟨bs_in (in_tables_1_4 (List.mem_of_getElem? (i := 33) rfl)) rfl, bs_in (in_tables_1_1 (List.mem_of_getElem? (i := 21) rfl)) rfl, bs_in (in_tables_1_4 (List.mem_of_getElem? (i := 34) rfl)) rfl, by decide, by decide, by decide +kernel⟩
theorem meLogic_or : bs_Ms yLogic_or bLogic_or 2 (some .int) 2 := ⟨bs_in (in_tables_1_4 (List.mem_of_getElem? (i := 36) rfl)) rfl, bs_in (in_tables_1_1 (List.mem_of_getElem? (i := 21) rfl)) rfl, bs_in (in_tables_1_4 (List.mem_of_getElem? (i := 37) rfl)) rfl, by decide, by decide, by decide +kernel⟩
theorem meLogic_other : bs_Ms yLogic_other bLogic_other 2 (some .int) 2 := ⟨bs_in (in_tables_1_4 (List.mem_of_getElem? (i := 40) rfl)) rfl, bs_in (in_tables_1_1 (List.mem_of_getElem? (i := 21) rfl)) rfl, bs_in (in_tables_1_4 (List.mem_of_getElem? (i := 41) rfl)) rfl, by decide, by decide, by decide +kernel⟩
theorem meLogic_ofSigns : bs_Ms yLogic_ofSigns bLogic_ofSigns 3 (some .int) 3 := ⟨bs_in (in_tables_1_4 (List.mem_of_getElem? (i := 30) rfl)) rfl, bs_in (in_tables_1_1 (List.mem_of_getElem? (i := 21) rfl)) rfl, bs_in (in_tables_1_4 (List.mem_of_getElem? (i := 31) rfl)) rfl, by decide, by decide, by decide +kernel⟩
theorem meLogic_ofTruths : bs_Ms yLogic_ofTruths bLogic_ofTruths 3 (some .boolean) 3 := ⟨bs_in (in_tables_1_4 (List.mem_of_getElem? (i := 27) rfl)) rfl, bs_in (in_tables_1_1 (List.mem_of_getElem? (i := 21) rfl)) rfl, bs_in (in_tables_1_4 (List.mem_of_getElem? (i := 28) rfl)) rfl, by decide, by decide, by decide +kernel⟩
theorem meLooker_makeRoom : bs_Mi yLooker_makeRoom bLooker_makeRoom 2 (none) 1 := ⟨bs_in (in_tables_1_2 (List.mem_of_getElem? (i := 225) rfl)) rfl, bs_in (in_tables_1_2 (List.mem_of_getElem? (i := 226) rfl)) rfl, bs_in (in_tables_1_1 (List.mem_of_getElem? (i := 11) rfl)) rfl, bs_in (in_tables_1_2 (List.mem_of_getElem? (i := 227) rfl)) rfl, by decide, by decide, by decide +kernel⟩
theorem meLooker_isHidden : bs_Mi yLooker_isHidden bLooker_isHidden 2 (some .boolean) 1 := ⟨bs_in (in_tables_1_3 (List.mem_of_getElem? (i := 54) rfl)) rfl, bs_in (sel_priv (q := ((yLooker_isHidden), 8)) (List.mem_of_getElem? (i := 3) rfl)) rfl, bs_in (in_tables_1_1 (List.mem_of_getElem? (i := 11) rfl)) rfl, bs_in (in_tables_1_3 (List.mem_of_getElem? (i := 55) rfl)) rfl, by decide, by decide, by decide +kernel⟩
theorem meLooker_look : bs_Mi yLooker_look bLooker_look 5 (some .int) 2 := ⟨bs_in (in_tables_1_3 (List.mem_of_getElem? (i := 40) rfl)) rfl, bs_in (in_tables_1_3 (List.mem_of_getElem? (i := 41) rfl)) rfl, bs_in (in_tables_1_1 (List.mem_of_getElem? (i := 11) rfl)) rfl, bs_in (in_tables_1_3 (List.mem_of_getElem? (i := 42) rfl)) rfl, by decide, by decide, by decide +kernel⟩
theorem meLooker_hideBelowAttributes : bs_Mi yLooker_hideBelowAttributes bLooker_hideBelowAttributes 4 (none) 1 := ⟨bs_in (in_tables_1_3 (List.mem_of_getElem? (i := 45) rfl)) rfl, bs_in (sel_priv (q := ((yLooker_hideBelowAttributes), 8)) (List.mem_of_getElem? (i := 2) rfl)) rfl, bs_in (in_tables_1_1 (List.mem_of_getElem? (i := 11) rfl)) rfl, bs_in (in_tables_1_3 (List.mem_of_getElem? (i := 46) rfl)) rfl, by decide, by decide, by decide +kernel⟩
theorem meLooker_tell : bs_Mi yLooker_tell bLooker_tell 5 (none) 3 := ⟨bs_in (in_tables_1_4 (List.mem_of_getElem? (i := 224) rfl)) rfl, bs_in (in_tables_1_4 (List.mem_of_getElem? (i := 225) rfl)) rfl, bs_in (in_tables_1_1 (List.mem_of_getElem? (i := 11) rfl)) rfl, bs_in (in_tables_1_4 (List.mem_of_getElem? (i := 226) rfl)) rfl, by decide, by decide, by decide +kernel⟩
theorem meLooker_judge : bs_Mi yLooker_judge bLooker_judge 6 (some .int) 4 := ⟨bs_in (in_tables_1_5 (List.mem_of_getElem? (i := 64) rfl)) rfl, bs_in (in_tables_1_5 (List.mem_of_getElem? (i := 65) rfl)) rfl, bs_in (in_tables_1_1 (List.mem_of_getElem? (i := 11) rfl)) rfl, bs_in (in_tables_1_5 (List.mem_of_getElem? (i := 66) rfl)) rfl, by decide, by decide, by decide +kernel⟩
theorem meLooker_earlier : bs_Ms yLooker_earlier bLooker_earlier 2 (some .int) 2 := ⟨bs_in (in_tables_1_5 (List.mem_of_getElem? (i := 75) rfl)) rfl, bs_in (in_tables_1_1 (List.mem_of_getElem? (i := 11) rfl)) rfl, bs_in (in_tables_1_5 (List.mem_of_getElem? (i := 76) rfl)) rfl, by decide, by decide, by decide +kernel⟩
theorem meLooker_classMisfit : bs_Mi yLooker_classMisfit bLooker_classMisfit 5 (some .int) 2 := ⟨bs_in (in_tables_1_5 (List.mem_of_getElem? (i := 69) rfl)) rfl, bs_in (sel_priv (q := ((yLooker_classMisfit), 8)) (List.mem_of_getElem? (i := 45) rfl)) rfl, bs_in (in_tables_1_1 (List.mem_of_getElem? (i := 11) rfl)) rfl, bs_in (in_tables_1_5 (List.mem_of_getElem? (i := 70) rfl)) rfl, by decide, by decide, by decide +kernel⟩
theorem meLooker_isOutside : bs_Mi yLooker_isOutside bLooker_isOutside 4 (some .boolean) 2 := ⟨bs_in (in_tables_1_5 (List.mem_of_getElem? (i := 79) rfl)) rfl, bs_in (sel_priv (q := ((yLooker_isOutside), 8)) (List.mem_of_getElem? (i := 46) rfl)) rfl, bs_in (in_tables_1_1 (List.mem_of_getElem? (i := 11) rfl)) rfl, bs_in (in_tables_1_5 (List.mem_of_getElem? (i := 80) rfl)) rfl, by decide, by decide, by decide +kernel⟩
theorem meLooker_lookAt : bs_Mi yLooker_lookAt bLooker_lookAt 2 (some .int) 1 := ⟨bs_in (in_tables_1_3 (List.mem_of_getElem? (i := 58) rfl)) rfl, bs_in (sel_priv (q := ((yLooker_lookAt), 8)) (List.mem_of_getElem? (i := 4) rfl)) rfl, bs_in (in_tables_1_1 (List.mem_of_getElem? (i := 11) rfl)) rfl, bs_in (in_tables_1_3 (List.mem_of_getElem? (i := 59) rfl)) rfl, by decide, by decide, by decide +kernel⟩
theorem meLooker_isOperator : bs_Mi yLooker_isOperator bLooker_isOperator 5 (some .boolean) 3 := ⟨bs_in (in_tables_1_3 (List.mem_of_getElem? (i := 183) rfl)) rfl, bs_in (sel_priv (q := ((yLooker_isOperator), 8)) (List.mem_of_getElem? (i := 13) rfl)) rfl, bs_in (in_tables_1_1 (List.mem_of_getElem? (i := 11) rfl)) rfl, bs_in (in_tables_1_3 (List.mem_of_getElem? (i := 184) rfl)) rfl, by decide, by decide, by decide +kernel⟩
theorem meLooker_leaf : bs_Mi yLooker_leaf bLooker_leaf 5 (some .int) 3 := ⟨bs_in (in_tables_1_3 (List.mem_of_getElem? (i := 165) rfl)) rfl, bs_in (sel_priv (q := ((yLooker_leaf), 8)) (List.mem_of_getElem? (i := 11) rfl)) rfl, bs_in (in_tables_1_1 (List.mem_of_getElem? (i := 11) rfl)) rfl, bs_in (in_tables_1_3 (List.mem_of_getElem? (i := 166) rfl)) rfl, by decide, by decide, by decide +kernel⟩
theorem meLooker_signs : bs_Mi yLooker_signs bLooker_signs 5 (some .int) 1 := ⟨bs_in (in_tables_1_3 (List.mem_of_getElem? (i := 173) rfl)) rfl, bs_in (sel_priv (q := ((yLooker_signs), 8)) (List.mem_of_getElem? (i := 12) rfl)) rfl, bs_in (in_tables_1_1 (List.mem_of_getElem? (i := 11) rfl)) rfl, bs_in (in_tables_1_3 (List.mem_of_getElem? (i := 174) rfl)) rfl, by decide, by decide, by decide +kernel⟩
theorem meLooker_typeFault : bs_Mi yLooker_typeFault bLooker_typeFault 5 (some .int) 1 := ⟨bs_in (in_tables_1_4 (List.mem_of_getElem? (i := 202) rfl)) rfl, bs_in (in_tables_1_4 (List.mem_of_getElem? (i := 203) rfl)) rfl, bs_in (in_tables_1_1 (List.mem_of_getElem? (i := 11) rfl)) rfl, bs_in (in_tables_1_4 (List.mem_of_getElem? (i := 204) rfl)) rfl, by decide, by decide, by decide +kernel⟩
theorem meLooker_namedTypeFault : bs_Mi yLooker_namedTypeFault bLooker_namedTypeFault 3 (some .int) 1 := ⟨bs_in (in_tables_1_4 (List.mem_of_getElem? (i := 207) rfl)) rfl, bs_in (sel_priv (q := ((yLooker_namedTypeFault), 8)) (List.mem_of_getElem? (i := 41) rfl)) rfl, bs_in (in_tables_1_1 (List.mem_of_getElem? (i := 11) rfl)) rfl, bs_in (in_tables_1_4 (List.mem_of_getElem? (i := 208) rfl)) rfl, by decide, by decide, by decide +kernel⟩
theorem meLooker_boundsFault : bs_Ms yLooker_boundsFault bLooker_boundsFault 5 (some .int) 3 := ⟨bs_in (in_tables_1_4 (List.mem_of_getElem? (i := 215) rfl)) rfl, bs_in (in_tables_1_1 (List.mem_of_getElem? (i := 11) rfl)) rfl, bs_in (in_tables_1_4 (List.mem_of_getElem? (i := 216) rfl)) rfl, by decide, by decide, by decide +kernel⟩
theorem meLooker_elementsOf : bs_Ms yLooker_elementsOf bLooker_elementsOf 5 (some .long) 3 := ⟨bs_in (in_tables_1_4 (List.mem_of_getElem? (i := 218) rfl)) rfl, bs_in (in_tables_1_1 (List.mem_of_getElem? (i := 11) rfl)) rfl, bs_in (in_tables_1_4 (List.mem_of_getElem? (i := 219) rfl)) rfl, by decide, by decide, by decide +kernel⟩
theorem meLooker_namedType : bs_Mi yLooker_namedType bLooker_namedType 2 (some .int) 1 := ⟨bs_in (in_tables_1_5 (List.mem_of_getElem? (i := 6) rfl)) rfl, bs_in (in_tables_1_5 (List.mem_of_getElem? (i := 7) rfl)) rfl, bs_in (in_tables_1_1 (List.mem_of_getElem? (i := 11) rfl)) rfl, bs_in (in_tables_1_5 (List.mem_of_getElem? (i := 8) rfl)) rfl, by decide, by decide, by decide +kernel⟩
theorem meLooker_newType : bs_Mi yLooker_newType bLooker_newType 6 (some .int) 1 := ⟨bs_in (in_tables_1_5 (List.mem_of_getElem? (i := 1) rfl)) rfl, bs_in (in_tables_1_5 (List.mem_of_getElem? (i := 2) rfl)) rfl, bs_in (in_tables_1_1 (List.mem_of_getElem? (i := 11) rfl)) rfl, bs_in (in_tables_1_5 (List.mem_of_getElem? (i := 3) rfl)) rfl, by decide, by decide, by decide +kernel⟩
theorem meLooks_has : bs_Mi yLooks_has bLooks_has 2 (some .boolean) 1 := ⟨bs_in (in_tables_1_2 (List.mem_of_getElem? (i := 222) rfl)) rfl, bs_in (sel_priv (q := ((yLooks_has), 6)) (List.mem_of_getElem? (i := 1) rfl)) rfl, bs_in (in_tables_1_1 (List.mem_of_getElem? (i := 10) rfl)) rfl, bs_in (in_tables_1_2 (List.mem_of_getElem? (i := 223) rfl)) rfl, by decide, by decide, by decide +kernel⟩
theorem meLooks_makeRoom : bs_Mi yLooks_makeRoom bLooks_makeRoom 2 (none) 1 := ⟨bs_in (in_tables_1_2 (List.mem_of_getElem? (i := 200) rfl)) rfl, bs_in (in_tables_1_2 (List.mem_of_getElem? (i := 201) rfl)) rfl, bs_in (in_tables_1_1 (List.mem_of_getElem? (i := 10) rfl)) rfl, bs_in (in_tables_1_2 (List.mem_of_getElem? (i := 202) rfl)) rfl, by decide, by decide, by decide +kernel⟩
theorem meLooks_classOf : bs_Mi yLooks_classOf bLooks_classOf 2 (some .int) 1 := ⟨bs_in (in_tables_1_3 (List.mem_of_getElem? (i := 190) rfl)) rfl, bs_in (in_tables_1_3 (List.mem_of_getElem? (i := 191) rfl)) rfl, bs_in (in_tables_1_1 (List.mem_of_getElem? (i := 10) rfl)) rfl, bs_in (in_tables_1_3 (List.mem_of_getElem? (i := 192) rfl)) rfl, by decide, by decide, by decide +kernel⟩
theorem meLooks_extentOf : bs_Mi yLooks_extentOf bLooks_extentOf 2 (some .int) 1 := ⟨bs_in (in_tables_1_3 (List.mem_of_getElem? (i := 194) rfl)) rfl, bs_in (in_tables_1_3 (List.mem_of_getElem? (i := 195) rfl)) rfl, bs_in (in_tables_1_1 (List.mem_of_getElem? (i := 10) rfl)) rfl, bs_in (in_tables_1_3 (List.mem_of_getElem? (i := 196) rfl)) rfl, by decide, by decide, by decide +kernel⟩
theorem meLooks_meaningOf : bs_Mi yLooks_meaningOf bLooks_meaningOf 2 (some .int) 1 := ⟨bs_in (in_tables_1_4 (List.mem_of_getElem? (i := 135) rfl)) rfl, bs_in (in_tables_1_4 (List.mem_of_getElem? (i := 136) rfl)) rfl, bs_in (in_tables_1_1 (List.mem_of_getElem? (i := 10) rfl)) rfl, bs_in (in_tables_1_4 (List.mem_of_getElem? (i := 137) rfl)) rfl, by decide, by decide, by decide +kernel⟩
theorem meLooks_numberOf : bs_Mi yLooks_numberOf bLooks_numberOf 2 (some .int) 1 := ⟨bs_in (in_tables_1_3 (List.mem_of_getElem? (i := 207) rfl)) rfl, bs_in (in_tables_1_3 (List.mem_of_getElem? (i := 208) rfl)) rfl, bs_in (in_tables_1_1 (List.mem_of_getElem? (i := 10) rfl)) rfl, bs_in (in_tables_1_3 (List.mem_of_getElem? (i := 209) rfl)) rfl, by decide, by decide, by decide +kernel⟩
theorem meLooks_isFixed : bs_Mi yLooks_isFixed bLooks_isFixed 2 (some .boolean) 1 := ⟨bs_in (in_tables_1_3 (List.mem_of_getElem? (i := 198) rfl)) rfl, bs_in (in_tables_1_3 (List.mem_of_getElem? (i := 199) rfl)) rfl, bs_in (in_tables_1_1 (List.mem_of_getElem? (i := 10) rfl)) rfl, bs_in (in_tables_1_3 (List.mem_of_getElem? (i := 200) rfl)) rfl, by decide, by decide, by decide +kernel⟩
theorem meLooks_forget : bs_Mi yLooks_forget bLooks_forget 2 (none) 1 := ⟨bs_in (in_tables_1_2 (List.mem_of_getElem? (i := 217) rfl)) rfl, bs_in (in_tables_1_2 (List.mem_of_getElem? (i := 218) rfl)) rfl, bs_in (in_tables_1_1 (List.mem_of_getElem? (i := 10) rfl)) rfl, bs_in (in_tables_1_2 (List.mem_of_getElem? (i := 219) rfl)) rfl, by decide, by decide, by decide +kernel⟩
theorem meLooks_note : bs_Mi yLooks_note bLooks_note 5 (none) 4 := ⟨bs_in (in_tables_1_3 (List.mem_of_getElem? (i := 130) rfl)) rfl, bs_in (in_tables_1_3 (List.mem_of_getElem? (i := 131) rfl)) rfl, bs_in (in_tables_1_1 (List.mem_of_getElem? (i := 10) rfl)) rfl, bs_in (in_tables_1_3 (List.mem_of_getElem? (i := 132) rfl)) rfl, by decide, by decide, by decide +kernel⟩
theorem meLooks_setMeaning : bs_Mi yLooks_setMeaning bLooks_setMeaning 3 (none) 2 := ⟨bs_in (in_tables_1_3 (List.mem_of_getElem? (i := 134) rfl)) rfl, bs_in (in_tables_1_3 (List.mem_of_getElem? (i := 135) rfl)) rfl, bs_in (in_tables_1_1 (List.mem_of_getElem? (i := 10) rfl)) rfl, bs_in (in_tables_1_3 (List.mem_of_getElem? (i := 136) rfl)) rfl, by decide, by decide, by decide +kernel⟩
theorem meLooks_setNumber : bs_Mi yLooks_setNumber bLooks_setNumber 3 (none) 2 := ⟨bs_in (in_tables_1_3 (List.mem_of_getElem? (i := 142) rfl)) rfl, bs_in (in_tables_1_3 (List.mem_of_getElem? (i := 143) rfl)) rfl, bs_in (in_tables_1_1 (List.mem_of_getElem? (i := 10) rfl)) rfl, bs_in (in_tables_1_3 (List.mem_of_getElem? (i := 144) rfl)) rfl, by decide, by decide, by decide +kernel⟩
theorem meLooks_copy : bs_Mi yLooks_copy bLooks_copy 3 (none) 2 := ⟨bs_in (in_tables_1_4 (List.mem_of_getElem? (i := 228) rfl)) rfl, bs_in (in_tables_1_4 (List.mem_of_getElem? (i := 229) rfl)) rfl, bs_in (in_tables_1_1 (List.mem_of_getElem? (i := 10) rfl)) rfl, bs_in (in_tables_1_4 (List.mem_of_getElem? (i := 230) rfl)) rfl, by decide, by decide, by decide +kernel⟩
theorem meMeanings_name : bs_Mi yMeanings_name bMeanings_name 4 (some .int) 1 := ⟨bs_in (in_tables_1_3 (List.mem_of_getElem? (i := 62) rfl)) rfl, bs_in (in_tables_1_3 (List.mem_of_getElem? (i := 63) rfl)) rfl, bs_in (in_tables_1_1 (List.mem_of_getElem? (i := 13) rfl)) rfl, bs_in (in_tables_1_3 (List.mem_of_getElem? (i := 64) rfl)) rfl, by decide, by decide, by decide +kernel⟩
theorem meMeanings_noteObject : bs_Mi yMeanings_noteObject bMeanings_noteObject 4 (none) 2 := ⟨bs_in (in_tables_1_3 (List.mem_of_getElem? (i := 91) rfl)) rfl, bs_in (sel_priv (q := ((yMeanings_noteObject), 5)) (List.mem_of_getElem? (i := 6) rfl)) rfl, bs_in (in_tables_1_1 (List.mem_of_getElem? (i := 13) rfl)) rfl, bs_in (in_tables_1_3 (List.mem_of_getElem? (i := 92) rfl)) rfl, by decide, by decide, by decide +kernel⟩
theorem meMeanings_noteValue : bs_Mi yMeanings_noteValue bMeanings_noteValue 5 (none) 4 := ⟨bs_in (in_tables_1_3 (List.mem_of_getElem? (i := 160) rfl)) rfl, bs_in (sel_priv (q := ((yMeanings_noteValue), 5)) (List.mem_of_getElem? (i := 10) rfl)) rfl, bs_in (in_tables_1_1 (List.mem_of_getElem? (i := 13) rfl)) rfl, bs_in (in_tables_1_3 (List.mem_of_getElem? (i := 161) rfl)) rfl, by decide, by decide, by decide +kernel⟩
theorem meMeanings_isConstant : bs_Mi yMeanings_isConstant bMeanings_isConstant 2 (some .boolean) 1 := ⟨bs_in (in_tables_1_3 (List.mem_of_getElem? (i := 123) rfl)) rfl, bs_in (sel_priv (q := ((yMeanings_isConstant), 5)) (List.mem_of_getElem? (i := 8) rfl)) rfl, bs_in (in_tables_1_1 (List.mem_of_getElem? (i := 13) rfl)) rfl, bs_in (in_tables_1_3 (List.mem_of_getElem? (i := 124) rfl)) rfl, by decide, by decide, by decide +kernel⟩
theorem meMeanings_isRow : bs_Mi yMeanings_isRow bMeanings_isRow 2 (some .boolean) 1 := ⟨bs_in (in_tables_1_4 (List.mem_of_getElem? (i := 144) rfl)) rfl, bs_in (sel_priv (q := ((yMeanings_isRow), 5)) (List.mem_of_getElem? (i := 34) rfl)) rfl, bs_in (in_tables_1_1 (List.mem_of_getElem? (i := 13) rfl)) rfl, bs_in (in_tables_1_4 (List.mem_of_getElem? (i := 145) rfl)) rfl, by decide, by decide, by decide +kernel⟩
theorem meMeanings_objectAt : bs_Mi yMeanings_objectAt bMeanings_objectAt 3 (some .int) 1 := ⟨bs_in (in_tables_1_4 (List.mem_of_getElem? (i := 140) rfl)) rfl, bs_in (sel_priv (q := ((yMeanings_objectAt), 5)) (List.mem_of_getElem? (i := 33) rfl)) rfl, bs_in (in_tables_1_1 (List.mem_of_getElem? (i := 13) rfl)) rfl, bs_in (in_tables_1_4 (List.mem_of_getElem? (i := 141) rfl)) rfl, by decide, by decide, by decide +kernel⟩
theorem meMeanings_isUnknown : bs_Mi yMeanings_isUnknown bMeanings_isUnknown 2 (some .boolean) 1 := ⟨bs_in (in_tables_1_4 (List.mem_of_getElem? (i := 169) rfl)) rfl, bs_in (sel_priv (q := ((yMeanings_isUnknown), 5)) (List.mem_of_getElem? (i := 36) rfl)) rfl, bs_in (in_tables_1_1 (List.mem_of_getElem? (i := 13) rfl)) rfl, bs_in (in_tables_1_4 (List.mem_of_getElem? (i := 170) rfl)) rfl, by decide, by decide, by decide +kernel⟩
theorem meMeanings_apply : bs_Mi yMeanings_apply bMeanings_apply 4 (some .int) 1 := ⟨bs_in (in_tables_1_4 (List.mem_of_getElem? (i := 105) rfl)) rfl, bs_in (in_tables_1_4 (List.mem_of_getElem? (i := 106) rfl)) rfl, bs_in (in_tables_1_1 (List.mem_of_getElem? (i := 13) rfl)) rfl, bs_in (in_tables_1_4 (List.mem_of_getElem? (i := 107) rfl)) rfl, by decide, by decide, by decide +kernel⟩
theorem meMeanings_element : bs_Mi yMeanings_element bMeanings_element 5 (some .int) 3 := ⟨bs_in (in_tables_1_4 (List.mem_of_getElem? (i := 148) rfl)) rfl, bs_in (sel_priv (q := ((yMeanings_element), 5)) (List.mem_of_getElem? (i := 35) rfl)) rfl, bs_in (in_tables_1_1 (List.mem_of_getElem? (i := 13) rfl)) rfl, bs_in (in_tables_1_4 (List.mem_of_getElem? (i := 149) rfl)) rfl, by decide, by decide, by decide +kernel⟩
theorem meMeanings_applyFunction : bs_Mi yMeanings_applyFunction bMeanings_applyFunction 3 (some .int) 2 := ⟨bs_in (in_tables_1_4 (List.mem_of_getElem? (i := 110) rfl)) rfl, bs_in (sel_priv (q := ((yMeanings_applyFunction), 5)) (List.mem_of_getElem? (i := 29) rfl)) rfl, bs_in (in_tables_1_1 (List.mem_of_getElem? (i := 13) rfl)) rfl, bs_in (in_tables_1_4 (List.mem_of_getElem? (i := 111) rfl)) rfl, by decide, by decide, by decide +kernel⟩
theorem meMeanings_edge : bs_Mi yMeanings_edge bMeanings_edge 3 (some .int) 2 := ⟨bs_in (in_tables_1_4 (List.mem_of_getElem? (i := 131) rfl)) rfl, bs_in (sel_priv (q := ((yMeanings_edge), 5)) (List.mem_of_getElem? (i := 32) rfl)) rfl, bs_in (in_tables_1_1 (List.mem_of_getElem? (i := 13) rfl)) rfl, bs_in (in_tables_1_4 (List.mem_of_getElem? (i := 132) rfl)) rfl, by decide, by decide, by decide +kernel⟩
theorem meMeanings_numberOfRow : bs_Mi yMeanings_numberOfRow bMeanings_numberOfRow 6 (some .int) 2 := ⟨bs_in (in_tables_1_4 (List.mem_of_getElem? (i := 114) rfl)) rfl, bs_in (sel_priv (q := ((yMeanings_numberOfRow), 5)) (List.mem_of_getElem? (i := 30) rfl)) rfl, bs_in (in_tables_1_1 (List.mem_of_getElem? (i := 13) rfl)) rfl, bs_in (in_tables_1_4 (List.mem_of_getElem? (i := 115) rfl)) rfl, by decide, by decide, by decide +kernel⟩
theorem meMeanings_bits : bs_Mi yMeanings_bits bMeanings_bits 6 (some .int) 3 := ⟨bs_in (in_tables_1_4 (List.mem_of_getElem? (i := 125) rfl)) rfl, bs_in (sel_priv (q := ((yMeanings_bits), 5)) (List.mem_of_getElem? (i := 31) rfl)) rfl, bs_in (in_tables_1_1 (List.mem_of_getElem? (i := 13) rfl)) rfl, bs_in (in_tables_1_4 (List.mem_of_getElem? (i := 126) rfl)) rfl, by decide, by decide, by decide +kernel⟩
theorem meMeanings_slice : bs_Mi yMeanings_slice bMeanings_slice 5 (some .int) 1 := ⟨bs_in (in_tables_1_4 (List.mem_of_getElem? (i := 164) rfl)) rfl, bs_in (in_tables_1_4 (List.mem_of_getElem? (i := 165) rfl)) rfl, bs_in (in_tables_1_1 (List.mem_of_getElem? (i := 13) rfl)) rfl, bs_in (in_tables_1_4 (List.mem_of_getElem? (i := 166) rfl)) rfl, by decide, by decide, by decide +kernel⟩
theorem meMeanings_cut : bs_Mi yMeanings_cut bMeanings_cut 11 (some .int) 4 := ⟨bs_in (in_tables_1_4 (List.mem_of_getElem? (i := 173) rfl)) rfl, bs_in (sel_priv (q := ((yMeanings_cut), 5)) (List.mem_of_getElem? (i := 37) rfl)) rfl, bs_in (in_tables_1_1 (List.mem_of_getElem? (i := 13) rfl)) rfl, bs_in (in_tables_1_4 (List.mem_of_getElem? (i := 174) rfl)) rfl, by decide, by decide, by decide +kernel⟩
theorem meMeanings_attribute : bs_Mi yMeanings_attribute bMeanings_attribute 5 (some .int) 1 := ⟨bs_in (in_tables_1_4 (List.mem_of_getElem? (i := 178) rfl)) rfl, bs_in (in_tables_1_4 (List.mem_of_getElem? (i := 179) rfl)) rfl, bs_in (in_tables_1_1 (List.mem_of_getElem? (i := 13) rfl)) rfl, bs_in (in_tables_1_4 (List.mem_of_getElem? (i := 180) rfl)) rfl, by decide, by decide, by decide +kernel⟩
theorem meMeanings_noteAttribute : bs_Mi yMeanings_noteAttribute bMeanings_noteAttribute 4 (none) 3 := ⟨bs_in (in_tables_1_4 (List.mem_of_getElem? (i := 183) rfl)) rfl, bs_in (sel_priv (q := ((yMeanings_noteAttribute), 5)) (List.mem_of_getElem? (i := 38) rfl)) rfl, bs_in (in_tables_1_1 (List.mem_of_getElem? (i := 13) rfl)) rfl, bs_in (in_tables_1_4 (List.mem_of_getElem? (i := 184) rfl)) rfl, by decide, by decide, by decide +kernel⟩
theorem meMeanings_boundOf : bs_Mi yMeanings_boundOf bMeanings_boundOf 5 (some .int) 2 := ⟨bs_in (in_tables_1_4 (List.mem_of_getElem? (i := 187) rfl)) rfl, bs_in (sel_priv (q := ((yMeanings_boundOf), 5)) (List.mem_of_getElem? (i := 39) rfl)) rfl, bs_in (in_tables_1_1 (List.mem_of_getElem? (i := 13) rfl)) rfl, bs_in (in_tables_1_4 (List.mem_of_getElem? (i := 188) rfl)) rfl, by decide, by decide, by decide +kernel⟩
theorem meNames_has : bs_Mi yNames_has bNames_has 2 (some .boolean) 1 := ⟨bs_in (in_tables_1_3 (List.mem_of_getElem? (i := 79) rfl)) rfl, bs_in (sel_priv (q := ((yNames_has), 9)) (List.mem_of_getElem? (i := 5) rfl)) rfl, bs_in (in_tables_1_1 (List.mem_of_getElem? (i := 3) rfl)) rfl, bs_in (in_tables_1_3 (List.mem_of_getElem? (i := 80) rfl)) rfl, by decide, by decide, by decide +kernel⟩
theorem meNames_sortOf : bs_Mi yNames_sortOf bNames_sortOf 2 (some .int) 1 := ⟨bs_in (in_tables_1_3 (List.mem_of_getElem? (i := 86) rfl)) rfl, bs_in (in_tables_1_3 (List.mem_of_getElem? (i := 87) rfl)) rfl, bs_in (in_tables_1_1 (List.mem_of_getElem? (i := 3) rfl)) rfl, bs_in (in_tables_1_3 (List.mem_of_getElem? (i := 88) rfl)) rfl, by decide, by decide, by decide +kernel⟩
theorem meNames_numberOf : bs_Mi yNames_numberOf bNames_numberOf 2 (some .int) 1 := ⟨bs_in (in_tables_1_3 (List.mem_of_getElem? (i := 82) rfl)) rfl, bs_in (in_tables_1_3 (List.mem_of_getElem? (i := 83) rfl)) rfl, bs_in (in_tables_1_1 (List.mem_of_getElem? (i := 3) rfl)) rfl, bs_in (in_tables_1_3 (List.mem_of_getElem? (i := 84) rfl)) rfl, by decide, by decide, by decide +kernel⟩
theorem meNames_partOf : bs_Mi yNames_partOf bNames_partOf 2 (some .int) 1 := ⟨bs_in (in_tables_1_3 (List.mem_of_getElem? (i := 155) rfl)) rfl, bs_in (in_tables_1_3 (List.mem_of_getElem? (i := 156) rfl)) rfl, bs_in (in_tables_1_1 (List.mem_of_getElem? (i := 3) rfl)) rfl, bs_in (in_tables_1_3 (List.mem_of_getElem? (i := 157) rfl)) rfl, by decide, by decide, by decide +kernel⟩
theorem meNames_find : bs_Mi yNames_find bNames_find 4 (some .int) 1 := ⟨bs_in (in_tables_1_3 (List.mem_of_getElem? (i := 74) rfl)) rfl, bs_in (in_tables_1_3 (List.mem_of_getElem? (i := 75) rfl)) rfl, bs_in (in_tables_1_1 (List.mem_of_getElem? (i := 3) rfl)) rfl, bs_in (in_tables_1_3 (List.mem_of_getElem? (i := 76) rfl)) rfl, by decide, by decide, by decide +kernel⟩
theorem meNames_isTaken : bs_Mi yNames_isTaken bNames_isTaken 2 (some .boolean) 1 := ⟨bs_in (in_tables_1_5 (List.mem_of_getElem? (i := 29) rfl)) rfl, bs_in (in_tables_1_5 (List.mem_of_getElem? (i := 30) rfl)) rfl, bs_in (in_tables_1_1 (List.mem_of_getElem? (i := 3) rfl)) rfl, bs_in (in_tables_1_5 (List.mem_of_getElem? (i := 31) rfl)) rfl, by decide, by decide, by decide +kernel⟩
theorem meNames_haveRoom : bs_Mi yNames_haveRoom bNames_haveRoom 2 (some .boolean) 1 := ⟨bs_in (in_tables_1_5 (List.mem_of_getElem? (i := 38) rfl)) rfl, bs_in (in_tables_1_5 (List.mem_of_getElem? (i := 39) rfl)) rfl, bs_in (in_tables_1_1 (List.mem_of_getElem? (i := 3) rfl)) rfl, bs_in (in_tables_1_5 (List.mem_of_getElem? (i := 40) rfl)) rfl, by decide, by decide, by decide +kernel⟩
theorem meNames_put : bs_Mi yNames_put bNames_put 6 (none) 4 := ⟨bs_in (in_tables_1_1 (List.mem_of_getElem? (i := 74) rfl)) rfl, bs_in (in_tables_1_1 (List.mem_of_getElem? (i := 75) rfl)) rfl, bs_in (in_tables_1_1 (List.mem_of_getElem? (i := 3) rfl)) rfl, bs_in (in_tables_1_1 (List.mem_of_getElem? (i := 76) rfl)) rfl, by decide, by decide, by decide +kernel⟩
theorem meNames_open : bs_Mi yNames_open bNames_open 1 (none) 0 := ⟨bs_in (in_tables_1_2 (List.mem_of_getElem? (i := 239) rfl)) rfl, bs_in (in_tables_1_3 (List.mem_of_getElem? (i := 0) rfl)) rfl, bs_in (in_tables_1_1 (List.mem_of_getElem? (i := 3) rfl)) rfl, bs_in (in_tables_1_3 (List.mem_of_getElem? (i := 1) rfl)) rfl, by decide, by decide, by decide +kernel⟩
theorem meNames_close : bs_Mi yNames_close bNames_close 3 (none) 0 := ⟨bs_in (in_tables_1_3 (List.mem_of_getElem? (i := 11) rfl)) rfl, bs_in (in_tables_1_3 (List.mem_of_getElem? (i := 12) rfl)) rfl, bs_in (in_tables_1_1 (List.mem_of_getElem? (i := 3) rfl)) rfl, bs_in (in_tables_1_3 (List.mem_of_getElem? (i := 13) rfl)) rfl, by decide, by decide, by decide +kernel⟩
theorem meObjects_has : bs_Mi yObjects_has bObjects_has 2 (some .boolean) 1 := ⟨bs_in (in_tables_1_3 (List.mem_of_getElem? (i := 99) rfl)) rfl, bs_in (sel_priv (q := ((yObjects_has), 5)) (List.mem_of_getElem? (i := 7) rfl)) rfl, bs_in (in_tables_1_1 (List.mem_of_getElem? (i := 8) rfl)) rfl, bs_in (in_tables_1_3 (List.mem_of_getElem? (i := 100) rfl)) rfl, by decide, by decide, by decide +kernel⟩
theorem meObjects_whatOf : bs_Mi yObjects_whatOf bObjects_whatOf 2 (some .int) 1 := ⟨bs_in (in_tables_1_3 (List.mem_of_getElem? (i := 126) rfl)) rfl, bs_in (in_tables_1_3 (List.mem_of_getElem? (i := 127) rfl)) rfl, bs_in (in_tables_1_1 (List.mem_of_getElem? (i := 8) rfl)) rfl, bs_in (in_tables_1_3 (List.mem_of_getElem? (i := 128) rfl)) rfl, by decide, by decide, by decide +kernel⟩
theorem meObjects_typeOfObject : bs_Mi yObjects_typeOfObject bObjects_typeOfObject 2 (some .int) 1 := ⟨bs_in (in_tables_1_3 (List.mem_of_getElem? (i := 94) rfl)) rfl, bs_in (in_tables_1_3 (List.mem_of_getElem? (i := 95) rfl)) rfl, bs_in (in_tables_1_1 (List.mem_of_getElem? (i := 8) rfl)) rfl, bs_in (in_tables_1_3 (List.mem_of_getElem? (i := 96) rfl)) rfl, by decide, by decide, by decide +kernel⟩
theorem meObjects_numberOf : bs_Mi yObjects_numberOf bObjects_numberOf 2 (some .int) 1 := ⟨bs_in (in_tables_1_3 (List.mem_of_getElem? (i := 138) rfl)) rfl, bs_in (in_tables_1_3 (List.mem_of_getElem? (i := 139) rfl)) rfl, bs_in (in_tables_1_1 (List.mem_of_getElem? (i := 8) rfl)) rfl, bs_in (in_tables_1_3 (List.mem_of_getElem? (i := 140) rfl)) rfl, by decide, by decide, by decide +kernel⟩
theorem meObjects_put : bs_Mi yObjects_put bObjects_put 3 (some .int) 2 := ⟨bs_in (in_tables_1_5 (List.mem_of_getElem? (i := 85) rfl)) rfl, bs_in (in_tables_1_5 (List.mem_of_getElem? (i := 86) rfl)) rfl, bs_in (in_tables_1_1 (List.mem_of_getElem? (i := 8) rfl)) rfl, bs_in (in_tables_1_5 (List.mem_of_getElem? (i := 87) rfl)) rfl, by decide, by decide, by decide +kernel⟩
theorem meObjects_keep : bs_Mi yObjects_keep bObjects_keep 4 (none) 3 := ⟨bs_in (in_tables_1_5 (List.mem_of_getElem? (i := 91) rfl)) rfl, bs_in (in_tables_1_5 (List.mem_of_getElem? (i := 92) rfl)) rfl, bs_in (in_tables_1_1 (List.mem_of_getElem? (i := 8) rfl)) rfl, bs_in (in_tables_1_5 (List.mem_of_getElem? (i := 93) rfl)) rfl, by decide, by decide, by decide +kernel⟩
theorem meOperators_unary : bs_Mi yOperators_unary bOperators_unary 6 (some .int) 3 := ⟨bs_in (in_tables_1_3 (List.mem_of_getElem? (i := 186) rfl)) rfl, bs_in (in_tables_1_3 (List.mem_of_getElem? (i := 187) rfl)) rfl, bs_in (in_tables_1_1 (List.mem_of_getElem? (i := 12) rfl)) rfl, bs_in (in_tables_1_3 (List.mem_of_getElem? (i := 188) rfl)) rfl, by decide, by decide, by decide +kernel⟩
theorem meOperators_computeUnary : bs_Mi yOperators_computeUnary bOperators_computeUnary 6 (none) 3 := ⟨bs_in (in_tables_1_3 (List.mem_of_getElem? (i := 204) rfl)) rfl, bs_in (sel_priv (q := ((yOperators_computeUnary), 1)) (List.mem_of_getElem? (i := 14) rfl)) rfl, bs_in (in_tables_1_1 (List.mem_of_getElem? (i := 12) rfl)) rfl, bs_in (in_tables_1_3 (List.mem_of_getElem? (i := 205) rfl)) rfl, by decide, by decide, by decide +kernel⟩
theorem meOperators_binary : bs_Mi yOperators_binary bOperators_binary 8 (some .int) 4 := ⟨bs_in (in_tables_1_3 (List.mem_of_getElem? (i := 231) rfl)) rfl, bs_in (in_tables_1_3 (List.mem_of_getElem? (i := 232) rfl)) rfl, bs_in (in_tables_1_1 (List.mem_of_getElem? (i := 12) rfl)) rfl, bs_in (in_tables_1_3 (List.mem_of_getElem? (i := 233) rfl)) rfl, by decide, by decide, by decide +kernel⟩
theorem meOperators_resultClass : bs_Mi yOperators_resultClass bOperators_resultClass 8 (some .int) 3 := ⟨bs_in (in_tables_1_3 (List.mem_of_getElem? (i := 236) rfl)) rfl, bs_in (sel_priv (q := ((yOperators_resultClass), 1)) (List.mem_of_getElem? (i := 15) rfl)) rfl, bs_in (in_tables_1_1 (List.mem_of_getElem? (i := 12) rfl)) rfl, bs_in (in_tables_1_3 (List.mem_of_getElem? (i := 237) rfl)) rfl, by decide, by decide, by decide +kernel⟩
theorem meOperators_areOfOneClass : bs_Mi yOperators_areOfOneClass bOperators_areOfOneClass 4 (some .boolean) 2 := ⟨bs_in (in_tables_1_4 (List.mem_of_getElem? (i := 0) rfl)) rfl, bs_in (sel_priv (q := ((yOperators_areOfOneClass), 1)) (List.mem_of_getElem? (i := 16) rfl)) rfl, bs_in (in_tables_1_1 (List.mem_of_getElem? (i := 12) rfl)) rfl, bs_in (in_tables_1_4 (List.mem_of_getElem? (i := 1) rfl)) rfl, by decide, by decide, by decide +kernel⟩
theorem meOperators_resultLength : bs_Mi yOperators_resultLength bOperators_resultLength 4 (some .int) 3 := ⟨bs_in (in_tables_1_4 (List.mem_of_getElem? (i := 4) rfl)) rfl, bs_in (sel_priv (q := ((yOperators_resultLength), 1)) (List.mem_of_getElem? (i := 17) rfl)) rfl, bs_in (in_tables_1_1 (List.mem_of_getElem? (i := 12) rfl)) rfl, bs_in (in_tables_1_4 (List.mem_of_getElem? (i := 5) rfl)) rfl, by decide, by decide, by decide +kernel⟩
theorem meOperators_widthOf : bs_Mi yOperators_widthOf bOperators_widthOf 2 (some .int) 1 := ⟨bs_in (in_tables_1_4 (List.mem_of_getElem? (i := 8) rfl)) rfl, bs_in (sel_priv (q := ((yOperators_widthOf), 1)) (List.mem_of_getElem? (i := 18) rfl)) rfl, bs_in (in_tables_1_1 (List.mem_of_getElem? (i := 12) rfl)) rfl, bs_in (in_tables_1_4 (List.mem_of_getElem? (i := 9) rfl)) rfl, by decide, by decide, by decide +kernel⟩
theorem meOperators_combine : bs_Mi yOperators_combine bOperators_combine 6 (none) 4 := ⟨bs_in (in_tables_1_4 (List.mem_of_getElem? (i := 24) rfl)) rfl, bs_in (sel_priv (q := ((yOperators_combine), 1)) (List.mem_of_getElem? (i := 20) rfl)) rfl, bs_in (in_tables_1_1 (List.mem_of_getElem? (i := 12) rfl)) rfl, bs_in (in_tables_1_4 (List.mem_of_getElem? (i := 25) rfl)) rfl, by decide, by decide, by decide +kernel⟩
theorem meOperators_areAlike : bs_Mi yOperators_areAlike bOperators_areAlike 4 (some .boolean) 2 := ⟨bs_in (in_tables_1_4 (List.mem_of_getElem? (i := 47) rfl)) rfl, bs_in (sel_priv (q := ((yOperators_areAlike), 1)) (List.mem_of_getElem? (i := 21) rfl)) rfl, bs_in (in_tables_1_1 (List.mem_of_getElem? (i := 12) rfl)) rfl, bs_in (in_tables_1_4 (List.mem_of_getElem? (i := 48) rfl)) rfl, by decide, by decide, by decide +kernel⟩
theorem meOperators_isOrdered : bs_Mi yOperators_isOrdered bOperators_isOrdered 5 (some .boolean) 3 := ⟨bs_in (in_tables_1_4 (List.mem_of_getElem? (i := 51) rfl)) rfl, bs_in (sel_priv (q := ((yOperators_isOrdered), 1)) (List.mem_of_getElem? (i := 22) rfl)) rfl, bs_in (in_tables_1_1 (List.mem_of_getElem? (i := 12) rfl)) rfl, bs_in (in_tables_1_4 (List.mem_of_getElem? (i := 52) rfl)) rfl, by decide, by decide, by decide +kernel⟩
theorem meOperators_isClear : bs_Mi yOperators_isClear bOperators_isClear 2 (some .boolean) 1 := ⟨bs_in (in_tables_1_4 (List.mem_of_getElem? (i := 58) rfl)) rfl, bs_in (sel_priv (q := ((yOperators_isClear), 1)) (List.mem_of_getElem? (i := 23) rfl)) rfl, bs_in (in_tables_1_1 (List.mem_of_getElem? (i := 12) rfl)) rfl, bs_in (in_tables_1_4 (List.mem_of_getElem? (i := 59) rfl)) rfl, by decide, by decide, by decide +kernel⟩
theorem meOperators_countsAs : bs_Mi yOperators_countsAs bOperators_countsAs 2 (some .long) 1 := ⟨bs_in (in_tables_1_4 (List.mem_of_getElem? (i := 68) rfl)) rfl, bs_in (sel_priv (q := ((yOperators_countsAs), 1)) (List.mem_of_getElem? (i := 24) rfl)) rfl, bs_in (in_tables_1_1 (List.mem_of_getElem? (i := 12) rfl)) rfl, bs_in (in_tables_1_4 (List.mem_of_getElem? (i := 69) rfl)) rfl, by decide, by decide, by decide +kernel⟩
theorem meOperators_calculate : bs_Mi yOperators_calculate bOperators_calculate 10 (some .int) 4 := ⟨bs_in (in_tables_1_4 (List.mem_of_getElem? (i := 12) rfl)) rfl, bs_in (sel_priv (q := ((yOperators_calculate), 1)) (List.mem_of_getElem? (i := 19) rfl)) rfl, bs_in (in_tables_1_1 (List.mem_of_getElem? (i := 12) rfl)) rfl, bs_in (in_tables_1_4 (List.mem_of_getElem? (i := 13) rfl)) rfl, by decide, by decide, by decide +kernel⟩
theorem meOperators_divided : bs_Ms yOperators_divided bOperators_divided 5 (some .long) 3 := ⟨bs_in (in_tables_1_4 (List.mem_of_getElem? (i := 15) rfl)) rfl, bs_in (in_tables_1_1 (List.mem_of_getElem? (i := 12) rfl)) rfl, bs_in (in_tables_1_4 (List.mem_of_getElem? (i := 16) rfl)) rfl, by decide, by decide, by decide +kernel⟩
theorem meOperators_sumRows : bs_Mi yOperators_sumRows bOperators_sumRows 8 (none) 4 := ⟨bs_in (in_tables_1_4 (List.mem_of_getElem? (i := 81) rfl)) rfl, bs_in (sel_priv (q := ((yOperators_sumRows), 1)) (List.mem_of_getElem? (i := 25) rfl)) rfl, bs_in (in_tables_1_1 (List.mem_of_getElem? (i := 12) rfl)) rfl, bs_in (in_tables_1_4 (List.mem_of_getElem? (i := 82) rfl)) rfl, by decide, by decide, by decide +kernel⟩
theorem meOperators_join : bs_Mi yOperators_join bOperators_join 6 (none) 3 := ⟨bs_in (in_tables_1_4 (List.mem_of_getElem? (i := 94) rfl)) rfl, bs_in (sel_priv (q := ((yOperators_join), 1)) (List.mem_of_getElem? (i := 26) rfl)) rfl, bs_in (in_tables_1_1 (List.mem_of_getElem? (i := 12) rfl)) rfl, bs_in (in_tables_1_4 (List.mem_of_getElem? (i := 95) rfl)) rfl, by decide, by decide, by decide +kernel⟩
theorem meOperators_elementOf : bs_Mi yOperators_elementOf bOperators_elementOf 3 (some .int) 2 := ⟨bs_in (in_tables_1_4 (List.mem_of_getElem? (i := 98) rfl)) rfl, bs_in (sel_priv (q := ((yOperators_elementOf), 1)) (List.mem_of_getElem? (i := 27) rfl)) rfl, bs_in (in_tables_1_1 (List.mem_of_getElem? (i := 12) rfl)) rfl, bs_in (in_tables_1_4 (List.mem_of_getElem? (i := 99) rfl)) rfl, by decide, by decide, by decide +kernel⟩
theorem meOperators_shift : bs_Mi yOperators_shift bOperators_shift 8 (none) 3 := ⟨bs_in (in_tables_1_4 (List.mem_of_getElem? (i := 102) rfl)) rfl, bs_in (sel_priv (q := ((yOperators_shift), 1)) (List.mem_of_getElem? (i := 28) rfl)) rfl, bs_in (in_tables_1_1 (List.mem_of_getElem? (i := 12) rfl)) rfl, bs_in (in_tables_1_4 (List.mem_of_getElem? (i := 103) rfl)) rfl, by decide, by decide, by decide +kernel⟩
theorem meRows_makeRoom : bs_Mi yRows_makeRoom bRows_makeRoom 2 (none) 1 := ⟨bs_in (in_tables_1_2 (List.mem_of_getElem? (i := 205) rfl)) rfl, bs_in (in_tables_1_2 (List.mem_of_getElem? (i := 206) rfl)) rfl, bs_in (in_tables_1_1 (List.mem_of_getElem? (i := 9) rfl)) rfl, bs_in (in_tables_1_2 (List.mem_of_getElem? (i := 207) rfl)) rfl, by decide, by decide, by decide +kernel⟩
theorem meRows_has : bs_Mi yRows_has bRows_has 2 (some .boolean) 1 := ⟨bs_in (in_tables_1_3 (List.mem_of_getElem? (i := 151) rfl)) rfl, bs_in (sel_priv (q := ((yRows_has), 1)) (List.mem_of_getElem? (i := 9) rfl)) rfl, bs_in (in_tables_1_1 (List.mem_of_getElem? (i := 9) rfl)) rfl, bs_in (in_tables_1_3 (List.mem_of_getElem? (i := 152) rfl)) rfl, by decide, by decide, by decide +kernel⟩
theorem meRows_get : bs_Mi yRows_get bRows_get 3 (some .int) 2 := ⟨bs_in (in_tables_1_3 (List.mem_of_getElem? (i := 221) rfl)) rfl, bs_in (in_tables_1_3 (List.mem_of_getElem? (i := 222) rfl)) rfl, bs_in (in_tables_1_1 (List.mem_of_getElem? (i := 9) rfl)) rfl, bs_in (in_tables_1_3 (List.mem_of_getElem? (i := 223) rfl)) rfl, by decide, by decide, by decide +kernel⟩
theorem meRows_set : bs_Mi yRows_set bRows_set 6 (none) 3 := ⟨bs_in (in_tables_1_3 (List.mem_of_getElem? (i := 176) rfl)) rfl, bs_in (in_tables_1_3 (List.mem_of_getElem? (i := 177) rfl)) rfl, bs_in (in_tables_1_1 (List.mem_of_getElem? (i := 9) rfl)) rfl, bs_in (in_tables_1_3 (List.mem_of_getElem? (i := 178) rfl)) rfl, by decide, by decide, by decide +kernel⟩
theorem meRows_copy : bs_Mi yRows_copy bRows_copy 4 (none) 3 := ⟨bs_in (in_tables_1_3 (List.mem_of_getElem? (i := 146) rfl)) rfl, bs_in (in_tables_1_3 (List.mem_of_getElem? (i := 147) rfl)) rfl, bs_in (in_tables_1_1 (List.mem_of_getElem? (i := 9) rfl)) rfl, bs_in (in_tables_1_3 (List.mem_of_getElem? (i := 148) rfl)) rfl, by decide, by decide, by decide +kernel⟩
theorem meRows_isClear : bs_Mi yRows_isClear bRows_isClear 4 (some .boolean) 2 := ⟨bs_in (in_tables_1_4 (List.mem_of_getElem? (i := 61) rfl)) rfl, bs_in (in_tables_1_4 (List.mem_of_getElem? (i := 62) rfl)) rfl, bs_in (in_tables_1_1 (List.mem_of_getElem? (i := 9) rfl)) rfl, bs_in (in_tables_1_4 (List.mem_of_getElem? (i := 63) rfl)) rfl, by decide, by decide, by decide +kernel⟩
theorem meRows_bitsOf : bs_Mi yRows_bitsOf bRows_bitsOf 6 (some .long) 2 := ⟨bs_in (in_tables_1_4 (List.mem_of_getElem? (i := 71) rfl)) rfl, bs_in (in_tables_1_4 (List.mem_of_getElem? (i := 72) rfl)) rfl, bs_in (in_tables_1_1 (List.mem_of_getElem? (i := 9) rfl)) rfl, bs_in (in_tables_1_4 (List.mem_of_getElem? (i := 73) rfl)) rfl, by decide, by decide, by decide +kernel⟩
theorem meRows_setBits : bs_Mi yRows_setBits bRows_setBits 6 (none) 3 := ⟨bs_in (in_tables_1_4 (List.mem_of_getElem? (i := 89) rfl)) rfl, bs_in (in_tables_1_4 (List.mem_of_getElem? (i := 90) rfl)) rfl, bs_in (in_tables_1_1 (List.mem_of_getElem? (i := 9) rfl)) rfl, bs_in (in_tables_1_4 (List.mem_of_getElem? (i := 91) rfl)) rfl, by decide, by decide, by decide +kernel⟩
theorem meRows_setAll : bs_Mi yRows_setAll bRows_setAll 5 (none) 3 := ⟨bs_in (in_tables_1_4 (List.mem_of_getElem? (i := 84) rfl)) rfl, bs_in (in_tables_1_4 (List.mem_of_getElem? (i := 85) rfl)) rfl, bs_in (in_tables_1_1 (List.mem_of_getElem? (i := 9) rfl)) rfl, bs_in (in_tables_1_4 (List.mem_of_getElem? (i := 86) rfl)) rfl, by decide, by decide, by decide +kernel⟩
theorem meTrees_bearsName : bs_Ms yTrees_bearsName bTrees_bearsName 1 (some .boolean) 1 := ⟨bs_in (in_tables_1_2 (List.mem_of_getElem? (i := 164) rfl)) rfl, bs_in (in_tables_1_1 (List.mem_of_getElem? (i := 2) rfl)) rfl, bs_in (in_tables_1_2 (List.mem_of_getElem? (i := 165) rfl)) rfl, by decide, by decide, by decide +kernel⟩
theorem meTrees_has : bs_Mi yTrees_has bTrees_has 2 (some .boolean) 1 := ⟨bs_in (in_tables_1_2 (List.mem_of_getElem? (i := 196) rfl)) rfl, bs_in (in_tables_1_2 (List.mem_of_getElem? (i := 197) rfl)) rfl, bs_in (in_tables_1_1 (List.mem_of_getElem? (i := 2) rfl)) rfl, bs_in (in_tables_1_2 (List.mem_of_getElem? (i := 198) rfl)) rfl, by decide, by decide, by decide +kernel⟩
theorem meTrees_kindOf : bs_Mi yTrees_kindOf bTrees_kindOf 2 (some .int) 1 := ⟨bs_in (in_tables_1_3 (List.mem_of_getElem? (i := 49) rfl)) rfl, bs_in (in_tables_1_3 (List.mem_of_getElem? (i := 50) rfl)) rfl, bs_in (in_tables_1_1 (List.mem_of_getElem? (i := 2) rfl)) rfl, bs_in (in_tables_1_3 (List.mem_of_getElem? (i := 51) rfl)) rfl, by decide, by decide, by decide +kernel⟩
theorem meTrees_valueOf : bs_Mi yTrees_valueOf bTrees_valueOf 2 (some .int) 1 := ⟨bs_in (in_tables_1_3 (List.mem_of_getElem? (i := 70) rfl)) rfl, bs_in (in_tables_1_3 (List.mem_of_getElem? (i := 71) rfl)) rfl, bs_in (in_tables_1_1 (List.mem_of_getElem? (i := 2) rfl)) rfl, bs_in (in_tables_1_3 (List.mem_of_getElem? (i := 72) rfl)) rfl, by decide, by decide, by decide +kernel⟩
theorem meTrees_countOf : bs_Mi yTrees_countOf bTrees_countOf 2 (some .int) 1 := ⟨bs_in (in_tables_1_3 (List.mem_of_getElem? (i := 66) rfl)) rfl, bs_in (in_tables_1_3 (List.mem_of_getElem? (i := 67) rfl)) rfl, bs_in (in_tables_1_1 (List.mem_of_getElem? (i := 2) rfl)) rfl, bs_in (in_tables_1_3 (List.mem_of_getElem? (i := 68) rfl)) rfl, by decide, by decide, by decide +kernel⟩
theorem meTrees_firstOf : bs_Mi yTrees_firstOf bTrees_firstOf 2 (some .int) 1 := ⟨bs_in (in_tables_1_2 (List.mem_of_getElem? (i := 192) rfl)) rfl, bs_in (in_tables_1_2 (List.mem_of_getElem? (i := 193) rfl)) rfl, bs_in (in_tables_1_1 (List.mem_of_getElem? (i := 2) rfl)) rfl, bs_in (in_tables_1_2 (List.mem_of_getElem? (i := 194) rfl)) rfl, by decide, by decide, by decide +kernel⟩
theorem meTrees_leftOfTwo : bs_Mi yTrees_leftOfTwo bTrees_leftOfTwo 2 (some .int) 1 := ⟨bs_in (in_tables_1_3 (List.mem_of_getElem? (i := 227) rfl)) rfl, bs_in (in_tables_1_3 (List.mem_of_getElem? (i := 228) rfl)) rfl, bs_in (in_tables_1_1 (List.mem_of_getElem? (i := 2) rfl)) rfl, bs_in (in_tables_1_3 (List.mem_of_getElem? (i := 229) rfl)) rfl, by decide, by decide, by decide +kernel⟩
theorem meTrees_grow : bs_Mi yTrees_grow bTrees_grow 7 (some .int) 3 := ⟨bs_in (in_tables_1_2 (List.mem_of_getElem? (i := 187) rfl)) rfl, bs_in (in_tables_1_2 (List.mem_of_getElem? (i := 188) rfl)) rfl, bs_in (in_tables_1_1 (List.mem_of_getElem? (i := 2) rfl)) rfl, bs_in (in_tables_1_2 (List.mem_of_getElem? (i := 189) rfl)) rfl, by decide, by decide, by decide +kernel⟩
theorem meTrees_fell : bs_Mi yTrees_fell bTrees_fell 1 (none) 0 := ⟨bs_in (in_tables_1_2 (List.mem_of_getElem? (i := 79) rfl)) rfl, bs_in (in_tables_1_2 (List.mem_of_getElem? (i := 80) rfl)) rfl, bs_in (in_tables_1_1 (List.mem_of_getElem? (i := 2) rfl)) rfl, bs_in (in_tables_1_2 (List.mem_of_getElem? (i := 81) rfl)) rfl, by decide, by decide, by decide +kernel⟩
theorem meTypes_has : bs_Mi yTypes_has bTypes_has 2 (some .boolean) 1 := ⟨bs_in (in_tables_1_3 (List.mem_of_getElem? (i := 106) rfl)) rfl, bs_in (in_tables_1_3 (List.mem_of_getElem? (i := 107) rfl)) rfl, bs_in (in_tables_1_1 (List.mem_of_getElem? (i := 7) rfl)) rfl, bs_in (in_tables_1_3 (List.mem_of_getElem? (i := 108) rfl)) rfl, by decide, by decide, by decide +kernel⟩
theorem meTypes_classOf : bs_Mi yTypes_classOf bTypes_classOf 2 (some .int) 1 := ⟨bs_in (in_tables_1_3 (List.mem_of_getElem? (i := 102) rfl)) rfl, bs_in (in_tables_1_3 (List.mem_of_getElem? (i := 103) rfl)) rfl, bs_in (in_tables_1_1 (List.mem_of_getElem? (i := 7) rfl)) rfl, bs_in (in_tables_1_3 (List.mem_of_getElem? (i := 104) rfl)) rfl, by decide, by decide, by decide +kernel⟩
theorem meTypes_leftOf : bs_Mi yTypes_leftOf bTypes_leftOf 2 (some .int) 1 := ⟨bs_in (in_tables_1_4 (List.mem_of_getElem? (i := 190) rfl)) rfl, bs_in (in_tables_1_4 (List.mem_of_getElem? (i := 191) rfl)) rfl, bs_in (in_tables_1_1 (List.mem_of_getElem? (i := 7) rfl)) rfl, bs_in (in_tables_1_4 (List.mem_of_getElem? (i := 192) rfl)) rfl, by decide, by decide, by decide +kernel⟩
theorem meTypes_rightOf : bs_Mi yTypes_rightOf bTypes_rightOf 2 (some .int) 1 := ⟨bs_in (in_tables_1_4 (List.mem_of_getElem? (i := 159) rfl)) rfl, bs_in (in_tables_1_4 (List.mem_of_getElem? (i := 160) rfl)) rfl, bs_in (in_tables_1_1 (List.mem_of_getElem? (i := 7) rfl)) rfl, bs_in (in_tables_1_4 (List.mem_of_getElem? (i := 161) rfl)) rfl, by decide, by decide, by decide +kernel⟩
theorem meTypes_countOf : bs_Mi yTypes_countOf bTypes_countOf 2 (some .int) 1 := ⟨bs_in (in_tables_1_3 (List.mem_of_getElem? (i := 115) rfl)) rfl, bs_in (in_tables_1_3 (List.mem_of_getElem? (i := 116) rfl)) rfl, bs_in (in_tables_1_1 (List.mem_of_getElem? (i := 7) rfl)) rfl, bs_in (in_tables_1_3 (List.mem_of_getElem? (i := 117) rfl)) rfl, by decide, by decide, by decide +kernel⟩
theorem meTypes_goesDown : bs_Mi yTypes_goesDown bTypes_goesDown 2 (some .boolean) 1 := ⟨bs_in (in_tables_1_4 (List.mem_of_getElem? (i := 155) rfl)) rfl, bs_in (in_tables_1_4 (List.mem_of_getElem? (i := 156) rfl)) rfl, bs_in (in_tables_1_1 (List.mem_of_getElem? (i := 7) rfl)) rfl, bs_in (in_tables_1_4 (List.mem_of_getElem? (i := 157) rfl)) rfl, by decide, by decide, by decide +kernel⟩
theorem meTypes_extentOf : bs_Mi yTypes_extentOf bTypes_extentOf 3 (some .int) 1 := ⟨bs_in (in_tables_1_3 (List.mem_of_getElem? (i := 110) rfl)) rfl, bs_in (in_tables_1_3 (List.mem_of_getElem? (i := 111) rfl)) rfl, bs_in (in_tables_1_1 (List.mem_of_getElem? (i := 7) rfl)) rfl, bs_in (in_tables_1_3 (List.mem_of_getElem? (i := 112) rfl)) rfl, by decide, by decide, by decide +kernel⟩
theorem meTypes_fromRight : bs_Mi yTypes_fromRight bTypes_fromRight 5 (some .int) 2 := ⟨bs_in (in_tables_1_4 (List.mem_of_getElem? (i := 151) rfl)) rfl, bs_in (in_tables_1_4 (List.mem_of_getElem? (i := 152) rfl)) rfl, bs_in (in_tables_1_1 (List.mem_of_getElem? (i := 7) rfl)) rfl, bs_in (in_tables_1_4 (List.mem_of_getElem? (i := 153) rfl)) rfl, by decide, by decide, by decide +kernel⟩
theorem meTypes_put : bs_Mi yTypes_put bTypes_put 5 (some .int) 4 := ⟨bs_in (in_tables_1_1 (List.mem_of_getElem? (i := 135) rfl)) rfl, bs_in (in_tables_1_1 (List.mem_of_getElem? (i := 136) rfl)) rfl, bs_in (in_tables_1_1 (List.mem_of_getElem? (i := 7) rfl)) rfl, bs_in (in_tables_1_1 (List.mem_of_getElem? (i := 137) rfl)) rfl, by decide, by decide, by decide +kernel⟩
theorem mejInteger_compare : bs_Ms yjInteger_compare bjInteger_compare 2 (some .int) 2 := ⟨bs_in (in_tables_1_4 (List.mem_of_getElem? (i := 54) rfl)) rfl, bs_in (in_tables_1_1 (List.mem_of_getElem? (i := 22) rfl)) rfl, bs_in (in_tables_1_4 (List.mem_of_getElem? (i := 55) rfl)) rfl, by decide, by decide, by decide +kernel⟩
theorem mejLong_compare : bs_Ms yjLong_compare bjLong_compare 4 (some .int) 2 := ⟨bs_in (in_tables_1_4 (List.mem_of_getElem? (i := 77) rfl)) rfl, bs_in (in_tables_1_1 (List.mem_of_getElem? (i := 23) rfl)) rfl, bs_in (in_tables_1_4 (List.mem_of_getElem? (i := 78) rfl)) rfl, by decide, by decide, by decide +kernel⟩
theorem mejMath_floorMod : bs_Ms yjMath_floorMod bjMath_floorMod 6 (some .long) 2 := ⟨bs_in (in_tables_1_4 (List.mem_of_getElem? (i := 18) rfl)) rfl, bs_in (in_tables_1_1 (List.mem_of_getElem? (i := 5) rfl)) rfl, bs_in (in_tables_1_4 (List.mem_of_getElem? (i := 19) rfl)) rfl, by decide, by decide, by decide +kernel⟩
theorem mejArrays_copyOf : bs_Ms yjArrays_copyOf bjArrays_copyOf 3 (some (.array .int)) 2 := ⟨bs_in (in_tables_1_1 (List.mem_of_getElem? (i := 84) rfl)) rfl, bs_in (in_tables_1_1 (List.mem_of_getElem? (i := 4) rfl)) rfl, bs_in (in_tables_1_1 (List.mem_of_getElem? (i := 85) rfl)) rfl, by decide, by decide, by decide +kernel⟩
theorem mejArrays_copyOfL : bs_Ms yjArrays_copyOfL bjArrays_copyOfL 3 (some (.array .long)) 2 := ⟨bs_in (in_tables_1_2 (List.mem_of_getElem? (i := 209) rfl)) rfl, bs_in (in_tables_1_1 (List.mem_of_getElem? (i := 4) rfl)) rfl, bs_in (in_tables_1_2 (List.mem_of_getElem? (i := 210) rfl)) rfl, by decide, by decide, by decide +kernel⟩
theorem mejArrays_fill : bs_Ms yjArrays_fill bjArrays_fill 4 (none) 2 := ⟨bs_in (in_tables_1_1 (List.mem_of_getElem? (i := 67) rfl)) rfl, bs_in (in_tables_1_1 (List.mem_of_getElem? (i := 4) rfl)) rfl, bs_in (in_tables_1_1 (List.mem_of_getElem? (i := 68) rfl)) rfl, by decide, by decide, by decide +kernel⟩
-- STORES that tell what else stays; fields of the skeleton
section STS
variable {p : Program} {l : Launch} {e : Env} {R : Room} {s : State} {m : MethodId} {args : Array Value} {below : List Frame} {meth : Method} {c : Code} {H : Heap} {locs : List Loc} {cells slots : Nat} {Q : State → Prop}
variable {cc : ByteArray} {pc : Nat} {ls : Array Slot} {rest : List Value} {D : va_G} {cl : List vw_C} {A Z : Nat → Prop} {a : Nat} {tys : List (ClassId × FieldType)} {ws : va_W} {H0 : Heap} {nL index : Nat} {own : String} {γ : gE} {κ : Nat → Nat}
theorem st_put (hexec : p.tables.exec = Jvm.exec) (hb : c.code = cc) {ref C : String} {T : u_T} {N ci : Nat} {Ts : List Cond} (hts : ∀ w ∈ Ts, w.before args s = true) (hin : ∀ w ∈ u_ws C T N, w ∈ Ts) (ty0 : Nat → FieldType) (hty : ∀ k, k < N → parseFieldDescriptor (T k).2.2.1 = some (ty0 k)) (hnm : ∀ a, a < N → ∀ b, b < N → a ≠ b → (T a).2.1 ≠ (T b).2.1) (hown : s.vm.findClass own = some m.cls) (hK : va_K D cl tys s) (hP : va_P D cl ws H) (hD : va_D Z ws) (hZA : ∀ q, Z q → A q) (hS0 : va_S A H0 H locs) (q0 : Nat) {fs : List Value} (he : ws[q0]? = some (a, .inr (ci, fs))) (hc : cl[ci]? = some (C, T, N)) (k : Nat) (hk : k < N) (hlink : (Cond.fieldLink own index ref (T k).2.1 (T k).2.2.1).before args s = true) (hsame : ∀ x, s.fieldFound? (T k).1 (T k).2.1 (T k).2.2.1 = some x → s.fieldFound? ref (T k).2.1 (T k).2.2.1 = some x) (hfin : (T k).2.2.2 = false) {ty : FieldType} {v : Value} (hd : parseFieldDescriptor (T k).2.2.1 = some ty) (hn : narrow ty v = v) (hfit : fits ty v = true) (hl : k < fs.length)
    (hdg : decode cc pc = .ok (.putfield index, 3)) (kk : ∀ (H1 : Heap) (locs1 : List Loc), va_P D cl (ws.set q0 (a, .inr (ci, fs.set k v))) H1 → va_D Z (ws.set q0 (a, .inr (ci, fs.set k v))) → va_S A H0 H1 locs1 → H1.size = H.size → (∀ q, q ≠ a → H1[q]? = H[q]?) → W p l e R s m args below meth c H1 locs1 cells slots Q (F0 m (pc + 3) ls rest)) : W p l e R s m args below meth c H locs cells slots Q (F0 m pc ls (v :: .ref a :: rest)) := by
  have hap := va_apart (own := own) hts hin ty0 hty hnm hK hc
  obtain ⟨r, h1, cell, q1, q2, q3, q4⟩ := hP q0 _ he
  cases (Option.some.inj (h1.symm.trans hc))
  obtain ⟨hS, hfc, kC, hkC, hkind⟩ := hK.1 ci _ hc
  obtain ⟨cf, kf, fi, f, hi, hsl⟩ := hS k hk
  have hlay := hts _ (hin _ (u_in_lay hk))
  unfold u_lay at hlay
  rw [if_neg (by rw [hfin]; decide)] at hlay
  have hst := (u_facts hfc hkC (u_lays hts hin hk) hi).1
  have h6 := u_store hfc hkC hkind hlay hi hd hn hfit
  refine W.putK hexec hb (f := f) ⟨hown, hlink, ⟨_, _, _, hsame _ hi⟩, hst⟩ (by rw [q2]; exact h6) q1 q3 (by rw [hsl]; exact k2_hasslot (q4 k hk)) rfl rfl hdg fun H' e1 e2 e3 => ?_
  rw [hsl] at e1 ⊢
  exact kk H' _ (hP.set hD he ⟨_, hc, t_OB.to (V := updV (vp_V fs) k v) ⟨_, e1, q2, q3, t_set q4 hap hk v⟩ (fun j _ => vp_updV_set hl v j)⟩ e3) (hD.set he) (hS0.put e2 e3 (hZA _ (hD.2 q0 _ he))) e2 e3
theorem st_iast (hexec : p.tables.exec = Jvm.exec) (hb : c.code = cc) (hK : va_K D cl tys s) (hP : va_P D cl ws H) (hD : va_D Z ws) (hZA : ∀ q, Z q → A q) (hS : va_S A H0 H locs) (q0 t0 : Nat) {cA : ClassId} {n : Nat} {f : Nat → Int32} (ha : ws[q0]? = some (a, .inl (cA, n, .inl f))) (ht : tys[t0]? = some (cA, .int)) {i : Int32} {x : Int32} (hin : vp_in i n) (hdg : decode cc pc = .ok (.iastore, 1))
    (kk : ∀ (H1 : Heap) (locs1 : List Loc), va_P D cl (ws.set q0 (a, .inl (cA, n, .inl (upd f i.toNatClampNeg x)))) H1 → va_D Z (ws.set q0 (a, .inl (cA, n, .inl (upd f i.toNatClampNeg x)))) → va_S A H0 H1 locs1 → H1.size = H.size → (∀ q, q ≠ a → H1[q]? = H[q]?) → W p l e R s m args below meth c H1 locs1 cells slots Q (F0 m (pc + 1) ls rest)) : W p l e R s m args below meth c H locs cells slots Q (F0 m pc ls (.int x :: .int i :: .ref a :: rest)) := by
  refine W.iast hexec hb (hP q0 _ ha) ((hK.2 t0 _ ht).1 n (fun j => .int (f j))) (fun q => by cases q) (by show ¬ (i < 0 ∨ (arrV _ _ _).slots.size ≤ _); rw [arrV_size]; exact hin) rfl rfl hdg fun H1 e z oq => ?_
  refine kk H1 _ (hP.set hD ha ?_ oq) (hD.set ha) (hS.put z oq (hZA _ (hD.2 q0 _ ha))) z oq
  show H1[a]? = some (vp_cell _ _)
  rw [e, vp_cell_i, vp_cell_i, arrV_store]
  congr 2
  funext q
  by_cases hq : q = i.toNatClampNeg
  · subst hq
    simp [updV, upd]
  · simp [updV, upd, hq]
end STS
theorem djInteger_compare_0 : decode bjInteger_compare 0 = .ok (.iload_n 0, 1) := by decide +kernel
theorem djInteger_compare_1 : decode bjInteger_compare 1 = .ok (.iload_n 1, 1) := by decide +kernel
theorem djInteger_compare_2 : decode bjInteger_compare 2 = .ok (.if_icmp .ge 7, 3) := by decide +kernel
theorem djInteger_compare_5 : decode bjInteger_compare 5 = .ok (.iconst (-1), 1) := by decide +kernel
theorem djInteger_compare_6 : decode bjInteger_compare 6 = .ok (.goto 13, 3) := by decide +kernel
theorem djInteger_compare_9 : decode bjInteger_compare 9 = .ok (.iload_n 0, 1) := by decide +kernel
theorem djInteger_compare_10 : decode bjInteger_compare 10 = .ok (.iload_n 1, 1) := by decide +kernel
theorem djInteger_compare_11 : decode bjInteger_compare 11 = .ok (.if_icmp .ne 7, 3) := by decide +kernel
theorem djInteger_compare_14 : decode bjInteger_compare 14 = .ok (.iconst 0, 1) := by decide +kernel
theorem djInteger_compare_15 : decode bjInteger_compare 15 = .ok (.goto 4, 3) := by decide +kernel
theorem djInteger_compare_18 : decode bjInteger_compare 18 = .ok (.iconst 1, 1) := by decide +kernel
theorem djInteger_compare_19 : decode bjInteger_compare 19 = .ok (.ireturn, 1) := by decide +kernel
theorem djLong_compare_0 : decode bjLong_compare 0 = .ok (.lload_n 0, 1) := by decide +kernel
theorem djLong_compare_1 : decode bjLong_compare 1 = .ok (.lload_n 2, 1) := by decide +kernel
theorem djLong_compare_2 : decode bjLong_compare 2 = .ok (.lcmp, 1) := by decide +kernel
theorem djLong_compare_3 : decode bjLong_compare 3 = .ok (.ifCond .ge 7, 3) := by decide +kernel
theorem djLong_compare_6 : decode bjLong_compare 6 = .ok (.iconst (-1), 1) := by decide +kernel
theorem djLong_compare_7 : decode bjLong_compare 7 = .ok (.goto 14, 3) := by decide +kernel
theorem djLong_compare_10 : decode bjLong_compare 10 = .ok (.lload_n 0, 1) := by decide +kernel
theorem djLong_compare_11 : decode bjLong_compare 11 = .ok (.lload_n 2, 1) := by decide +kernel
theorem djLong_compare_12 : decode bjLong_compare 12 = .ok (.lcmp, 1) := by decide +kernel
theorem djLong_compare_13 : decode bjLong_compare 13 = .ok (.ifCond .ne 7, 3) := by decide +kernel
theorem djLong_compare_16 : decode bjLong_compare 16 = .ok (.iconst 0, 1) := by decide +kernel
theorem djLong_compare_17 : decode bjLong_compare 17 = .ok (.goto 4, 3) := by decide +kernel
theorem djLong_compare_20 : decode bjLong_compare 20 = .ok (.iconst 1, 1) := by decide +kernel
theorem djLong_compare_21 : decode bjLong_compare 21 = .ok (.ireturn, 1) := by decide +kernel
theorem djMath_floorMod_0 : decode bjMath_floorMod 0 = .ok (.lload_n 0, 1) := by decide +kernel
theorem djMath_floorMod_1 : decode bjMath_floorMod 1 = .ok (.lload_n 2, 1) := by decide +kernel
theorem djMath_floorMod_2 : decode bjMath_floorMod 2 = .ok (.lrem, 1) := by decide +kernel
theorem djMath_floorMod_3 : decode bjMath_floorMod 3 = .ok (.lstore 4, 2) := by decide +kernel
theorem djMath_floorMod_5 : decode bjMath_floorMod 5 = .ok (.lload_n 0, 1) := by decide +kernel
theorem djMath_floorMod_6 : decode bjMath_floorMod 6 = .ok (.lload_n 2, 1) := by decide +kernel
theorem djMath_floorMod_7 : decode bjMath_floorMod 7 = .ok (.lxor, 1) := by decide +kernel
theorem djMath_floorMod_8 : decode bjMath_floorMod 8 = .ok (.lconst 0, 1) := by decide +kernel
theorem djMath_floorMod_9 : decode bjMath_floorMod 9 = .ok (.lcmp, 1) := by decide +kernel
theorem djMath_floorMod_10 : decode bjMath_floorMod 10 = .ok (.ifCond .ge 15, 3) := by decide +kernel
theorem djMath_floorMod_13 : decode bjMath_floorMod 13 = .ok (.lload 4, 2) := by decide +kernel
theorem djMath_floorMod_15 : decode bjMath_floorMod 15 = .ok (.lconst 0, 1) := by decide +kernel
theorem djMath_floorMod_16 : decode bjMath_floorMod 16 = .ok (.lcmp, 1) := by decide +kernel
theorem djMath_floorMod_17 : decode bjMath_floorMod 17 = .ok (.ifCond .eq 8, 3) := by decide +kernel
theorem djMath_floorMod_20 : decode bjMath_floorMod 20 = .ok (.lload 4, 2) := by decide +kernel
theorem djMath_floorMod_22 : decode bjMath_floorMod 22 = .ok (.lload_n 2, 1) := by decide +kernel
theorem djMath_floorMod_23 : decode bjMath_floorMod 23 = .ok (.ladd, 1) := by decide +kernel
theorem djMath_floorMod_24 : decode bjMath_floorMod 24 = .ok (.lreturn, 1) := by decide +kernel
theorem djMath_floorMod_25 : decode bjMath_floorMod 25 = .ok (.lload 4, 2) := by decide +kernel
theorem djMath_floorMod_27 : decode bjMath_floorMod 27 = .ok (.lreturn, 1) := by decide +kernel
theorem djArrays_copyOf_0 : decode bjArrays_copyOf 0 = .ok (.iload_n 1, 1) := by decide +kernel
theorem djArrays_copyOf_1 : decode bjArrays_copyOf 1 = .ok (.aload_n 0, 1) := by decide +kernel
theorem djArrays_copyOf_2 : decode bjArrays_copyOf 2 = .ok (.arraylength, 1) := by decide +kernel
theorem djArrays_copyOf_3 : decode bjArrays_copyOf 3 = .ok (.if_icmp .ne 11, 3) := by decide +kernel
theorem djArrays_copyOf_14 : decode bjArrays_copyOf 14 = .ok (.iload_n 1, 1) := by decide +kernel
theorem djArrays_copyOf_15 : decode bjArrays_copyOf 15 = .ok (.newarray .int, 2) := by decide +kernel
theorem djArrays_copyOf_17 : decode bjArrays_copyOf 17 = .ok (.astore_n 2, 1) := by decide +kernel
theorem djArrays_copyOf_18 : decode bjArrays_copyOf 18 = .ok (.aload_n 0, 1) := by decide +kernel
theorem djArrays_copyOf_19 : decode bjArrays_copyOf 19 = .ok (.iconst 0, 1) := by decide +kernel
theorem djArrays_copyOf_20 : decode bjArrays_copyOf 20 = .ok (.aload_n 2, 1) := by decide +kernel
theorem djArrays_copyOf_21 : decode bjArrays_copyOf 21 = .ok (.iconst 0, 1) := by decide +kernel
theorem djArrays_copyOf_22 : decode bjArrays_copyOf 22 = .ok (.aload_n 0, 1) := by decide +kernel
theorem djArrays_copyOf_23 : decode bjArrays_copyOf 23 = .ok (.arraylength, 1) := by decide +kernel
theorem djArrays_copyOf_24 : decode bjArrays_copyOf 24 = .ok (.iload_n 1, 1) := by decide +kernel
theorem djArrays_copyOf_25 : decode bjArrays_copyOf 25 = .ok (.invokestatic 304, 3) := by decide +kernel
theorem djArrays_copyOf_28 : decode bjArrays_copyOf 28 = .ok (.invokestatic 150, 3) := by decide +kernel
theorem djArrays_copyOf_31 : decode bjArrays_copyOf 31 = .ok (.aload_n 2, 1) := by decide +kernel
theorem djArrays_copyOf_32 : decode bjArrays_copyOf 32 = .ok (.areturn, 1) := by decide +kernel
theorem djArrays_copyOfL_0 : decode bjArrays_copyOfL 0 = .ok (.iload_n 1, 1) := by decide +kernel
theorem djArrays_copyOfL_1 : decode bjArrays_copyOfL 1 = .ok (.aload_n 0, 1) := by decide +kernel
theorem djArrays_copyOfL_2 : decode bjArrays_copyOfL 2 = .ok (.arraylength, 1) := by decide +kernel
theorem djArrays_copyOfL_3 : decode bjArrays_copyOfL 3 = .ok (.if_icmp .ne 11, 3) := by decide +kernel
theorem djArrays_copyOfL_14 : decode bjArrays_copyOfL 14 = .ok (.iload_n 1, 1) := by decide +kernel
theorem djArrays_copyOfL_15 : decode bjArrays_copyOfL 15 = .ok (.newarray .long, 2) := by decide +kernel
theorem djArrays_copyOfL_17 : decode bjArrays_copyOfL 17 = .ok (.astore_n 2, 1) := by decide +kernel
theorem djArrays_copyOfL_18 : decode bjArrays_copyOfL 18 = .ok (.aload_n 0, 1) := by decide +kernel
theorem djArrays_copyOfL_19 : decode bjArrays_copyOfL 19 = .ok (.iconst 0, 1) := by decide +kernel
theorem djArrays_copyOfL_20 : decode bjArrays_copyOfL 20 = .ok (.aload_n 2, 1) := by decide +kernel
theorem djArrays_copyOfL_21 : decode bjArrays_copyOfL 21 = .ok (.iconst 0, 1) := by decide +kernel
theorem djArrays_copyOfL_22 : decode bjArrays_copyOfL 22 = .ok (.aload_n 0, 1) := by decide +kernel
theorem djArrays_copyOfL_23 : decode bjArrays_copyOfL 23 = .ok (.arraylength, 1) := by decide +kernel
theorem djArrays_copyOfL_24 : decode bjArrays_copyOfL 24 = .ok (.iload_n 1, 1) := by decide +kernel
theorem djArrays_copyOfL_25 : decode bjArrays_copyOfL 25 = .ok (.invokestatic 304, 3) := by decide +kernel
theorem djArrays_copyOfL_28 : decode bjArrays_copyOfL 28 = .ok (.invokestatic 150, 3) := by decide +kernel
theorem djArrays_copyOfL_31 : decode bjArrays_copyOfL 31 = .ok (.aload_n 2, 1) := by decide +kernel
theorem djArrays_copyOfL_32 : decode bjArrays_copyOfL 32 = .ok (.areturn, 1) := by decide +kernel
theorem djArrays_fill_0 : decode bjArrays_fill 0 = .ok (.iconst 0, 1) := by decide +kernel
theorem djArrays_fill_1 : decode bjArrays_fill 1 = .ok (.istore_n 2, 1) := by decide +kernel
theorem djArrays_fill_2 : decode bjArrays_fill 2 = .ok (.aload_n 0, 1) := by decide +kernel
theorem djArrays_fill_3 : decode bjArrays_fill 3 = .ok (.arraylength, 1) := by decide +kernel
theorem djArrays_fill_4 : decode bjArrays_fill 4 = .ok (.istore_n 3, 1) := by decide +kernel
theorem djArrays_fill_5 : decode bjArrays_fill 5 = .ok (.iload_n 2, 1) := by decide +kernel
theorem djArrays_fill_6 : decode bjArrays_fill 6 = .ok (.iload_n 3, 1) := by decide +kernel
theorem djArrays_fill_7 : decode bjArrays_fill 7 = .ok (.if_icmp .ge 13, 3) := by decide +kernel
theorem djArrays_fill_10 : decode bjArrays_fill 10 = .ok (.aload_n 0, 1) := by decide +kernel
theorem djArrays_fill_11 : decode bjArrays_fill 11 = .ok (.iload_n 2, 1) := by decide +kernel
theorem djArrays_fill_12 : decode bjArrays_fill 12 = .ok (.iload_n 1, 1) := by decide +kernel
theorem djArrays_fill_13 : decode bjArrays_fill 13 = .ok (.iastore, 1) := by decide +kernel
theorem djArrays_fill_14 : decode bjArrays_fill 14 = .ok (.iinc 2 1, 3) := by decide +kernel
theorem djArrays_fill_17 : decode bjArrays_fill 17 = .ok (.goto (-12), 3) := by decide +kernel
theorem djArrays_fill_20 : decode bjArrays_fill 20 = .ok (.return_, 1) := by decide +kernel
theorem dLogic_isLow_0 : decode bLogic_isLow 0 = .ok (.iload_n 0, 1) := by decide +kernel
theorem dLogic_isLow_1 : decode bLogic_isLow 1 = .ok (.iconst 2, 1) := by decide +kernel
theorem dLogic_isLow_2 : decode bLogic_isLow 2 = .ok (.if_icmp .eq 9, 3) := by decide +kernel
theorem dLogic_isLow_5 : decode bLogic_isLow 5 = .ok (.iload_n 0, 1) := by decide +kernel
theorem dLogic_isLow_6 : decode bLogic_isLow 6 = .ok (.bipush 6, 2) := by decide +kernel
theorem dLogic_isLow_8 : decode bLogic_isLow 8 = .ok (.if_icmp .ne 7, 3) := by decide +kernel
theorem dLogic_isLow_11 : decode bLogic_isLow 11 = .ok (.iconst 1, 1) := by decide +kernel
theorem dLogic_isLow_12 : decode bLogic_isLow 12 = .ok (.goto 4, 3) := by decide +kernel
theorem dLogic_isLow_15 : decode bLogic_isLow 15 = .ok (.iconst 0, 1) := by decide +kernel
theorem dLogic_isLow_16 : decode bLogic_isLow 16 = .ok (.ireturn, 1) := by decide +kernel
theorem dLogic_isHigh_0 : decode bLogic_isHigh 0 = .ok (.iload_n 0, 1) := by decide +kernel
theorem dLogic_isHigh_1 : decode bLogic_isHigh 1 = .ok (.iconst 3, 1) := by decide +kernel
theorem dLogic_isHigh_2 : decode bLogic_isHigh 2 = .ok (.if_icmp .eq 9, 3) := by decide +kernel
theorem dLogic_isHigh_5 : decode bLogic_isHigh 5 = .ok (.iload_n 0, 1) := by decide +kernel
theorem dLogic_isHigh_6 : decode bLogic_isHigh 6 = .ok (.bipush 7, 2) := by decide +kernel
theorem dLogic_isHigh_8 : decode bLogic_isHigh 8 = .ok (.if_icmp .ne 7, 3) := by decide +kernel
theorem dLogic_isHigh_11 : decode bLogic_isHigh 11 = .ok (.iconst 1, 1) := by decide +kernel
theorem dLogic_isHigh_12 : decode bLogic_isHigh 12 = .ok (.goto 4, 3) := by decide +kernel
theorem dLogic_isHigh_15 : decode bLogic_isHigh 15 = .ok (.iconst 0, 1) := by decide +kernel
theorem dLogic_isHigh_16 : decode bLogic_isHigh 16 = .ok (.ireturn, 1) := by decide +kernel
theorem dLogic_isClear_0 : decode bLogic_isClear 0 = .ok (.iload_n 0, 1) := by decide +kernel
theorem dLogic_isClear_1 : decode bLogic_isClear 1 = .ok (.iconst 2, 1) := by decide +kernel
theorem dLogic_isClear_2 : decode bLogic_isClear 2 = .ok (.if_icmp .eq 20, 3) := by decide +kernel
theorem dLogic_isClear_5 : decode bLogic_isClear 5 = .ok (.iload_n 0, 1) := by decide +kernel
theorem dLogic_isClear_6 : decode bLogic_isClear 6 = .ok (.iconst 3, 1) := by decide +kernel
theorem dLogic_isClear_7 : decode bLogic_isClear 7 = .ok (.if_icmp .eq 15, 3) := by decide +kernel
theorem dLogic_isClear_10 : decode bLogic_isClear 10 = .ok (.iload_n 0, 1) := by decide +kernel
theorem dLogic_isClear_11 : decode bLogic_isClear 11 = .ok (.bipush 6, 2) := by decide +kernel
theorem dLogic_isClear_13 : decode bLogic_isClear 13 = .ok (.if_icmp .eq 9, 3) := by decide +kernel
theorem dLogic_isClear_16 : decode bLogic_isClear 16 = .ok (.iload_n 0, 1) := by decide +kernel
theorem dLogic_isClear_17 : decode bLogic_isClear 17 = .ok (.bipush 7, 2) := by decide +kernel
theorem dLogic_isClear_19 : decode bLogic_isClear 19 = .ok (.if_icmp .ne 7, 3) := by decide +kernel
theorem dLogic_isClear_22 : decode bLogic_isClear 22 = .ok (.iconst 1, 1) := by decide +kernel
theorem dLogic_isClear_23 : decode bLogic_isClear 23 = .ok (.goto 4, 3) := by decide +kernel
theorem dLogic_isClear_26 : decode bLogic_isClear 26 = .ok (.iconst 0, 1) := by decide +kernel
theorem dLogic_isClear_27 : decode bLogic_isClear 27 = .ok (.ireturn, 1) := by decide +kernel
theorem dLogic_not_0 : decode bLogic_not 0 = .ok (.iload_n 0, 1) := by decide +kernel
theorem dLogic_not_1 : decode bLogic_not 1 = .ok (.ifCond .ne 7, 3) := by decide +kernel
theorem dLogic_not_4 : decode bLogic_not 4 = .ok (.iconst 0, 1) := by decide +kernel
theorem dLogic_not_5 : decode bLogic_not 5 = .ok (.goto 26, 3) := by decide +kernel
theorem dLogic_not_8 : decode bLogic_not 8 = .ok (.iload_n 0, 1) := by decide +kernel
theorem dLogic_not_9 : decode bLogic_not 9 = .ok (.invokestatic 9, 3) := by decide +kernel
theorem dLogic_not_12 : decode bLogic_not 12 = .ok (.ifCond .eq 7, 3) := by decide +kernel
theorem dLogic_not_15 : decode bLogic_not 15 = .ok (.iconst 3, 1) := by decide +kernel
theorem dLogic_not_16 : decode bLogic_not 16 = .ok (.goto 15, 3) := by decide +kernel
theorem dLogic_not_19 : decode bLogic_not 19 = .ok (.iload_n 0, 1) := by decide +kernel
theorem dLogic_not_20 : decode bLogic_not 20 = .ok (.invokestatic 15, 3) := by decide +kernel
theorem dLogic_not_23 : decode bLogic_not 23 = .ok (.ifCond .eq 7, 3) := by decide +kernel
theorem dLogic_not_26 : decode bLogic_not 26 = .ok (.iconst 2, 1) := by decide +kernel
theorem dLogic_not_27 : decode bLogic_not 27 = .ok (.goto 4, 3) := by decide +kernel
theorem dLogic_not_30 : decode bLogic_not 30 = .ok (.iconst 1, 1) := by decide +kernel
theorem dLogic_not_31 : decode bLogic_not 31 = .ok (.ireturn, 1) := by decide +kernel
theorem dLogic_and_0 : decode bLogic_and 0 = .ok (.iload_n 0, 1) := by decide +kernel
theorem dLogic_and_1 : decode bLogic_and 1 = .ok (.invokestatic 9, 3) := by decide +kernel
theorem dLogic_and_4 : decode bLogic_and 4 = .ok (.ifCond .ne 10, 3) := by decide +kernel
theorem dLogic_and_7 : decode bLogic_and 7 = .ok (.iload_n 1, 1) := by decide +kernel
theorem dLogic_and_8 : decode bLogic_and 8 = .ok (.invokestatic 9, 3) := by decide +kernel
theorem dLogic_and_11 : decode bLogic_and 11 = .ok (.ifCond .eq 5, 3) := by decide +kernel
theorem dLogic_and_14 : decode bLogic_and 14 = .ok (.iconst 2, 1) := by decide +kernel
theorem dLogic_and_15 : decode bLogic_and 15 = .ok (.ireturn, 1) := by decide +kernel
theorem dLogic_and_16 : decode bLogic_and 16 = .ok (.iload_n 0, 1) := by decide +kernel
theorem dLogic_and_17 : decode bLogic_and 17 = .ok (.ifCond .eq 7, 3) := by decide +kernel
theorem dLogic_and_20 : decode bLogic_and 20 = .ok (.iload_n 1, 1) := by decide +kernel
theorem dLogic_and_21 : decode bLogic_and 21 = .ok (.ifCond .ne 7, 3) := by decide +kernel
theorem dLogic_and_24 : decode bLogic_and 24 = .ok (.iconst 0, 1) := by decide +kernel
theorem dLogic_and_25 : decode bLogic_and 25 = .ok (.goto 22, 3) := by decide +kernel
theorem dLogic_and_28 : decode bLogic_and 28 = .ok (.iload_n 0, 1) := by decide +kernel
theorem dLogic_and_29 : decode bLogic_and 29 = .ok (.invokestatic 15, 3) := by decide +kernel
theorem dLogic_and_32 : decode bLogic_and 32 = .ok (.ifCond .eq 14, 3) := by decide +kernel
theorem dLogic_and_35 : decode bLogic_and 35 = .ok (.iload_n 1, 1) := by decide +kernel
theorem dLogic_and_36 : decode bLogic_and 36 = .ok (.invokestatic 15, 3) := by decide +kernel
theorem dLogic_and_39 : decode bLogic_and 39 = .ok (.ifCond .eq 7, 3) := by decide +kernel
theorem dLogic_and_42 : decode bLogic_and 42 = .ok (.iconst 3, 1) := by decide +kernel
theorem dLogic_and_43 : decode bLogic_and 43 = .ok (.goto 4, 3) := by decide +kernel
theorem dLogic_and_46 : decode bLogic_and 46 = .ok (.iconst 1, 1) := by decide +kernel
theorem dLogic_and_47 : decode bLogic_and 47 = .ok (.ireturn, 1) := by decide +kernel
theorem dLogic_or_0 : decode bLogic_or 0 = .ok (.iload_n 0, 1) := by decide +kernel
theorem dLogic_or_1 : decode bLogic_or 1 = .ok (.invokestatic 15, 3) := by decide +kernel
theorem dLogic_or_4 : decode bLogic_or 4 = .ok (.ifCond .ne 10, 3) := by decide +kernel
theorem dLogic_or_7 : decode bLogic_or 7 = .ok (.iload_n 1, 1) := by decide +kernel
theorem dLogic_or_8 : decode bLogic_or 8 = .ok (.invokestatic 15, 3) := by decide +kernel
theorem dLogic_or_11 : decode bLogic_or 11 = .ok (.ifCond .eq 5, 3) := by decide +kernel
theorem dLogic_or_14 : decode bLogic_or 14 = .ok (.iconst 3, 1) := by decide +kernel
theorem dLogic_or_15 : decode bLogic_or 15 = .ok (.ireturn, 1) := by decide +kernel
theorem dLogic_or_16 : decode bLogic_or 16 = .ok (.iload_n 0, 1) := by decide +kernel
theorem dLogic_or_17 : decode bLogic_or 17 = .ok (.ifCond .eq 7, 3) := by decide +kernel
theorem dLogic_or_20 : decode bLogic_or 20 = .ok (.iload_n 1, 1) := by decide +kernel
theorem dLogic_or_21 : decode bLogic_or 21 = .ok (.ifCond .ne 7, 3) := by decide +kernel
theorem dLogic_or_24 : decode bLogic_or 24 = .ok (.iconst 0, 1) := by decide +kernel
theorem dLogic_or_25 : decode bLogic_or 25 = .ok (.goto 22, 3) := by decide +kernel
theorem dLogic_or_28 : decode bLogic_or 28 = .ok (.iload_n 0, 1) := by decide +kernel
theorem dLogic_or_29 : decode bLogic_or 29 = .ok (.invokestatic 9, 3) := by decide +kernel
theorem dLogic_or_32 : decode bLogic_or 32 = .ok (.ifCond .eq 14, 3) := by decide +kernel
theorem dLogic_or_35 : decode bLogic_or 35 = .ok (.iload_n 1, 1) := by decide +kernel
theorem dLogic_or_36 : decode bLogic_or 36 = .ok (.invokestatic 9, 3) := by decide +kernel
theorem dLogic_or_39 : decode bLogic_or 39 = .ok (.ifCond .eq 7, 3) := by decide +kernel
theorem dLogic_or_42 : decode bLogic_or 42 = .ok (.iconst 2, 1) := by decide +kernel
theorem dLogic_or_43 : decode bLogic_or 43 = .ok (.goto 4, 3) := by decide +kernel
theorem dLogic_or_46 : decode bLogic_or 46 = .ok (.iconst 1, 1) := by decide +kernel
theorem dLogic_or_47 : decode bLogic_or 47 = .ok (.ireturn, 1) := by decide +kernel
theorem dLogic_other_0 : decode bLogic_other 0 = .ok (.iload_n 0, 1) := by decide +kernel
theorem dLogic_other_1 : decode bLogic_other 1 = .ok (.ifCond .eq 7, 3) := by decide +kernel
theorem dLogic_other_4 : decode bLogic_other 4 = .ok (.iload_n 1, 1) := by decide +kernel
theorem dLogic_other_5 : decode bLogic_other 5 = .ok (.ifCond .ne 5, 3) := by decide +kernel
theorem dLogic_other_8 : decode bLogic_other 8 = .ok (.iconst 0, 1) := by decide +kernel
theorem dLogic_other_9 : decode bLogic_other 9 = .ok (.ireturn, 1) := by decide +kernel
theorem dLogic_other_10 : decode bLogic_other 10 = .ok (.iload_n 0, 1) := by decide +kernel
theorem dLogic_other_11 : decode bLogic_other 11 = .ok (.invokestatic 18, 3) := by decide +kernel
theorem dLogic_other_14 : decode bLogic_other 14 = .ok (.ifCond .eq 10, 3) := by decide +kernel
theorem dLogic_other_17 : decode bLogic_other 17 = .ok (.iload_n 1, 1) := by decide +kernel
theorem dLogic_other_18 : decode bLogic_other 18 = .ok (.invokestatic 18, 3) := by decide +kernel
theorem dLogic_other_21 : decode bLogic_other 21 = .ok (.ifCond .ne 7, 3) := by decide +kernel
theorem dLogic_other_24 : decode bLogic_other 24 = .ok (.iconst 1, 1) := by decide +kernel
theorem dLogic_other_25 : decode bLogic_other 25 = .ok (.goto 19, 3) := by decide +kernel
theorem dLogic_other_28 : decode bLogic_other 28 = .ok (.iload_n 0, 1) := by decide +kernel
theorem dLogic_other_29 : decode bLogic_other 29 = .ok (.invokestatic 15, 3) := by decide +kernel
theorem dLogic_other_32 : decode bLogic_other 32 = .ok (.iload_n 1, 1) := by decide +kernel
theorem dLogic_other_33 : decode bLogic_other 33 = .ok (.invokestatic 15, 3) := by decide +kernel
theorem dLogic_other_36 : decode bLogic_other 36 = .ok (.if_icmp .eq 7, 3) := by decide +kernel
theorem dLogic_other_39 : decode bLogic_other 39 = .ok (.iconst 3, 1) := by decide +kernel
theorem dLogic_other_40 : decode bLogic_other 40 = .ok (.goto 4, 3) := by decide +kernel
theorem dLogic_other_43 : decode bLogic_other 43 = .ok (.iconst 2, 1) := by decide +kernel
theorem dLogic_other_44 : decode bLogic_other 44 = .ok (.ireturn, 1) := by decide +kernel
theorem dLogic_ofSigns_0 : decode bLogic_ofSigns 0 = .ok (.iload_n 0, 1) := by decide +kernel
theorem dLogic_ofSigns_1 : decode bLogic_ofSigns 1 = .ok (.tableswitch 71 0 4 #[35, 41, 47, 56, 65], 35) := by decide +kernel
theorem dLogic_ofSigns_36 : decode bLogic_ofSigns 36 = .ok (.iload_n 1, 1) := by decide +kernel
theorem dLogic_ofSigns_37 : decode bLogic_ofSigns 37 = .ok (.iload_n 2, 1) := by decide +kernel
theorem dLogic_ofSigns_38 : decode bLogic_ofSigns 38 = .ok (.invokestatic 21, 3) := by decide +kernel
theorem dLogic_ofSigns_41 : decode bLogic_ofSigns 41 = .ok (.ireturn, 1) := by decide +kernel
theorem dLogic_ofSigns_42 : decode bLogic_ofSigns 42 = .ok (.iload_n 1, 1) := by decide +kernel
theorem dLogic_ofSigns_43 : decode bLogic_ofSigns 43 = .ok (.iload_n 2, 1) := by decide +kernel
theorem dLogic_ofSigns_44 : decode bLogic_ofSigns 44 = .ok (.invokestatic 25, 3) := by decide +kernel
theorem dLogic_ofSigns_47 : decode bLogic_ofSigns 47 = .ok (.ireturn, 1) := by decide +kernel
theorem dLogic_ofSigns_48 : decode bLogic_ofSigns 48 = .ok (.iload_n 1, 1) := by decide +kernel
theorem dLogic_ofSigns_49 : decode bLogic_ofSigns 49 = .ok (.iload_n 2, 1) := by decide +kernel
theorem dLogic_ofSigns_50 : decode bLogic_ofSigns 50 = .ok (.invokestatic 21, 3) := by decide +kernel
theorem dLogic_ofSigns_53 : decode bLogic_ofSigns 53 = .ok (.invokestatic 28, 3) := by decide +kernel
theorem dLogic_ofSigns_56 : decode bLogic_ofSigns 56 = .ok (.ireturn, 1) := by decide +kernel
theorem dLogic_ofSigns_57 : decode bLogic_ofSigns 57 = .ok (.iload_n 1, 1) := by decide +kernel
theorem dLogic_ofSigns_58 : decode bLogic_ofSigns 58 = .ok (.iload_n 2, 1) := by decide +kernel
theorem dLogic_ofSigns_59 : decode bLogic_ofSigns 59 = .ok (.invokestatic 25, 3) := by decide +kernel
theorem dLogic_ofSigns_62 : decode bLogic_ofSigns 62 = .ok (.invokestatic 28, 3) := by decide +kernel
theorem dLogic_ofSigns_65 : decode bLogic_ofSigns 65 = .ok (.ireturn, 1) := by decide +kernel
theorem dLogic_ofSigns_66 : decode bLogic_ofSigns 66 = .ok (.iload_n 1, 1) := by decide +kernel
theorem dLogic_ofSigns_67 : decode bLogic_ofSigns 67 = .ok (.iload_n 2, 1) := by decide +kernel
theorem dLogic_ofSigns_68 : decode bLogic_ofSigns 68 = .ok (.invokestatic 32, 3) := by decide +kernel
theorem dLogic_ofSigns_71 : decode bLogic_ofSigns 71 = .ok (.ireturn, 1) := by decide +kernel
theorem dLogic_ofSigns_72 : decode bLogic_ofSigns 72 = .ok (.iload_n 1, 1) := by decide +kernel
theorem dLogic_ofSigns_73 : decode bLogic_ofSigns 73 = .ok (.iload_n 2, 1) := by decide +kernel
theorem dLogic_ofSigns_74 : decode bLogic_ofSigns 74 = .ok (.invokestatic 32, 3) := by decide +kernel
theorem dLogic_ofSigns_77 : decode bLogic_ofSigns 77 = .ok (.invokestatic 28, 3) := by decide +kernel
theorem dLogic_ofSigns_80 : decode bLogic_ofSigns 80 = .ok (.ireturn, 1) := by decide +kernel
theorem dLogic_ofTruths_0 : decode bLogic_ofTruths 0 = .ok (.iload_n 0, 1) := by decide +kernel
theorem dLogic_ofTruths_1 : decode bLogic_ofTruths 1 = .ok (.tableswitch 102 0 4 #[35, 49, 63, 77, 91], 35) := by decide +kernel
theorem dLogic_ofTruths_36 : decode bLogic_ofTruths 36 = .ok (.iload_n 1, 1) := by decide +kernel
theorem dLogic_ofTruths_37 : decode bLogic_ofTruths 37 = .ok (.ifCond .eq 11, 3) := by decide +kernel
theorem dLogic_ofTruths_40 : decode bLogic_ofTruths 40 = .ok (.iload_n 2, 1) := by decide +kernel
theorem dLogic_ofTruths_41 : decode bLogic_ofTruths 41 = .ok (.ifCond .eq 7, 3) := by decide +kernel
theorem dLogic_ofTruths_44 : decode bLogic_ofTruths 44 = .ok (.iconst 1, 1) := by decide +kernel
theorem dLogic_ofTruths_45 : decode bLogic_ofTruths 45 = .ok (.goto 4, 3) := by decide +kernel
theorem dLogic_ofTruths_48 : decode bLogic_ofTruths 48 = .ok (.iconst 0, 1) := by decide +kernel
theorem dLogic_ofTruths_49 : decode bLogic_ofTruths 49 = .ok (.ireturn, 1) := by decide +kernel
theorem dLogic_ofTruths_50 : decode bLogic_ofTruths 50 = .ok (.iload_n 1, 1) := by decide +kernel
theorem dLogic_ofTruths_51 : decode bLogic_ofTruths 51 = .ok (.ifCond .ne 7, 3) := by decide +kernel
theorem dLogic_ofTruths_54 : decode bLogic_ofTruths 54 = .ok (.iload_n 2, 1) := by decide +kernel
theorem dLogic_ofTruths_55 : decode bLogic_ofTruths 55 = .ok (.ifCond .eq 7, 3) := by decide +kernel
theorem dLogic_ofTruths_58 : decode bLogic_ofTruths 58 = .ok (.iconst 1, 1) := by decide +kernel
theorem dLogic_ofTruths_59 : decode bLogic_ofTruths 59 = .ok (.goto 4, 3) := by decide +kernel
theorem dLogic_ofTruths_62 : decode bLogic_ofTruths 62 = .ok (.iconst 0, 1) := by decide +kernel
theorem dLogic_ofTruths_63 : decode bLogic_ofTruths 63 = .ok (.ireturn, 1) := by decide +kernel
theorem dLogic_ofTruths_64 : decode bLogic_ofTruths 64 = .ok (.iload_n 1, 1) := by decide +kernel
theorem dLogic_ofTruths_65 : decode bLogic_ofTruths 65 = .ok (.ifCond .eq 7, 3) := by decide +kernel
theorem dLogic_ofTruths_68 : decode bLogic_ofTruths 68 = .ok (.iload_n 2, 1) := by decide +kernel
theorem dLogic_ofTruths_69 : decode bLogic_ofTruths 69 = .ok (.ifCond .ne 7, 3) := by decide +kernel
theorem dLogic_ofTruths_72 : decode bLogic_ofTruths 72 = .ok (.iconst 1, 1) := by decide +kernel
theorem dLogic_ofTruths_73 : decode bLogic_ofTruths 73 = .ok (.goto 4, 3) := by decide +kernel
theorem dLogic_ofTruths_76 : decode bLogic_ofTruths 76 = .ok (.iconst 0, 1) := by decide +kernel
theorem dLogic_ofTruths_77 : decode bLogic_ofTruths 77 = .ok (.ireturn, 1) := by decide +kernel
theorem dLogic_ofTruths_78 : decode bLogic_ofTruths 78 = .ok (.iload_n 1, 1) := by decide +kernel
theorem dLogic_ofTruths_79 : decode bLogic_ofTruths 79 = .ok (.ifCond .ne 11, 3) := by decide +kernel
theorem dLogic_ofTruths_82 : decode bLogic_ofTruths 82 = .ok (.iload_n 2, 1) := by decide +kernel
theorem dLogic_ofTruths_83 : decode bLogic_ofTruths 83 = .ok (.ifCond .ne 7, 3) := by decide +kernel
theorem dLogic_ofTruths_86 : decode bLogic_ofTruths 86 = .ok (.iconst 1, 1) := by decide +kernel
theorem dLogic_ofTruths_87 : decode bLogic_ofTruths 87 = .ok (.goto 4, 3) := by decide +kernel
theorem dLogic_ofTruths_90 : decode bLogic_ofTruths 90 = .ok (.iconst 0, 1) := by decide +kernel
theorem dLogic_ofTruths_91 : decode bLogic_ofTruths 91 = .ok (.ireturn, 1) := by decide +kernel
theorem dLogic_ofTruths_92 : decode bLogic_ofTruths 92 = .ok (.iload_n 1, 1) := by decide +kernel
theorem dLogic_ofTruths_93 : decode bLogic_ofTruths 93 = .ok (.iload_n 2, 1) := by decide +kernel
theorem dLogic_ofTruths_94 : decode bLogic_ofTruths 94 = .ok (.if_icmp .eq 7, 3) := by decide +kernel
theorem dLogic_ofTruths_97 : decode bLogic_ofTruths 97 = .ok (.iconst 1, 1) := by decide +kernel
theorem dLogic_ofTruths_98 : decode bLogic_ofTruths 98 = .ok (.goto 4, 3) := by decide +kernel
theorem dLogic_ofTruths_101 : decode bLogic_ofTruths 101 = .ok (.iconst 0, 1) := by decide +kernel
theorem dLogic_ofTruths_102 : decode bLogic_ofTruths 102 = .ok (.ireturn, 1) := by decide +kernel
theorem dLogic_ofTruths_103 : decode bLogic_ofTruths 103 = .ok (.iload_n 1, 1) := by decide +kernel
theorem dLogic_ofTruths_104 : decode bLogic_ofTruths 104 = .ok (.iload_n 2, 1) := by decide +kernel
theorem dLogic_ofTruths_105 : decode bLogic_ofTruths 105 = .ok (.if_icmp .ne 7, 3) := by decide +kernel
theorem dLogic_ofTruths_108 : decode bLogic_ofTruths 108 = .ok (.iconst 1, 1) := by decide +kernel
theorem dLogic_ofTruths_109 : decode bLogic_ofTruths 109 = .ok (.goto 4, 3) := by decide +kernel
theorem dLogic_ofTruths_112 : decode bLogic_ofTruths 112 = .ok (.iconst 0, 1) := by decide +kernel
theorem dLogic_ofTruths_113 : decode bLogic_ofTruths 113 = .ok (.ireturn, 1) := by decide +kernel
