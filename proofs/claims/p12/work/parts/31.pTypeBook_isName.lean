theorem qw_b544f0cdd0 : (Cond.methodLink R_Looker 195 yLooker_elementsOf) ∈ bs_W0 := bs_in (in_tables_1_4 (List.mem_of_getElem? (i := 217) rfl)) rfl
theorem qw_62eac39618 : (Cond.constantLong R_Looker 199 64) ∈ bs_W0 := bs_in (in_tables_1_4 (List.mem_of_getElem? (i := 220) rfl)) rfl
theorem qw_5a22fbae04 : (Cond.methodLink R_Operators 144 yjMath_floorMod) ∈ bs_W0 := bs_in (in_tables_1_4 (List.mem_of_getElem? (i := 17) rfl)) rfl
theorem qw_adbe8dbe65 : (Cond.fieldLink R_Trees 24 R_Trees "size" "I") ∈ bs_W0 := bs_in (in_tables_1_1 (List.mem_of_getElem? (i := 42) rfl)) rfl
theorem qw_171adcdf9f : (Cond.fieldLink R_Names 33 R_Names "size" "I") ∈ bs_W0 := bs_in (in_tables_1_1 (List.mem_of_getElem? (i := 106) rfl)) rfl
theorem qw_f9da65449d : (Cond.fieldLink R_Types 24 R_Types "size" "I") ∈ bs_W0 := bs_in (in_tables_1_1 (List.mem_of_getElem? (i := 145) rfl)) rfl
theorem qw_1a9a6fdaf2 : (Cond.fieldLink R_Objects 30 R_Objects "size" "I") ∈ bs_W0 := bs_in (in_tables_1_1 (List.mem_of_getElem? (i := 181) rfl)) rfl
theorem qw_ac7df03aa7 : (Cond.fieldLink R_Looks 9 R_Looks "classes" "[I") ∈ bs_W0 := bs_in (in_tables_1_1 (List.mem_of_getElem? (i := 202) rfl)) rfl
theorem qw_05e9c8a29d : (Cond.fieldLink R_Rows 17 R_Rows "words" "[J") ∈ bs_W0 := bs_in (in_tables_1_1 (List.mem_of_getElem? (i := 171) rfl)) rfl
theorem qw_42d433c8d4 : (Cond.methodLink R_Trees 31 yTrees_has) ∈ bs_W0 := bs_in (in_tables_1_2 (List.mem_of_getElem? (i := 195) rfl)) rfl
theorem qw_ffd9ddfb57 : (Cond.fieldLink R_Trees 9 R_Trees "kinds" "[I") ∈ bs_W0 := bs_in (in_tables_1_1 (List.mem_of_getElem? (i := 38) rfl)) rfl
theorem qw_fdd50f5077 : (Cond.fieldLink R_Trees 15 R_Trees "values" "[I") ∈ bs_W0 := bs_in (in_tables_1_1 (List.mem_of_getElem? (i := 39) rfl)) rfl
theorem qw_8f9013a759 : (Cond.methodLink R_Names 56 yNames_has) ∈ bs_W0 := bs_in (in_tables_1_3 (List.mem_of_getElem? (i := 77) rfl)) rfl
theorem qw_5903ecb25d : (Cond.fieldLink R_Names 15 R_Names "sorts" "[I") ∈ bs_W0 := bs_in (in_tables_1_1 (List.mem_of_getElem? (i := 100) rfl)) rfl
theorem qw_ee1ba38ad0 : (Cond.fieldLink R_Names 18 R_Names "numbers" "[I") ∈ bs_W0 := bs_in (in_tables_1_1 (List.mem_of_getElem? (i := 101) rfl)) rfl
theorem qw_1a22e5f505 : (Cond.fieldLink R_Names 21 R_Names "parts" "[I") ∈ bs_W0 := bs_in (in_tables_1_1 (List.mem_of_getElem? (i := 102) rfl)) rfl
set_option maxHeartbeats 4000000 in
set_option maxRecDepth 100000 in
theorem s_TypeBook_isName (l : Launch) (γ : gE) (P : Heap → Prop) (x0 : Int32)  : PU l yTypeBook_isName bTypeBook_isName 1 (some .boolean) 0 0 [.int x0] γ P (vp_Si (fun v : Int32 => (v = 1 ∧ GNm x0) ∨ (v = 0 ∧ ¬ GNm x0))) := by
  refine pu_openZ (by decide) (Nat.le_of_ble_eq_true rfl) ?_
  intro p e s m args below meth c ls Q S hC hI hE hl
  obtain ⟨hx, hb, hml, hown, hW⟩ := id S
  have hl : lv_has ls 1 [(0, .int x0)] := hl
  refine lv_iload_n hx hb dTypeBook_isName_0 rfl (lv_at hl 0 rfl) ?_
  refine lv_if_lt (tgt := 15) hx hb dTypeBook_isName_1 (by decide) (fun c3 => ?_) (fun c3 => ?_)
  · refine lv_iconst (v := 0) hx hb dTypeBook_isName_15 (by decide) ?_
    exact hE _ _ _ rfl (by first | exact Or.inl ⟨rfl, by assumption, by assumption⟩ | exact Or.inr ⟨rfl, fun h9 => h9.1 (by assumption)⟩ | exact Or.inr ⟨rfl, fun h9 => h9.2 (by assumption)⟩) dTypeBook_isName_16
  · refine lv_iload_n hx hb dTypeBook_isName_4 rfl (lv_at hl 0 rfl) ?_
    refine lv_sipush (v := 9999) hx hb dTypeBook_isName_5 (by decide) ?_
    refine lv_icmp_gt (tgt := 15) hx hb dTypeBook_isName_8 (by decide) (fun c4 => ?_) (fun c4 => ?_)
    · refine lv_iconst (v := 0) hx hb dTypeBook_isName_15 (by decide) ?_
      exact hE _ _ _ rfl (by first | exact Or.inl ⟨rfl, by assumption, by assumption⟩ | exact Or.inr ⟨rfl, fun h9 => h9.1 (by assumption)⟩ | exact Or.inr ⟨rfl, fun h9 => h9.2 (by assumption)⟩) dTypeBook_isName_16
    · refine lv_iconst (v := 1) hx hb dTypeBook_isName_11 (by decide) ?_
      refine lv_goto (tgt := 16) hx hb dTypeBook_isName_12 (by decide) ?_
      exact hE _ _ _ rfl (by first | exact Or.inl ⟨rfl, by assumption, by assumption⟩ | exact Or.inr ⟨rfl, fun h9 => h9.1 (by assumption)⟩ | exact Or.inr ⟨rfl, fun h9 => h9.2 (by assumption)⟩) dTypeBook_isName_16

set_option maxHeartbeats 4000000 in
set_option maxRecDepth 100000 in
theorem s_Looker_earlier (l : Launch) (γ : gE) (P : Heap → Prop) (x0 : Int32) (x1 : Int32)  : PU l yLooker_earlier bLooker_earlier 2 (some .int) 0 0 [.int x0, .int x1] γ P (vp_Si (fun v : Int32 => True)) := by
  refine pu_openI (by decide) (Nat.le_of_ble_eq_true rfl) ?_
  intro p e s m args below meth c ls Q S hC hI hE hl
  obtain ⟨hx, hb, hml, hown, hW⟩ := id S
  have hl : lv_has ls 2 [(0, .int x0), (1, .int x1)] := hl
  have J8 : ∀ (ls : Array Slot)  (i0 : Int32) (i1 : Int32), lv_has ls 2 [(0, .int i0), (1, .int i1)] → W p l e (bs_rm 0 0 0 0) s m args below meth c s.heap [] 0 0 Q (F0 m 8 ls []) := by
    intro ls  i0 i1  hl
    refine lv_iload_n hx hb dLooker_earlier_8 rfl (lv_at hl 0 rfl) ?_
    refine lv_if_ne (tgt := 16) hx hb dLooker_earlier_9 (by decide) (fun c7 => ?_) (fun c7 => ?_)
    · refine lv_iload_n hx hb dLooker_earlier_16 rfl (lv_at hl 0 rfl) ?_
      exact hE _ _ _ trivial dLooker_earlier_17
    · refine lv_iload_n hx hb dLooker_earlier_12 rfl (lv_at hl 1 rfl) ?_
      refine lv_goto (tgt := 17) hx hb dLooker_earlier_13 (by decide) ?_
      exact hE _ _ _ trivial dLooker_earlier_17
  refine lv_iload_n hx hb dLooker_earlier_0 rfl (lv_at hl 0 rfl) ?_
  refine lv_if_eq (tgt := 8) hx hb dLooker_earlier_1 (by decide) (fun c8 => ?_) (fun c8 => ?_)
  · exact J8 ls x0 x1 (lv_sub hl [0, 1] rfl)
  · refine lv_iload_n hx hb dLooker_earlier_4 rfl (lv_at hl 1 rfl) ?_
    refine lv_if_ne (tgt := 18) hx hb dLooker_earlier_5 (by decide) (fun c9 => ?_) (fun c9 => ?_)
    · refine lv_iload_n hx hb dLooker_earlier_18 rfl (lv_at hl 0 rfl) ?_
      refine lv_bipush (v := 11) hx hb dLooker_earlier_19 (by decide) ?_
      refine lv_irem hx hb dLooker_earlier_21 (by decide) ?_
      refine lv_topi (fun v10 ev10 => ?_)
      refine lv_iload_n hx hb dLooker_earlier_22 rfl (lv_at hl 1 rfl) ?_
      refine lv_bipush (v := 11) hx hb dLooker_earlier_23 (by decide) ?_
      refine lv_irem hx hb dLooker_earlier_25 (by decide) ?_
      refine lv_topi (fun v11 ev11 => ?_)
      refine lv_icmp_gt (tgt := 33) hx hb dLooker_earlier_26 (by decide) (fun c12 => ?_) (fun c12 => ?_)
      · refine lv_iload_n hx hb dLooker_earlier_33 rfl (lv_at hl 1 rfl) ?_
        exact hE _ _ _ trivial dLooker_earlier_34
      · refine lv_iload_n hx hb dLooker_earlier_29 rfl (lv_at hl 0 rfl) ?_
        refine lv_goto (tgt := 34) hx hb dLooker_earlier_30 (by decide) ?_
        exact hE _ _ _ trivial dLooker_earlier_34
    · exact J8 ls x0 x1 (lv_sub hl [0, 1] rfl)

set_option maxHeartbeats 4000000 in
set_option maxRecDepth 100000 in
theorem s_Looker_elementsOf (l : Launch) (γ : gE) (P : Heap → Prop) (x0 : Int32) (x1 : Int64) (x3 : Int64)  : PU l yLooker_elementsOf bLooker_elementsOf 5 (some .long) 0 0 [.int x0, .long x1, .long x3] γ P (vp_Sl (fun v : Int64 => True)) := by
  refine pu_openJ (by decide) (Nat.le_of_ble_eq_true rfl) ?_
  intro p e s m args below meth c ls Q S hC hI hE hl
  obtain ⟨hx, hb, hml, hown, hW⟩ := id S
  have hl : lv_has ls 5 [(0, .int x0), (1, .long x1), (3, .long x3)] := hl
  refine lv_iload_n hx hb dLooker_elementsOf_0 rfl (lv_at hl 0 rfl) ?_
  refine lv_bipush (v := 12) hx hb dLooker_elementsOf_1 (by decide) ?_
  refine lv_icmp_ne (tgt := 14) hx hb dLooker_elementsOf_3 (by decide) (fun c6 => ?_) (fun c6 => ?_)
  · refine lv_lload_n hx hb dLooker_elementsOf_14 rfl (lv_at hl 1 rfl) ?_
    refine lv_lload_n hx hb dLooker_elementsOf_15 rfl (lv_at hl 2 rfl) ?_
    refine lv_lsub hx hb dLooker_elementsOf_16 ?_
    refine lv_topl (fun v7 ev7 => ?_)
    refine lv_lconst (v := 1) hx hb dLooker_elementsOf_17 (by decide) ?_
    refine lv_ladd hx hb dLooker_elementsOf_18 ?_
    refine lv_topl (fun v8 ev8 => ?_)
    exact hE _ _ _ trivial dLooker_elementsOf_19
  · refine lv_lload_n hx hb dLooker_elementsOf_6 rfl (lv_at hl 2 rfl) ?_
    refine lv_lload_n hx hb dLooker_elementsOf_7 rfl (lv_at hl 1 rfl) ?_
    refine lv_lsub hx hb dLooker_elementsOf_8 ?_
    refine lv_topl (fun v9 ev9 => ?_)
    refine lv_lconst (v := 1) hx hb dLooker_elementsOf_9 (by decide) ?_
    refine lv_ladd hx hb dLooker_elementsOf_10 ?_
    refine lv_topl (fun v10 ev10 => ?_)
    refine lv_goto (tgt := 19) hx hb dLooker_elementsOf_11 (by decide) ?_
    exact hE _ _ _ trivial dLooker_elementsOf_19

set_option maxHeartbeats 4000000 in
set_option maxRecDepth 100000 in
theorem s_Looker_boundsFault (l : Launch) (γ : gE) (P : Heap → Prop) (x0 : Int32) (x1 : Int32) (x2 : Int32)  : PU l yLooker_boundsFault bLooker_boundsFault 5 (some .int) 1 24 [.int x0, .int x1, .int x2] γ P (vp_Si (fun v : Int32 => True)) := by
  refine pu_openI (by decide) (Nat.le_of_ble_eq_true rfl) ?_
  intro p e s m args below meth c ls Q S hC hI hE hl
  obtain ⟨hx, hb, hml, hown, hW⟩ := id S
  have hl : lv_has ls 5 [(0, .int x0), (1, .int x1), (2, .int x2)] := hl
  have J51 : ∀ (ls : Array Slot)  (i0 : Int32) (i1 : Int32) (i2 : Int32) (j3 : Int64), lv_has ls 5 [(0, .int i0), (1, .int i1), (2, .int i2), (3, .long j3)] → W p l e (bs_rm 1 0 0 24) s m args below meth c s.heap [] 0 0 Q (F0 m 51 ls []) := by
    intro ls  i0 i1 i2 j3  hl
    refine lv_bipush (v := 6) hx hb dLooker_boundsFault_51 (by decide) ?_
    refine lv_goto (tgt := 57) hx hb dLooker_boundsFault_53 (by decide) ?_
    exact hE _ _ _ trivial dLooker_boundsFault_57
  refine lv_iload_n hx hb dLooker_boundsFault_0 rfl (lv_at hl 0 rfl) ?_
  refine lv_bipush (v := 11) hx hb dLooker_boundsFault_1 (by decide) ?_
  refine lv_icmp_ne (tgt := 18) hx hb dLooker_boundsFault_3 (by decide) (fun c12 => ?_) (fun c12 => ?_)
  · refine lv_iload_n hx hb dLooker_boundsFault_18 rfl (lv_at hl 0 rfl) ?_
    refine lv_iload_n hx hb dLooker_boundsFault_19 rfl (lv_at hl 1 rfl) ?_
    refine lv_i2l hx hb dLooker_boundsFault_20 rfl ?_
    refine lv_topl (fun v13 ev13 => ?_)
    refine lv_iload_n hx hb dLooker_boundsFault_21 rfl (lv_at hl 2 rfl) ?_
    refine lv_i2l hx hb dLooker_boundsFault_22 rfl ?_
    refine lv_topl (fun v14 ev14 => ?_)
    refine pu_Sl (rest := []) S hC (s_Looker_elementsOf l γ P x0 v13 v14) meLooker_elementsOf qw_b544f0cdd0 ⟨Nat.le_of_ble_eq_true rfl, Nat.le_of_ble_eq_true rfl⟩ hI rfl hl.1 rfl (Nat.le_of_ble_eq_true rfl) dLooker_boundsFault_23 ⟨Nat.zero_le _, Nat.zero_le _⟩ (fun r15 hr15 => ?_)
    refine lv_lstore_n (lv' := [(3, .long r15), (0, .int x0), (1, .int x1), (2, .int x2)]) hx hb dLooker_boundsFault_26 rfl hl (by decide) rfl (fun ls hl => ?_)
    refine lv_lload_n hx hb dLooker_boundsFault_27 rfl (lv_at hl 0 rfl) ?_
    refine lv_ldc2 (v := 64) hx hb hown (hW _ qw_62eac39618) dLooker_boundsFault_28 ?_
    refine W.lcmp hx hb dLooker_boundsFault_31 ?_
    refine lv_topi (fun v16 ev16 => ?_)
    refine lv_if_le (tgt := 37) hx hb dLooker_boundsFault_32 (by decide) (fun c17 => ?_) (fun c17 => ?_)
    · refine lv_iload_n hx hb dLooker_boundsFault_37 rfl (lv_at hl 2 rfl) ?_
      refine lv_if_lt (tgt := 51) hx hb dLooker_boundsFault_38 (by decide) (fun c18 => ?_) (fun c18 => ?_)
      · exact J51 ls x0 x1 x2 r15 (lv_sub hl [1, 2, 3, 0] rfl)
      · refine lv_iload_n hx hb dLooker_boundsFault_41 rfl (lv_at hl 3 rfl) ?_
        refine lv_if_lt (tgt := 51) hx hb dLooker_boundsFault_42 (by decide) (fun c19 => ?_) (fun c19 => ?_)
        · exact J51 ls x0 x1 x2 r15 (lv_sub hl [1, 2, 3, 0] rfl)
        · refine lv_lload_n hx hb dLooker_boundsFault_45 rfl (lv_at hl 0 rfl) ?_
          refine lv_lconst (v := 1) hx hb dLooker_boundsFault_46 (by decide) ?_
          refine W.lcmp hx hb dLooker_boundsFault_47 ?_
          refine lv_topi (fun v20 ev20 => ?_)
          refine lv_if_ge (tgt := 56) hx hb dLooker_boundsFault_48 (by decide) (fun c21 => ?_) (fun c21 => ?_)
          · refine lv_iconst (v := 0) hx hb dLooker_boundsFault_56 (by decide) ?_
            exact hE _ _ _ trivial dLooker_boundsFault_57
          · exact J51 ls x0 x1 x2 r15 (lv_sub hl [1, 2, 3, 0] rfl)
    · refine lv_iconst (v := 4) hx hb dLooker_boundsFault_35 (by decide) ?_
      exact hE _ _ _ trivial dLooker_boundsFault_36
  · refine lv_iload_n hx hb dLooker_boundsFault_6 rfl (lv_at hl 1 rfl) ?_
    refine lv_iload_n hx hb dLooker_boundsFault_7 rfl (lv_at hl 2 rfl) ?_
    refine lv_icmp_le (tgt := 16) hx hb dLooker_boundsFault_8 (by decide) (fun c22 => ?_) (fun c22 => ?_)
    · refine lv_iconst (v := 0) hx hb dLooker_boundsFault_16 (by decide) ?_
      exact hE _ _ _ trivial dLooker_boundsFault_17
    · refine lv_bipush (v := 8) hx hb dLooker_boundsFault_11 (by decide) ?_
      refine lv_goto (tgt := 17) hx hb dLooker_boundsFault_13 (by decide) ?_
      exact hE _ _ _ trivial dLooker_boundsFault_17

set_option maxHeartbeats 4000000 in
set_option maxRecDepth 100000 in
theorem s_Operators_divided (l : Launch) (γ : gE) (P : Heap → Prop) (x0 : Int32) (x1 : Int64) (x3 : Int64)  : PU l yOperators_divided bOperators_divided 5 (some .long) 1 25 [.int x0, .long x1, .long x3] γ P (vp_Sl (fun v : Int64 => True)) := by
  refine pu_openJ (by decide) (Nat.le_of_ble_eq_true rfl) ?_
  intro p e s m args below meth c ls Q S hC hI hE hl
  obtain ⟨hx, hb, hml, hown, hW⟩ := id S
  have hl : lv_has ls 5 [(0, .int x0), (1, .long x1), (3, .long x3)] := hl
  refine lv_lload_n hx hb dOperators_divided_0 rfl (lv_at hl 2 rfl) ?_
  refine lv_lconst (v := 0) hx hb dOperators_divided_1 (by decide) ?_
  refine W.lcmp hx hb dOperators_divided_2 ?_
  refine lv_topi (fun v8 ev8 => ?_)
  refine lv_if_ne (tgt := 8) hx hb dOperators_divided_3 (by decide) (fun c9 => ?_) (fun c9 => ?_)
  · refine lv_iload_n hx hb dOperators_divided_8 rfl (lv_at hl 0 rfl) ?_
    refine lv_bipush (v := 16) hx hb dOperators_divided_9 (by decide) ?_
    refine lv_icmp_ne (tgt := 20) hx hb dOperators_divided_11 (by decide) (fun c10 => ?_) (fun c10 => ?_)
    · refine lv_iload_n hx hb dOperators_divided_20 rfl (lv_at hl 0 rfl) ?_
      refine lv_bipush (v := 17) hx hb dOperators_divided_21 (by decide) ?_
      refine lv_icmp_ne (tgt := 34) hx hb dOperators_divided_23 (by decide) (fun c11 => ?_) (fun c11 => ?_)
      · refine lv_lload_n hx hb dOperators_divided_34 rfl (lv_at hl 1 rfl) ?_
        refine lv_lload_n hx hb dOperators_divided_35 rfl (lv_at hl 2 rfl) ?_
        refine lv_lrem hx hb dOperators_divided_36 (lc_nz (by assumption) (by assumption)) ?_
        refine lv_topl (fun v12 ev12 => ?_)
        exact hE _ _ _ trivial dOperators_divided_37
      · refine lv_lload_n hx hb dOperators_divided_26 rfl (lv_at hl 1 rfl) ?_
        refine lv_lload_n hx hb dOperators_divided_27 rfl (lv_at hl 2 rfl) ?_
        refine pu_Sl (rest := []) S hC (s_jMath_floorMod l γ P x1 x3 (lc_nz (by assumption) (by assumption))) mejMath_floorMod qw_5a22fbae04 ⟨Nat.le_of_ble_eq_true rfl, Nat.le_of_ble_eq_true rfl⟩ hI rfl hl.1 rfl (Nat.le_of_ble_eq_true rfl) dOperators_divided_28 ⟨Nat.zero_le _, Nat.zero_le _⟩ (fun r13 hr13 => ?_)
        refine lv_goto (tgt := 37) hx hb dOperators_divided_31 (by decide) ?_
        exact hE _ _ _ trivial dOperators_divided_37
    · refine lv_lload_n hx hb dOperators_divided_14 rfl (lv_at hl 1 rfl) ?_
      refine lv_lload_n hx hb dOperators_divided_15 rfl (lv_at hl 2 rfl) ?_
      refine lv_ldiv hx hb dOperators_divided_16 (lc_nz (by assumption) (by assumption)) ?_
      refine lv_topl (fun v14 ev14 => ?_)
      refine lv_goto (tgt := 37) hx hb dOperators_divided_17 (by decide) ?_
      exact hE _ _ _ trivial dOperators_divided_37
  · refine lv_lconst (v := 0) hx hb dOperators_divided_6 (by decide) ?_
    exact hE _ _ _ trivial dOperators_divided_7

set_option maxHeartbeats 4000000 in
set_option maxRecDepth 100000 in
theorem c_Trees_has (l : Launch) (γ : gE) (Z : Nat → Prop) (a N rt L : Nat) (x1 : Int32)  : PU l yTrees_has bTrees_has 2 (some .boolean) 0 0 [.ref a, .int x1] γ (cmp γ (fTrees γ a N rt L) Z) (vp_Si (fun v : Int32 => v = 0 ∨ ∃ j, j < N ∧ x1 = nI j)) := by
  refine pu_openZ (by decide) (Nat.le_of_ble_eq_true rfl) ?_
  intro p e s m args below meth c ls Q S hC hI hE hl
  obtain ⟨hx, hb, hml, hown, hW⟩ := id S
  obtain ⟨ws, ⟨b0, b1, b2, b3, f0, f1, f2, f3, rfl, h1, h2, h3, h4, h5, h6⟩, hP, hD⟩ := id hI
  have hP : va_P γ.1 vwCl [(a, .inr (1, [.ref b0, .ref b1, .ref b2, .ref b3, .int (nI N), .int (nI rt)])), (b0, .inl (γ.2.1, L, .inl f0)), (b1, .inl (γ.2.1, L, .inl f1)), (b2, .inl (γ.2.1, L, .inl f2)), (b3, .inl (γ.2.1, L, .inl f3))] s.heap := hP
  have hl : lv_has ls 2 [(0, .ref a), (1, .int x1)] := hl
  refine lv_iload_n hx hb dTrees_has_0 rfl (lv_at hl 1 rfl) ?_
  refine lv_if_lt (tgt := 16) hx hb dTrees_has_1 (by decide) (fun c4 => ?_) (fun c4 => ?_)
  · refine lv_iconst (v := 0) hx hb dTrees_has_16 (by decide) ?_
    exact hE _ _ _ rfl (by subst_vars; first | exact Or.inl rfl | exact Or.inr (has_ok (by assumption) (by assumption) (by omega))) dTrees_has_17
  · refine lv_iload_n hx hb dTrees_has_4 rfl (lv_at hl 1 rfl) ?_
    refine lv_aload_n hx hb dTrees_has_5 rfl (lv_at hl 0 rfl) ?_
    refine va_get (D := γ.1) (ci := 1) (v := .int (nI N)) (C := R_Trees) (T := T_Trees) (N := 6) (Ts := bs_W0) hx hb hW in_Trees hown hC.1 hP 0 rfl rfl 4 (by decide) (hW _ qw_adbe8dbe65) (fun _ h9 => h9) rfl dTrees_has_6 ?_
    refine lv_topi (fun v5 ev5 => ?_)
    refine lv_icmp_ge (tgt := 16) hx hb dTrees_has_9 (by decide) (fun c6 => ?_) (fun c6 => ?_)
    · refine lv_iconst (v := 0) hx hb dTrees_has_16 (by decide) ?_
      exact hE _ _ _ rfl (by subst_vars; first | exact Or.inl rfl | exact Or.inr (has_ok (by assumption) (by assumption) (by omega))) dTrees_has_17
    · refine lv_iconst (v := 1) hx hb dTrees_has_12 (by decide) ?_
      refine lv_goto (tgt := 17) hx hb dTrees_has_13 (by decide) ?_
      exact hE _ _ _ rfl (by subst_vars; first | exact Or.inl rfl | exact Or.inr (has_ok (by assumption) (by assumption) (by omega))) dTrees_has_17
theorem k1_Trees_has (l : Launch) (γ : gE) (A : Nat → Prop) (κ : Nat → Nat) (x1 : Int32)  : PU l yTrees_has bTrees_has 2 (some .boolean) 0 0 [.ref (γ.2.2.2 1), .int x1] γ (INV γ A κ) (vp_Si (fun v : Int32 => v = 0 ∨ ∃ j, j < (κ 0) ∧ x1 = nI j)) :=
  pu_up 2 (by decide) (by decide) (fun Z => c_Trees_has l γ Z (γ.2.2.2 1) (κ 0) (κ 1) (κ 11) x1)

set_option maxHeartbeats 4000000 in
set_option maxRecDepth 100000 in
theorem c_Names_has (l : Launch) (γ : gE) (Z : Nat → Prop) (a N sc L : Nat) (x1 : Int32)  : PU l yNames_has bNames_has 2 (some .boolean) 0 0 [.ref a, .int x1] γ (cmp γ (fNames γ a N sc L) Z) (vp_Si (fun v : Int32 => v = 0 ∨ ∃ j, j < N ∧ x1 = nI j)) := by
  refine pu_openZ (by decide) (Nat.le_of_ble_eq_true rfl) ?_
  intro p e s m args below meth c ls Q S hC hI hE hl
  obtain ⟨hx, hb, hml, hown, hW⟩ := id S
  obtain ⟨ws, ⟨b0, b1, b2, b3, b4, b5, b6, f0, f1, f2, f3, f4, f5, f6, rfl, h1, h2, h3, h4, h5, h6⟩, hP, hD⟩ := id hI
  have hP : va_P γ.1 vwCl [(a, .inr (2, [.ref b0, .ref b1, .ref b2, .ref b3, .ref b4, .ref b5, .ref b6, .int (nI N), .int (nI sc)])), (b0, .inl (γ.2.1, L, .inl f0)), (b1, .inl (γ.2.1, L, .inl f1)), (b2, .inl (γ.2.1, L, .inl f2)), (b3, .inl (γ.2.1, L, .inl f3)), (b4, .inl (γ.2.1, L, .inl f4)), (b5, .inl (γ.2.1, 256, .inl f5)), (b6, .inl (γ.2.1, 32, .inl f6))] s.heap := hP
  have hl : lv_has ls 2 [(0, .ref a), (1, .int x1)] := hl
  refine lv_iload_n hx hb dNames_has_0 rfl (lv_at hl 1 rfl) ?_
  refine lv_if_lt (tgt := 16) hx hb dNames_has_1 (by decide) (fun c4 => ?_) (fun c4 => ?_)
  · refine lv_iconst (v := 0) hx hb dNames_has_16 (by decide) ?_
    exact hE _ _ _ rfl (by subst_vars; first | exact Or.inl rfl | exact Or.inr (has_ok (by assumption) (by assumption) (by omega))) dNames_has_17
  · refine lv_iload_n hx hb dNames_has_4 rfl (lv_at hl 1 rfl) ?_
    refine lv_aload_n hx hb dNames_has_5 rfl (lv_at hl 0 rfl) ?_
    refine va_get (D := γ.1) (ci := 2) (v := .int (nI N)) (C := R_Names) (T := T_Names) (N := 9) (Ts := bs_W0) hx hb hW in_Names hown hC.1 hP 0 rfl rfl 7 (by decide) (hW _ qw_171adcdf9f) (fun _ h9 => h9) rfl dNames_has_6 ?_
    refine lv_topi (fun v5 ev5 => ?_)
    refine lv_icmp_ge (tgt := 16) hx hb dNames_has_9 (by decide) (fun c6 => ?_) (fun c6 => ?_)
    · refine lv_iconst (v := 0) hx hb dNames_has_16 (by decide) ?_
      exact hE _ _ _ rfl (by subst_vars; first | exact Or.inl rfl | exact Or.inr (has_ok (by assumption) (by assumption) (by omega))) dNames_has_17
    · refine lv_iconst (v := 1) hx hb dNames_has_12 (by decide) ?_
      refine lv_goto (tgt := 17) hx hb dNames_has_13 (by decide) ?_
      exact hE _ _ _ rfl (by subst_vars; first | exact Or.inl rfl | exact Or.inr (has_ok (by assumption) (by assumption) (by omega))) dNames_has_17
theorem k2_Names_has (l : Launch) (γ : gE) (A : Nat → Prop) (κ : Nat → Nat) (x1 : Int32)  : PU l yNames_has bNames_has 2 (some .boolean) 0 0 [.ref (γ.2.2.2 2), .int x1] γ (INV γ A κ) (vp_Si (fun v : Int32 => v = 0 ∨ ∃ j, j < (κ 2) ∧ x1 = nI j)) :=
  pu_up 3 (by decide) (by decide) (fun Z => c_Names_has l γ Z (γ.2.2.2 2) (κ 2) (κ 3) (κ 12) x1)

set_option maxHeartbeats 4000000 in
set_option maxRecDepth 100000 in
theorem c_Types_has (l : Launch) (γ : gE) (Z : Nat → Prop) (a N L : Nat) (x1 : Int32)  : PU l yTypes_has bTypes_has 2 (some .boolean) 0 0 [.ref a, .int x1] γ (cmp γ (fTypes γ a N L) Z) (vp_Si (fun v : Int32 => v = 0 ∨ ∃ j, j < N ∧ x1 = nI j)) := by
  refine pu_openZ (by decide) (Nat.le_of_ble_eq_true rfl) ?_
  intro p e s m args below meth c ls Q S hC hI hE hl
  obtain ⟨hx, hb, hml, hown, hW⟩ := id S
  obtain ⟨ws, ⟨b0, b1, b2, b3, f0, f1, f2, f3, rfl, h1, h2, h3⟩, hP, hD⟩ := id hI
  have hP : va_P γ.1 vwCl [(a, .inr (3, [.ref b0, .ref b1, .ref b2, .ref b3, .int (nI N)])), (b0, .inl (γ.2.1, L, .inl f0)), (b1, .inl (γ.2.1, L, .inl f1)), (b2, .inl (γ.2.1, L, .inl f2)), (b3, .inl (γ.2.1, L, .inl f3))] s.heap := hP
  have hl : lv_has ls 2 [(0, .ref a), (1, .int x1)] := hl
  refine lv_iload_n hx hb dTypes_has_0 rfl (lv_at hl 1 rfl) ?_
  refine lv_if_lt (tgt := 16) hx hb dTypes_has_1 (by decide) (fun c4 => ?_) (fun c4 => ?_)
  · refine lv_iconst (v := 0) hx hb dTypes_has_16 (by decide) ?_
    exact hE _ _ _ rfl (by subst_vars; first | exact Or.inl rfl | exact Or.inr (has_ok (by assumption) (by assumption) (by omega))) dTypes_has_17
  · refine lv_iload_n hx hb dTypes_has_4 rfl (lv_at hl 1 rfl) ?_
    refine lv_aload_n hx hb dTypes_has_5 rfl (lv_at hl 0 rfl) ?_
    refine va_get (D := γ.1) (ci := 3) (v := .int (nI N)) (C := R_Types) (T := T_Types) (N := 5) (Ts := bs_W0) hx hb hW in_Types hown hC.1 hP 0 rfl rfl 4 (by decide) (hW _ qw_f9da65449d) (fun _ h9 => h9) rfl dTypes_has_6 ?_
    refine lv_topi (fun v5 ev5 => ?_)
    refine lv_icmp_ge (tgt := 16) hx hb dTypes_has_9 (by decide) (fun c6 => ?_) (fun c6 => ?_)
    · refine lv_iconst (v := 0) hx hb dTypes_has_16 (by decide) ?_
      exact hE _ _ _ rfl (by subst_vars; first | exact Or.inl rfl | exact Or.inr (has_ok (by assumption) (by assumption) (by omega))) dTypes_has_17
    · refine lv_iconst (v := 1) hx hb dTypes_has_12 (by decide) ?_
      refine lv_goto (tgt := 17) hx hb dTypes_has_13 (by decide) ?_
      exact hE _ _ _ rfl (by subst_vars; first | exact Or.inl rfl | exact Or.inr (has_ok (by assumption) (by assumption) (by omega))) dTypes_has_17
theorem k3_Types_has (l : Launch) (γ : gE) (A : Nat → Prop) (κ : Nat → Nat) (x1 : Int32)  : PU l yTypes_has bTypes_has 2 (some .boolean) 0 0 [.ref (γ.2.2.2 3), .int x1] γ (INV γ A κ) (vp_Si (fun v : Int32 => v = 0 ∨ ∃ j, j < (κ 4) ∧ x1 = nI j)) :=
  pu_up 4 (by decide) (by decide) (fun Z => c_Types_has l γ Z (γ.2.2.2 3) (κ 4) (κ 13) x1)

set_option maxHeartbeats 4000000 in
set_option maxRecDepth 100000 in
theorem c_Objects_has (l : Launch) (γ : gE) (Z : Nat → Prop) (a rw N L : Nat) (x1 : Int32)  : PU l yObjects_has bObjects_has 2 (some .boolean) 0 0 [.ref a, .int x1] γ (cmp γ (fObjects γ a rw N L) Z) (vp_Si (fun v : Int32 => v = 0 ∨ ∃ j, j < N ∧ x1 = nI j)) := by
  refine pu_openZ (by decide) (Nat.le_of_ble_eq_true rfl) ?_
  intro p e s m args below meth c ls Q S hC hI hE hl
  obtain ⟨hx, hb, hml, hown, hW⟩ := id S
  obtain ⟨ws, ⟨b0, b1, b2, f0, f1, f2, rfl, h1, h2, h3⟩, hP, hD⟩ := id hI
  have hP : va_P γ.1 vwCl [(a, .inr (4, [.ref b0, .ref b1, .ref b2, .ref rw, .int (nI N)])), (b0, .inl (γ.2.1, L, .inl f0)), (b1, .inl (γ.2.1, L, .inl f1)), (b2, .inl (γ.2.1, L, .inl f2))] s.heap := hP
  have hl : lv_has ls 2 [(0, .ref a), (1, .int x1)] := hl
  refine lv_iload_n hx hb dObjects_has_0 rfl (lv_at hl 1 rfl) ?_
  refine lv_if_lt (tgt := 16) hx hb dObjects_has_1 (by decide) (fun c4 => ?_) (fun c4 => ?_)
  · refine lv_iconst (v := 0) hx hb dObjects_has_16 (by decide) ?_
    exact hE _ _ _ rfl (by subst_vars; first | exact Or.inl rfl | exact Or.inr (has_ok (by assumption) (by assumption) (by omega))) dObjects_has_17
  · refine lv_iload_n hx hb dObjects_has_4 rfl (lv_at hl 1 rfl) ?_
    refine lv_aload_n hx hb dObjects_has_5 rfl (lv_at hl 0 rfl) ?_
    refine va_get (D := γ.1) (ci := 4) (v := .int (nI N)) (C := R_Objects) (T := T_Objects) (N := 5) (Ts := bs_W0) hx hb hW in_Objects hown hC.1 hP 0 rfl rfl 4 (by decide) (hW _ qw_1a9a6fdaf2) (fun _ h9 => h9) rfl dObjects_has_6 ?_
    refine lv_topi (fun v5 ev5 => ?_)
    refine lv_icmp_ge (tgt := 16) hx hb dObjects_has_9 (by decide) (fun c6 => ?_) (fun c6 => ?_)
    · refine lv_iconst (v := 0) hx hb dObjects_has_16 (by decide) ?_
      exact hE _ _ _ rfl (by subst_vars; first | exact Or.inl rfl | exact Or.inr (has_ok (by assumption) (by assumption) (by omega))) dObjects_has_17
    · refine lv_iconst (v := 1) hx hb dObjects_has_12 (by decide) ?_
      refine lv_goto (tgt := 17) hx hb dObjects_has_13 (by decide) ?_
      exact hE _ _ _ rfl (by subst_vars; first | exact Or.inl rfl | exact Or.inr (has_ok (by assumption) (by assumption) (by omega))) dObjects_has_17
theorem k4_Objects_has (l : Launch) (γ : gE) (A : Nat → Prop) (κ : Nat → Nat) (x1 : Int32)  : PU l yObjects_has bObjects_has 2 (some .boolean) 0 0 [.ref (γ.2.2.2 4), .int x1] γ (INV γ A κ) (vp_Si (fun v : Int32 => v = 0 ∨ ∃ j, j < (κ 5) ∧ x1 = nI j)) :=
  pu_up 5 (by decide) (by decide) (fun Z => c_Objects_has l γ Z (γ.2.2.2 4) (γ.2.2.2 5) (κ 5) (κ 14) x1)

set_option maxHeartbeats 4000000 in
set_option maxRecDepth 100000 in
theorem c_Looks_has (l : Launch) (γ : gE) (Z : Nat → Prop) (a rw L : Nat) (x1 : Int32)  : PU l yLooks_has bLooks_has 2 (some .boolean) 0 0 [.ref a, .int x1] γ (cmp γ (fLooks γ a rw L) Z) (vp_Si (fun v : Int32 => v = 0 ∨ ∃ j, j < L ∧ x1 = nI j)) := by
  refine pu_openZ (by decide) (Nat.le_of_ble_eq_true rfl) ?_
  intro p e s m args below meth c ls Q S hC hI hE hl
  obtain ⟨hx, hb, hml, hown, hW⟩ := id S
  obtain ⟨ws, ⟨b0, b1, b2, b3, b4, f0, f1, f2, f3, f4, rfl, h1, h2⟩, hP, hD⟩ := id hI
  have hP : va_P γ.1 vwCl [(a, .inr (6, [.ref b0, .ref b1, .ref b2, .ref b3, .ref b4, .ref rw])), (b0, .inl (γ.2.1, L, .inl f0)), (b1, .inl (γ.2.1, L, .inl f1)), (b2, .inl (γ.2.1, L, .inl f2)), (b3, .inl (γ.2.1, L, .inl f3)), (b4, .inl (γ.2.1, L, .inl f4))] s.heap := hP
  have hl : lv_has ls 2 [(0, .ref a), (1, .int x1)] := hl
  refine lv_iload_n hx hb dLooks_has_0 rfl (lv_at hl 1 rfl) ?_
  refine lv_if_lt (tgt := 17) hx hb dLooks_has_1 (by decide) (fun c4 => ?_) (fun c4 => ?_)
  · refine lv_iconst (v := 0) hx hb dLooks_has_17 (by decide) ?_
    exact hE _ _ _ rfl (by subst_vars; first | exact Or.inl rfl | exact Or.inr (has_ok (by assumption) (by assumption) (by omega))) dLooks_has_18
  · refine lv_iload_n hx hb dLooks_has_4 rfl (lv_at hl 1 rfl) ?_
    refine lv_aload_n hx hb dLooks_has_5 rfl (lv_at hl 0 rfl) ?_
    refine va_get (D := γ.1) (ci := 6) (v := .ref b0) (C := R_Looks) (T := T_Looks) (N := 6) (Ts := bs_W0) hx hb hW in_Looks hown hC.1 hP 0 rfl rfl 0 (by decide) (hW _ qw_ac7df03aa7) (fun _ h9 => h9) rfl dLooks_has_6 ?_
    refine va_alen hx hb hC.1 hP 1 0 rfl rfl rfl dLooks_has_9 ?_
    refine lv_topi (fun v5 ev5 => ?_)
    have ev5 : v5 = nI (L) := ev5
    refine lv_icmp_ge (tgt := 17) hx hb dLooks_has_10 (by decide) (fun c6 => ?_) (fun c6 => ?_)
    · refine lv_iconst (v := 0) hx hb dLooks_has_17 (by decide) ?_
      exact hE _ _ _ rfl (by subst_vars; first | exact Or.inl rfl | exact Or.inr (has_ok (by assumption) (by assumption) (by omega))) dLooks_has_18
    · refine lv_iconst (v := 1) hx hb dLooks_has_13 (by decide) ?_
      refine lv_goto (tgt := 18) hx hb dLooks_has_14 (by decide) ?_
      exact hE _ _ _ rfl (by subst_vars; first | exact Or.inl rfl | exact Or.inr (has_ok (by assumption) (by assumption) (by omega))) dLooks_has_18
theorem k6_Looks_has (l : Launch) (γ : gE) (A : Nat → Prop) (κ : Nat → Nat) (x1 : Int32)  : PU l yLooks_has bLooks_has 2 (some .boolean) 0 0 [.ref (γ.2.2.2 6), .int x1] γ (INV γ A κ) (vp_Si (fun v : Int32 => v = 0 ∨ ∃ j, j < (κ 6) ∧ x1 = nI j)) :=
  pu_up 7 (by decide) (by decide) (fun Z => c_Looks_has l γ Z (γ.2.2.2 6) (γ.2.2.2 7) (κ 6) x1)
theorem k9_Looks_has (l : Launch) (γ : gE) (A : Nat → Prop) (κ : Nat → Nat) (x1 : Int32)  : PU l yLooks_has bLooks_has 2 (some .boolean) 0 0 [.ref (γ.2.2.2 9), .int x1] γ (INV γ A κ) (vp_Si (fun v : Int32 => v = 0 ∨ ∃ j, j < (κ 7) ∧ x1 = nI j)) :=
  pu_up 9 (by decide) (by decide) (fun Z => c_Looks_has l γ Z (γ.2.2.2 9) (γ.2.2.2 10) (κ 7) x1)

set_option maxHeartbeats 4000000 in
set_option maxRecDepth 100000 in
theorem c_Rows_has (l : Launch) (γ : gE) (Z : Nat → Prop) (a M : Nat) (x1 : Int32)  : PU l yRows_has bRows_has 2 (some .boolean) 0 0 [.ref a, .int x1] γ (cmp γ (fRows γ a M) Z) (vp_Si (fun v : Int32 => v = 0 ∨ ∃ j, j < M ∧ x1 = nI j)) := by
  refine pu_openZ (by decide) (Nat.le_of_ble_eq_true rfl) ?_
  intro p e s m args below meth c ls Q S hC hI hE hl
  obtain ⟨hx, hb, hml, hown, hW⟩ := id S
  obtain ⟨ws, ⟨b0, g0, rfl, h1, h2⟩, hP, hD⟩ := id hI
  have hP : va_P γ.1 vwCl [(a, .inr (5, [.ref b0])), (b0, .inl (γ.2.2.1, 4 * M, .inr (.inl g0)))] s.heap := hP
  have hl : lv_has ls 2 [(0, .ref a), (1, .int x1)] := hl
  refine lv_iload_n hx hb dRows_has_0 rfl (lv_at hl 1 rfl) ?_
  refine lv_if_lt (tgt := 19) hx hb dRows_has_1 (by decide) (fun c5 => ?_) (fun c5 => ?_)
  · refine lv_iconst (v := 0) hx hb dRows_has_19 (by decide) ?_
    exact hE _ _ _ rfl (by subst_vars; first | exact Or.inl rfl | exact Or.inr (has_ok (by assumption) (by rw [← rows_q (by omega)]; assumption) (by omega))) dRows_has_20
  · refine lv_iload_n hx hb dRows_has_4 rfl (lv_at hl 1 rfl) ?_
    refine lv_aload_n hx hb dRows_has_5 rfl (lv_at hl 0 rfl) ?_
    refine va_get (D := γ.1) (ci := 5) (v := .ref b0) (C := R_Rows) (T := T_Rows) (N := 1) (Ts := bs_W0) hx hb hW in_Rows hown hC.1 hP 0 rfl rfl 0 (by decide) (hW _ qw_05e9c8a29d) (fun _ h9 => h9) rfl dRows_has_6 ?_
    refine va_alen hx hb hC.1 hP 1 1 rfl rfl rfl dRows_has_9 ?_
    refine lv_topi (fun v6 ev6 => ?_)
    have ev6 : v6 = nI (4 * M) := ev6
    refine lv_iconst (v := 4) hx hb dRows_has_10 (by decide) ?_
    refine lv_idiv hx hb dRows_has_11 (by decide) ?_
    refine lv_topi (fun v7 ev7 => ?_)
    refine lv_icmp_ge (tgt := 19) hx hb dRows_has_12 (by decide) (fun c8 => ?_) (fun c8 => ?_)
    · refine lv_iconst (v := 0) hx hb dRows_has_19 (by decide) ?_
      exact hE _ _ _ rfl (by subst_vars; first | exact Or.inl rfl | exact Or.inr (has_ok (by assumption) (by rw [← rows_q (by omega)]; assumption) (by omega))) dRows_has_20
    · refine lv_iconst (v := 1) hx hb dRows_has_15 (by decide) ?_
      refine lv_goto (tgt := 20) hx hb dRows_has_16 (by decide) ?_
      exact hE _ _ _ rfl (by subst_vars; first | exact Or.inl rfl | exact Or.inr (has_ok (by assumption) (by rw [← rows_q (by omega)]; assumption) (by omega))) dRows_has_20
theorem k5_Rows_has (l : Launch) (γ : gE) (A : Nat → Prop) (κ : Nat → Nat) (x1 : Int32)  : PU l yRows_has bRows_has 2 (some .boolean) 0 0 [.ref (γ.2.2.2 5), .int x1] γ (INV γ A κ) (vp_Si (fun v : Int32 => v = 0 ∨ ∃ j, j < (κ 8) ∧ x1 = nI j)) :=
  pu_up 6 (by decide) (by decide) (fun Z => c_Rows_has l γ Z (γ.2.2.2 5) (κ 8) x1)
theorem k7_Rows_has (l : Launch) (γ : gE) (A : Nat → Prop) (κ : Nat → Nat) (x1 : Int32)  : PU l yRows_has bRows_has 2 (some .boolean) 0 0 [.ref (γ.2.2.2 7), .int x1] γ (INV γ A κ) (vp_Si (fun v : Int32 => v = 0 ∨ ∃ j, j < (κ 9) ∧ x1 = nI j)) :=
  pu_up 8 (by decide) (by decide) (fun Z => c_Rows_has l γ Z (γ.2.2.2 7) (κ 9) x1)
theorem k10_Rows_has (l : Launch) (γ : gE) (A : Nat → Prop) (κ : Nat → Nat) (x1 : Int32)  : PU l yRows_has bRows_has 2 (some .boolean) 0 0 [.ref (γ.2.2.2 10), .int x1] γ (INV γ A κ) (vp_Si (fun v : Int32 => v = 0 ∨ ∃ j, j < (κ 10) ∧ x1 = nI j)) :=
  pu_up 10 (by decide) (by decide) (fun Z => c_Rows_has l γ Z (γ.2.2.2 10) (κ 10) x1)

set_option maxHeartbeats 4000000 in
set_option maxRecDepth 100000 in
theorem c_Trees_kindOf (l : Launch) (γ : gE) (Z : Nat → Prop) (a N rt L : Nat) (x1 : Int32)  : PU l yTrees_kindOf bTrees_kindOf 2 (some .int) 1 21 [.ref a, .int x1] γ (cmp γ (fTrees γ a N rt L) Z) (vp_Si (fun v : Int32 => True)) := by
  refine pu_openI (by decide) (Nat.le_of_ble_eq_true rfl) ?_
  intro p e s m args below meth c ls Q S hC hI hE hl
  obtain ⟨hx, hb, hml, hown, hW⟩ := id S
  obtain ⟨ws, ⟨b0, b1, b2, b3, f0, f1, f2, f3, rfl, h1, h2, h3, h4, h5, h6⟩, hP, hD⟩ := id hI
  have hP : va_P γ.1 vwCl [(a, .inr (1, [.ref b0, .ref b1, .ref b2, .ref b3, .int (nI N), .int (nI rt)])), (b0, .inl (γ.2.1, L, .inl f0)), (b1, .inl (γ.2.1, L, .inl f1)), (b2, .inl (γ.2.1, L, .inl f2)), (b3, .inl (γ.2.1, L, .inl f3))] s.heap := hP
  have hl : lv_has ls 2 [(0, .ref a), (1, .int x1)] := hl
  refine lv_aload_n hx hb dTrees_kindOf_0 rfl (lv_at hl 0 rfl) ?_
  refine lv_iload_n hx hb dTrees_kindOf_1 rfl (lv_at hl 1 rfl) ?_
  refine pu_Vi (rest := []) S hC (c_Trees_has l γ Z a N rt L x1) meTrees_has qw_42d433c8d4 ⟨Nat.le_of_ble_eq_true rfl, Nat.le_of_ble_eq_true rfl⟩ (va_recv hC.1 hP (ci := 1) (q0 := 0) rfl rfl) hI rfl hl.1 rfl (Nat.le_of_ble_eq_true rfl) dTrees_kindOf_2 ⟨Nat.zero_le _, Nat.zero_le _⟩ (fun r4 hr4 => ?_)
  refine lv_if_eq (tgt := 17) hx hb dTrees_kindOf_5 (by decide) (fun c5 => ?_) (fun c5 => ?_)
  · refine lv_iconst (v := (-1)) hx hb dTrees_kindOf_17 (by decide) ?_
    exact hE _ _ _ trivial dTrees_kindOf_18
  · refine lv_aload_n hx hb dTrees_kindOf_8 rfl (lv_at hl 0 rfl) ?_
    refine va_get (D := γ.1) (ci := 1) (v := .ref b0) (C := R_Trees) (T := T_Trees) (N := 6) (Ts := bs_W0) hx hb hW in_Trees hown hC.1 hP 0 rfl rfl 0 (by decide) (hW _ qw_ffd9ddfb57) (fun _ h9 => h9) rfl dTrees_kindOf_9 ?_
    refine lv_iload_n hx hb dTrees_kindOf_12 rfl (lv_at hl 1 rfl) ?_
    refine va_iald hx hb hC.1 hP 1 0 rfl rfl (in_has (by assumption) (by assumption) (by omega) (by omega)) dTrees_kindOf_13 ?_
    refine lv_topi (fun v6 ev6 => ?_)
    refine lv_goto (tgt := 18) hx hb dTrees_kindOf_14 (by decide) ?_
    exact hE _ _ _ trivial dTrees_kindOf_18
theorem k1_Trees_kindOf (l : Launch) (γ : gE) (A : Nat → Prop) (κ : Nat → Nat) (x1 : Int32)  : PU l yTrees_kindOf bTrees_kindOf 2 (some .int) 1 21 [.ref (γ.2.2.2 1), .int x1] γ (INV γ A κ) (vp_Si (fun v : Int32 => True)) :=
  pu_up 2 (by decide) (by decide) (fun Z => c_Trees_kindOf l γ Z (γ.2.2.2 1) (κ 0) (κ 1) (κ 11) x1)

set_option maxHeartbeats 4000000 in
set_option maxRecDepth 100000 in
theorem c_Trees_valueOf (l : Launch) (γ : gE) (Z : Nat → Prop) (a N rt L : Nat) (x1 : Int32)  : PU l yTrees_valueOf bTrees_valueOf 2 (some .int) 1 21 [.ref a, .int x1] γ (cmp γ (fTrees γ a N rt L) Z) (vp_Si (fun v : Int32 => True)) := by
  refine pu_openI (by decide) (Nat.le_of_ble_eq_true rfl) ?_
  intro p e s m args below meth c ls Q S hC hI hE hl
  obtain ⟨hx, hb, hml, hown, hW⟩ := id S
  obtain ⟨ws, ⟨b0, b1, b2, b3, f0, f1, f2, f3, rfl, h1, h2, h3, h4, h5, h6⟩, hP, hD⟩ := id hI
  have hP : va_P γ.1 vwCl [(a, .inr (1, [.ref b0, .ref b1, .ref b2, .ref b3, .int (nI N), .int (nI rt)])), (b0, .inl (γ.2.1, L, .inl f0)), (b1, .inl (γ.2.1, L, .inl f1)), (b2, .inl (γ.2.1, L, .inl f2)), (b3, .inl (γ.2.1, L, .inl f3))] s.heap := hP
  have hl : lv_has ls 2 [(0, .ref a), (1, .int x1)] := hl
  refine lv_aload_n hx hb dTrees_valueOf_0 rfl (lv_at hl 0 rfl) ?_
  refine lv_iload_n hx hb dTrees_valueOf_1 rfl (lv_at hl 1 rfl) ?_
  refine pu_Vi (rest := []) S hC (c_Trees_has l γ Z a N rt L x1) meTrees_has qw_42d433c8d4 ⟨Nat.le_of_ble_eq_true rfl, Nat.le_of_ble_eq_true rfl⟩ (va_recv hC.1 hP (ci := 1) (q0 := 0) rfl rfl) hI rfl hl.1 rfl (Nat.le_of_ble_eq_true rfl) dTrees_valueOf_2 ⟨Nat.zero_le _, Nat.zero_le _⟩ (fun r4 hr4 => ?_)
  refine lv_if_eq (tgt := 17) hx hb dTrees_valueOf_5 (by decide) (fun c5 => ?_) (fun c5 => ?_)
  · refine lv_iconst (v := (-1)) hx hb dTrees_valueOf_17 (by decide) ?_
    exact hE _ _ _ trivial dTrees_valueOf_18
  · refine lv_aload_n hx hb dTrees_valueOf_8 rfl (lv_at hl 0 rfl) ?_
    refine va_get (D := γ.1) (ci := 1) (v := .ref b1) (C := R_Trees) (T := T_Trees) (N := 6) (Ts := bs_W0) hx hb hW in_Trees hown hC.1 hP 0 rfl rfl 1 (by decide) (hW _ qw_fdd50f5077) (fun _ h9 => h9) rfl dTrees_valueOf_9 ?_
    refine lv_iload_n hx hb dTrees_valueOf_12 rfl (lv_at hl 1 rfl) ?_
    refine va_iald hx hb hC.1 hP 2 0 rfl rfl (in_has (by assumption) (by assumption) (by omega) (by omega)) dTrees_valueOf_13 ?_
    refine lv_topi (fun v6 ev6 => ?_)
    refine lv_goto (tgt := 18) hx hb dTrees_valueOf_14 (by decide) ?_
    exact hE _ _ _ trivial dTrees_valueOf_18
theorem k1_Trees_valueOf (l : Launch) (γ : gE) (A : Nat → Prop) (κ : Nat → Nat) (x1 : Int32)  : PU l yTrees_valueOf bTrees_valueOf 2 (some .int) 1 21 [.ref (γ.2.2.2 1), .int x1] γ (INV γ A κ) (vp_Si (fun v : Int32 => True)) :=
  pu_up 2 (by decide) (by decide) (fun Z => c_Trees_valueOf l γ Z (γ.2.2.2 1) (κ 0) (κ 1) (κ 11) x1)

set_option maxHeartbeats 4000000 in
set_option maxRecDepth 100000 in
theorem c_Names_sortOf (l : Launch) (γ : gE) (Z : Nat → Prop) (a N sc L : Nat) (x1 : Int32)  : PU l yNames_sortOf bNames_sortOf 2 (some .int) 1 21 [.ref a, .int x1] γ (cmp γ (fNames γ a N sc L) Z) (vp_Si (fun v : Int32 => True)) := by
  refine pu_openI (by decide) (Nat.le_of_ble_eq_true rfl) ?_
  intro p e s m args below meth c ls Q S hC hI hE hl
  obtain ⟨hx, hb, hml, hown, hW⟩ := id S
  obtain ⟨ws, ⟨b0, b1, b2, b3, b4, b5, b6, f0, f1, f2, f3, f4, f5, f6, rfl, h1, h2, h3, h4, h5, h6⟩, hP, hD⟩ := id hI
  have hP : va_P γ.1 vwCl [(a, .inr (2, [.ref b0, .ref b1, .ref b2, .ref b3, .ref b4, .ref b5, .ref b6, .int (nI N), .int (nI sc)])), (b0, .inl (γ.2.1, L, .inl f0)), (b1, .inl (γ.2.1, L, .inl f1)), (b2, .inl (γ.2.1, L, .inl f2)), (b3, .inl (γ.2.1, L, .inl f3)), (b4, .inl (γ.2.1, L, .inl f4)), (b5, .inl (γ.2.1, 256, .inl f5)), (b6, .inl (γ.2.1, 32, .inl f6))] s.heap := hP
  have hl : lv_has ls 2 [(0, .ref a), (1, .int x1)] := hl
  refine lv_aload_n hx hb dNames_sortOf_0 rfl (lv_at hl 0 rfl) ?_
  refine lv_iload_n hx hb dNames_sortOf_1 rfl (lv_at hl 1 rfl) ?_
  refine pu_Vi (rest := []) S hC (c_Names_has l γ Z a N sc L x1) meNames_has qw_8f9013a759 ⟨Nat.le_of_ble_eq_true rfl, Nat.le_of_ble_eq_true rfl⟩ (va_recv hC.1 hP (ci := 2) (q0 := 0) rfl rfl) hI rfl hl.1 rfl (Nat.le_of_ble_eq_true rfl) dNames_sortOf_2 ⟨Nat.zero_le _, Nat.zero_le _⟩ (fun r4 hr4 => ?_)
  refine lv_if_eq (tgt := 17) hx hb dNames_sortOf_5 (by decide) (fun c5 => ?_) (fun c5 => ?_)
  · refine lv_iconst (v := (-1)) hx hb dNames_sortOf_17 (by decide) ?_
    exact hE _ _ _ trivial dNames_sortOf_18
  · refine lv_aload_n hx hb dNames_sortOf_8 rfl (lv_at hl 0 rfl) ?_
    refine va_get (D := γ.1) (ci := 2) (v := .ref b1) (C := R_Names) (T := T_Names) (N := 9) (Ts := bs_W0) hx hb hW in_Names hown hC.1 hP 0 rfl rfl 1 (by decide) (hW _ qw_5903ecb25d) (fun _ h9 => h9) rfl dNames_sortOf_9 ?_
    refine lv_iload_n hx hb dNames_sortOf_12 rfl (lv_at hl 1 rfl) ?_
    refine va_iald hx hb hC.1 hP 2 0 rfl rfl (in_has (by assumption) (by assumption) (by omega) (by omega)) dNames_sortOf_13 ?_
    refine lv_topi (fun v6 ev6 => ?_)
    refine lv_goto (tgt := 18) hx hb dNames_sortOf_14 (by decide) ?_
    exact hE _ _ _ trivial dNames_sortOf_18
theorem k2_Names_sortOf (l : Launch) (γ : gE) (A : Nat → Prop) (κ : Nat → Nat) (x1 : Int32)  : PU l yNames_sortOf bNames_sortOf 2 (some .int) 1 21 [.ref (γ.2.2.2 2), .int x1] γ (INV γ A κ) (vp_Si (fun v : Int32 => True)) :=
  pu_up 3 (by decide) (by decide) (fun Z => c_Names_sortOf l γ Z (γ.2.2.2 2) (κ 2) (κ 3) (κ 12) x1)

set_option maxHeartbeats 4000000 in
set_option maxRecDepth 100000 in
theorem c_Names_numberOf (l : Launch) (γ : gE) (Z : Nat → Prop) (a N sc L : Nat) (x1 : Int32)  : PU l yNames_numberOf bNames_numberOf 2 (some .int) 1 21 [.ref a, .int x1] γ (cmp γ (fNames γ a N sc L) Z) (vp_Si (fun v : Int32 => True)) := by
  refine pu_openI (by decide) (Nat.le_of_ble_eq_true rfl) ?_
  intro p e s m args below meth c ls Q S hC hI hE hl
  obtain ⟨hx, hb, hml, hown, hW⟩ := id S
  obtain ⟨ws, ⟨b0, b1, b2, b3, b4, b5, b6, f0, f1, f2, f3, f4, f5, f6, rfl, h1, h2, h3, h4, h5, h6⟩, hP, hD⟩ := id hI
  have hP : va_P γ.1 vwCl [(a, .inr (2, [.ref b0, .ref b1, .ref b2, .ref b3, .ref b4, .ref b5, .ref b6, .int (nI N), .int (nI sc)])), (b0, .inl (γ.2.1, L, .inl f0)), (b1, .inl (γ.2.1, L, .inl f1)), (b2, .inl (γ.2.1, L, .inl f2)), (b3, .inl (γ.2.1, L, .inl f3)), (b4, .inl (γ.2.1, L, .inl f4)), (b5, .inl (γ.2.1, 256, .inl f5)), (b6, .inl (γ.2.1, 32, .inl f6))] s.heap := hP
  have hl : lv_has ls 2 [(0, .ref a), (1, .int x1)] := hl
  refine lv_aload_n hx hb dNames_numberOf_0 rfl (lv_at hl 0 rfl) ?_
  refine lv_iload_n hx hb dNames_numberOf_1 rfl (lv_at hl 1 rfl) ?_
  refine pu_Vi (rest := []) S hC (c_Names_has l γ Z a N sc L x1) meNames_has qw_8f9013a759 ⟨Nat.le_of_ble_eq_true rfl, Nat.le_of_ble_eq_true rfl⟩ (va_recv hC.1 hP (ci := 2) (q0 := 0) rfl rfl) hI rfl hl.1 rfl (Nat.le_of_ble_eq_true rfl) dNames_numberOf_2 ⟨Nat.zero_le _, Nat.zero_le _⟩ (fun r4 hr4 => ?_)
  refine lv_if_eq (tgt := 17) hx hb dNames_numberOf_5 (by decide) (fun c5 => ?_) (fun c5 => ?_)
  · refine lv_iconst (v := (-1)) hx hb dNames_numberOf_17 (by decide) ?_
    exact hE _ _ _ trivial dNames_numberOf_18
  · refine lv_aload_n hx hb dNames_numberOf_8 rfl (lv_at hl 0 rfl) ?_
    refine va_get (D := γ.1) (ci := 2) (v := .ref b2) (C := R_Names) (T := T_Names) (N := 9) (Ts := bs_W0) hx hb hW in_Names hown hC.1 hP 0 rfl rfl 2 (by decide) (hW _ qw_ee1ba38ad0) (fun _ h9 => h9) rfl dNames_numberOf_9 ?_
    refine lv_iload_n hx hb dNames_numberOf_12 rfl (lv_at hl 1 rfl) ?_
    refine va_iald hx hb hC.1 hP 3 0 rfl rfl (in_has (by assumption) (by assumption) (by omega) (by omega)) dNames_numberOf_13 ?_
    refine lv_topi (fun v6 ev6 => ?_)
    refine lv_goto (tgt := 18) hx hb dNames_numberOf_14 (by decide) ?_
    exact hE _ _ _ trivial dNames_numberOf_18
theorem k2_Names_numberOf (l : Launch) (γ : gE) (A : Nat → Prop) (κ : Nat → Nat) (x1 : Int32)  : PU l yNames_numberOf bNames_numberOf 2 (some .int) 1 21 [.ref (γ.2.2.2 2), .int x1] γ (INV γ A κ) (vp_Si (fun v : Int32 => True)) :=
  pu_up 3 (by decide) (by decide) (fun Z => c_Names_numberOf l γ Z (γ.2.2.2 2) (κ 2) (κ 3) (κ 12) x1)

set_option maxHeartbeats 4000000 in
set_option maxRecDepth 100000 in
theorem c_Names_partOf (l : Launch) (γ : gE) (Z : Nat → Prop) (a N sc L : Nat) (x1 : Int32)  : PU l yNames_partOf bNames_partOf 2 (some .int) 1 21 [.ref a, .int x1] γ (cmp γ (fNames γ a N sc L) Z) (vp_Si (fun v : Int32 => True)) := by
  refine pu_openI (by decide) (Nat.le_of_ble_eq_true rfl) ?_
  intro p e s m args below meth c ls Q S hC hI hE hl
  obtain ⟨hx, hb, hml, hown, hW⟩ := id S
  obtain ⟨ws, ⟨b0, b1, b2, b3, b4, b5, b6, f0, f1, f2, f3, f4, f5, f6, rfl, h1, h2, h3, h4, h5, h6⟩, hP, hD⟩ := id hI
  have hP : va_P γ.1 vwCl [(a, .inr (2, [.ref b0, .ref b1, .ref b2, .ref b3, .ref b4, .ref b5, .ref b6, .int (nI N), .int (nI sc)])), (b0, .inl (γ.2.1, L, .inl f0)), (b1, .inl (γ.2.1, L, .inl f1)), (b2, .inl (γ.2.1, L, .inl f2)), (b3, .inl (γ.2.1, L, .inl f3)), (b4, .inl (γ.2.1, L, .inl f4)), (b5, .inl (γ.2.1, 256, .inl f5)), (b6, .inl (γ.2.1, 32, .inl f6))] s.heap := hP
  have hl : lv_has ls 2 [(0, .ref a), (1, .int x1)] := hl
  refine lv_aload_n hx hb dNames_partOf_0 rfl (lv_at hl 0 rfl) ?_
  refine lv_iload_n hx hb dNames_partOf_1 rfl (lv_at hl 1 rfl) ?_
  refine pu_Vi (rest := []) S hC (c_Names_has l γ Z a N sc L x1) meNames_has qw_8f9013a759 ⟨Nat.le_of_ble_eq_true rfl, Nat.le_of_ble_eq_true rfl⟩ (va_recv hC.1 hP (ci := 2) (q0 := 0) rfl rfl) hI rfl hl.1 rfl (Nat.le_of_ble_eq_true rfl) dNames_partOf_2 ⟨Nat.zero_le _, Nat.zero_le _⟩ (fun r4 hr4 => ?_)
  refine lv_if_eq (tgt := 17) hx hb dNames_partOf_5 (by decide) (fun c5 => ?_) (fun c5 => ?_)
  · refine lv_iconst (v := (-1)) hx hb dNames_partOf_17 (by decide) ?_
    exact hE _ _ _ trivial dNames_partOf_18
  · refine lv_aload_n hx hb dNames_partOf_8 rfl (lv_at hl 0 rfl) ?_
    refine va_get (D := γ.1) (ci := 2) (v := .ref b3) (C := R_Names) (T := T_Names) (N := 9) (Ts := bs_W0) hx hb hW in_Names hown hC.1 hP 0 rfl rfl 3 (by decide) (hW _ qw_1a22e5f505) (fun _ h9 => h9) rfl dNames_partOf_9 ?_
    refine lv_iload_n hx hb dNames_partOf_12 rfl (lv_at hl 1 rfl) ?_
    refine va_iald hx hb hC.1 hP 4 0 rfl rfl (in_has (by assumption) (by assumption) (by omega) (by omega)) dNames_partOf_13 ?_
    refine lv_topi (fun v6 ev6 => ?_)
    refine lv_goto (tgt := 18) hx hb dNames_partOf_14 (by decide) ?_
    exact hE _ _ _ trivial dNames_partOf_18
theorem k2_Names_partOf (l : Launch) (γ : gE) (A : Nat → Prop) (κ : Nat → Nat) (x1 : Int32)  : PU l yNames_partOf bNames_partOf 2 (some .int) 1 21 [.ref (γ.2.2.2 2), .int x1] γ (INV γ A κ) (vp_Si (fun v : Int32 => True)) :=
  pu_up 3 (by decide) (by decide) (fun Z => c_Names_partOf l γ Z (γ.2.2.2 2) (κ 2) (κ 3) (κ 12) x1)
theorem qw_252588eab3 : (Cond.methodLink R_Types 34 yTypes_has) ∈ bs_W0 := bs_in (in_tables_1_3 (List.mem_of_getElem? (i := 105) rfl)) rfl
theorem qw_9652573c2f : (Cond.fieldLink R_Types 9 R_Types "classes" "[I") ∈ bs_W0 := bs_in (in_tables_1_1 (List.mem_of_getElem? (i := 141) rfl)) rfl
theorem qw_3e3b315a67 : (Cond.fieldLink R_Types 15 R_Types "lefts" "[I") ∈ bs_W0 := bs_in (in_tables_1_1 (List.mem_of_getElem? (i := 142) rfl)) rfl
theorem qw_dd571233a8 : (Cond.fieldLink R_Types 18 R_Types "rights" "[I") ∈ bs_W0 := bs_in (in_tables_1_1 (List.mem_of_getElem? (i := 143) rfl)) rfl
theorem qw_dded4610c2 : (Cond.fieldLink R_Types 21 R_Types "counts" "[I") ∈ bs_W0 := bs_in (in_tables_1_1 (List.mem_of_getElem? (i := 144) rfl)) rfl
theorem qw_3728bb290b : (Cond.methodLink R_Types 38 Lib.Math.abs.name) ∈ bs_W0 := bs_in (in_tables_1_3 (List.mem_of_getElem? (i := 118) rfl)) rfl
theorem qw_788fc9f3dd : (Cond.static Lib.Math.abs.name) ∈ bs_W0 := bs_in (in_tables_1_3 (List.mem_of_getElem? (i := 119) rfl)) rfl
theorem qw_0001fcaade : (Cond.initialized "java/lang/Math") ∈ bs_W0 := bs_in (in_tables_1_1 (List.mem_of_getElem? (i := 5) rfl)) rfl
theorem qw_970e918a43 : (Cond.code Lib.Math.abs.name Lib.Math.abs.code 1 (some .int)) ∈ bs_W0 := bs_in (in_tables_1_3 (List.mem_of_getElem? (i := 120) rfl)) rfl
theorem qw_2f2cb5cb5a : (Cond.methodLink R_Objects 34 yObjects_has) ∈ bs_W0 := bs_in (in_tables_1_3 (List.mem_of_getElem? (i := 97) rfl)) rfl
theorem qw_bb1fa418e1 : (Cond.fieldLink R_Objects 9 R_Objects "whats" "[I") ∈ bs_W0 := bs_in (in_tables_1_1 (List.mem_of_getElem? (i := 176) rfl)) rfl
theorem qw_541217fbcc : (Cond.fieldLink R_Objects 15 R_Objects "types" "[I") ∈ bs_W0 := bs_in (in_tables_1_1 (List.mem_of_getElem? (i := 177) rfl)) rfl
theorem qw_0ed5786ef0 : (Cond.fieldLink R_Objects 18 R_Objects "numbers" "[I") ∈ bs_W0 := bs_in (in_tables_1_1 (List.mem_of_getElem? (i := 178) rfl)) rfl
theorem qw_4e5fd4a1cd : (Cond.methodLink R_Looks 43 yLooks_has) ∈ bs_W0 := bs_in (in_tables_1_2 (List.mem_of_getElem? (i := 220) rfl)) rfl
theorem qw_7dd30c70bd : (Cond.fieldLink R_Looks 15 R_Looks "extents" "[I") ∈ bs_W0 := bs_in (in_tables_1_1 (List.mem_of_getElem? (i := 203) rfl)) rfl
theorem qw_427e012605 : (Cond.fieldLink R_Looks 18 R_Looks "meanings" "[I") ∈ bs_W0 := bs_in (in_tables_1_1 (List.mem_of_getElem? (i := 204) rfl)) rfl
theorem qw_5344cf30a3 : (Cond.fieldLink R_Looks 21 R_Looks "numbers" "[I") ∈ bs_W0 := bs_in (in_tables_1_1 (List.mem_of_getElem? (i := 205) rfl)) rfl
theorem qw_3682c3415f : (Cond.fieldLink R_Trees 21 R_Trees "firsts" "[I") ∈ bs_W0 := bs_in (in_tables_1_1 (List.mem_of_getElem? (i := 41) rfl)) rfl
theorem qw_887ccc8355 : (Cond.fieldLink R_Trees 18 R_Trees "counts" "[I") ∈ bs_W0 := bs_in (in_tables_1_1 (List.mem_of_getElem? (i := 40) rfl)) rfl
theorem qw_e019bcaac8 : (Cond.methodLink R_Trees 35 yTrees_firstOf) ∈ bs_W0 := bs_in (in_tables_1_2 (List.mem_of_getElem? (i := 191) rfl)) rfl
theorem qw_a799e12b89 : (Cond.methodLink R_Types 44 yTypes_classOf) ∈ bs_W0 := bs_in (in_tables_1_3 (List.mem_of_getElem? (i := 113) rfl)) rfl
theorem qw_f2b19d19af : (Cond.methodLink R_Types 47 yTypes_countOf) ∈ bs_W0 := bs_in (in_tables_1_3 (List.mem_of_getElem? (i := 114) rfl)) rfl
theorem qw_89684d58b5 : (Cond.methodLink R_Types 50 yTypes_goesDown) ∈ bs_W0 := bs_in (in_tables_1_4 (List.mem_of_getElem? (i := 154) rfl)) rfl
theorem qw_7f99fbf9f4 : (Cond.methodLink R_Types 53 yTypes_rightOf) ∈ bs_W0 := bs_in (in_tables_1_4 (List.mem_of_getElem? (i := 158) rfl)) rfl
set_option maxHeartbeats 4000000 in
set_option maxRecDepth 100000 in
theorem c_Types_classOf (l : Launch) (γ : gE) (Z : Nat → Prop) (a N L : Nat) (x1 : Int32)  : PU l yTypes_classOf bTypes_classOf 2 (some .int) 1 21 [.ref a, .int x1] γ (cmp γ (fTypes γ a N L) Z) (vp_Si (fun v : Int32 => True)) := by
  refine pu_openI (by decide) (Nat.le_of_ble_eq_true rfl) ?_
  intro p e s m args below meth c ls Q S hC hI hE hl
  obtain ⟨hx, hb, hml, hown, hW⟩ := id S
  obtain ⟨ws, ⟨b0, b1, b2, b3, f0, f1, f2, f3, rfl, h1, h2, h3⟩, hP, hD⟩ := id hI
  have hP : va_P γ.1 vwCl [(a, .inr (3, [.ref b0, .ref b1, .ref b2, .ref b3, .int (nI N)])), (b0, .inl (γ.2.1, L, .inl f0)), (b1, .inl (γ.2.1, L, .inl f1)), (b2, .inl (γ.2.1, L, .inl f2)), (b3, .inl (γ.2.1, L, .inl f3))] s.heap := hP
  have hl : lv_has ls 2 [(0, .ref a), (1, .int x1)] := hl
  refine lv_aload_n hx hb dTypes_classOf_0 rfl (lv_at hl 0 rfl) ?_
  refine lv_iload_n hx hb dTypes_classOf_1 rfl (lv_at hl 1 rfl) ?_
  refine pu_Vi (rest := []) S hC (c_Types_has l γ Z a N L x1) meTypes_has qw_252588eab3 ⟨Nat.le_of_ble_eq_true rfl, Nat.le_of_ble_eq_true rfl⟩ (va_recv hC.1 hP (ci := 3) (q0 := 0) rfl rfl) hI rfl hl.1 rfl (Nat.le_of_ble_eq_true rfl) dTypes_classOf_2 ⟨Nat.zero_le _, Nat.zero_le _⟩ (fun r4 hr4 => ?_)
  refine lv_if_eq (tgt := 17) hx hb dTypes_classOf_5 (by decide) (fun c5 => ?_) (fun c5 => ?_)
  · refine lv_iconst (v := (-1)) hx hb dTypes_classOf_17 (by decide) ?_
    exact hE _ _ _ trivial dTypes_classOf_18
  · refine lv_aload_n hx hb dTypes_classOf_8 rfl (lv_at hl 0 rfl) ?_
    refine va_get (D := γ.1) (ci := 3) (v := .ref b0) (C := R_Types) (T := T_Types) (N := 5) (Ts := bs_W0) hx hb hW in_Types hown hC.1 hP 0 rfl rfl 0 (by decide) (hW _ qw_9652573c2f) (fun _ h9 => h9) rfl dTypes_classOf_9 ?_
    refine lv_iload_n hx hb dTypes_classOf_12 rfl (lv_at hl 1 rfl) ?_
    refine va_iald hx hb hC.1 hP 1 0 rfl rfl (in_has (by assumption) (by assumption) (by omega) (by omega)) dTypes_classOf_13 ?_
    refine lv_topi (fun v6 ev6 => ?_)
    refine lv_goto (tgt := 18) hx hb dTypes_classOf_14 (by decide) ?_
    exact hE _ _ _ trivial dTypes_classOf_18
theorem k3_Types_classOf (l : Launch) (γ : gE) (A : Nat → Prop) (κ : Nat → Nat) (x1 : Int32)  : PU l yTypes_classOf bTypes_classOf 2 (some .int) 1 21 [.ref (γ.2.2.2 3), .int x1] γ (INV γ A κ) (vp_Si (fun v : Int32 => True)) :=
  pu_up 4 (by decide) (by decide) (fun Z => c_Types_classOf l γ Z (γ.2.2.2 3) (κ 4) (κ 13) x1)

set_option maxHeartbeats 4000000 in
set_option maxRecDepth 100000 in
theorem c_Types_leftOf (l : Launch) (γ : gE) (Z : Nat → Prop) (a N L : Nat) (x1 : Int32)  : PU l yTypes_leftOf bTypes_leftOf 2 (some .int) 1 21 [.ref a, .int x1] γ (cmp γ (fTypes γ a N L) Z) (vp_Si (fun v : Int32 => True)) := by
  refine pu_openI (by decide) (Nat.le_of_ble_eq_true rfl) ?_
  intro p e s m args below meth c ls Q S hC hI hE hl
  obtain ⟨hx, hb, hml, hown, hW⟩ := id S
  obtain ⟨ws, ⟨b0, b1, b2, b3, f0, f1, f2, f3, rfl, h1, h2, h3⟩, hP, hD⟩ := id hI
  have hP : va_P γ.1 vwCl [(a, .inr (3, [.ref b0, .ref b1, .ref b2, .ref b3, .int (nI N)])), (b0, .inl (γ.2.1, L, .inl f0)), (b1, .inl (γ.2.1, L, .inl f1)), (b2, .inl (γ.2.1, L, .inl f2)), (b3, .inl (γ.2.1, L, .inl f3))] s.heap := hP
  have hl : lv_has ls 2 [(0, .ref a), (1, .int x1)] := hl
  refine lv_aload_n hx hb dTypes_leftOf_0 rfl (lv_at hl 0 rfl) ?_
  refine lv_iload_n hx hb dTypes_leftOf_1 rfl (lv_at hl 1 rfl) ?_
  refine pu_Vi (rest := []) S hC (c_Types_has l γ Z a N L x1) meTypes_has qw_252588eab3 ⟨Nat.le_of_ble_eq_true rfl, Nat.le_of_ble_eq_true rfl⟩ (va_recv hC.1 hP (ci := 3) (q0 := 0) rfl rfl) hI rfl hl.1 rfl (Nat.le_of_ble_eq_true rfl) dTypes_leftOf_2 ⟨Nat.zero_le _, Nat.zero_le _⟩ (fun r4 hr4 => ?_)
  refine lv_if_eq (tgt := 17) hx hb dTypes_leftOf_5 (by decide) (fun c5 => ?_) (fun c5 => ?_)
  · refine lv_iconst (v := 0) hx hb dTypes_leftOf_17 (by decide) ?_
    exact hE _ _ _ trivial dTypes_leftOf_18
  · refine lv_aload_n hx hb dTypes_leftOf_8 rfl (lv_at hl 0 rfl) ?_
    refine va_get (D := γ.1) (ci := 3) (v := .ref b1) (C := R_Types) (T := T_Types) (N := 5) (Ts := bs_W0) hx hb hW in_Types hown hC.1 hP 0 rfl rfl 1 (by decide) (hW _ qw_3e3b315a67) (fun _ h9 => h9) rfl dTypes_leftOf_9 ?_
    refine lv_iload_n hx hb dTypes_leftOf_12 rfl (lv_at hl 1 rfl) ?_
    refine va_iald hx hb hC.1 hP 2 0 rfl rfl (in_has (by assumption) (by assumption) (by omega) (by omega)) dTypes_leftOf_13 ?_
    refine lv_topi (fun v6 ev6 => ?_)
    refine lv_goto (tgt := 18) hx hb dTypes_leftOf_14 (by decide) ?_
    exact hE _ _ _ trivial dTypes_leftOf_18
theorem k3_Types_leftOf (l : Launch) (γ : gE) (A : Nat → Prop) (κ : Nat → Nat) (x1 : Int32)  : PU l yTypes_leftOf bTypes_leftOf 2 (some .int) 1 21 [.ref (γ.2.2.2 3), .int x1] γ (INV γ A κ) (vp_Si (fun v : Int32 => True)) :=
  pu_up 4 (by decide) (by decide) (fun Z => c_Types_leftOf l γ Z (γ.2.2.2 3) (κ 4) (κ 13) x1)

set_option maxHeartbeats 4000000 in
set_option maxRecDepth 100000 in
theorem c_Types_rightOf (l : Launch) (γ : gE) (Z : Nat → Prop) (a N L : Nat) (x1 : Int32)  : PU l yTypes_rightOf bTypes_rightOf 2 (some .int) 1 21 [.ref a, .int x1] γ (cmp γ (fTypes γ a N L) Z) (vp_Si (fun v : Int32 => True)) := by
  refine pu_openI (by decide) (Nat.le_of_ble_eq_true rfl) ?_
  intro p e s m args below meth c ls Q S hC hI hE hl
  obtain ⟨hx, hb, hml, hown, hW⟩ := id S
  obtain ⟨ws, ⟨b0, b1, b2, b3, f0, f1, f2, f3, rfl, h1, h2, h3⟩, hP, hD⟩ := id hI
  have hP : va_P γ.1 vwCl [(a, .inr (3, [.ref b0, .ref b1, .ref b2, .ref b3, .int (nI N)])), (b0, .inl (γ.2.1, L, .inl f0)), (b1, .inl (γ.2.1, L, .inl f1)), (b2, .inl (γ.2.1, L, .inl f2)), (b3, .inl (γ.2.1, L, .inl f3))] s.heap := hP
  have hl : lv_has ls 2 [(0, .ref a), (1, .int x1)] := hl
  refine lv_aload_n hx hb dTypes_rightOf_0 rfl (lv_at hl 0 rfl) ?_
  refine lv_iload_n hx hb dTypes_rightOf_1 rfl (lv_at hl 1 rfl) ?_
  refine pu_Vi (rest := []) S hC (c_Types_has l γ Z a N L x1) meTypes_has qw_252588eab3 ⟨Nat.le_of_ble_eq_true rfl, Nat.le_of_ble_eq_true rfl⟩ (va_recv hC.1 hP (ci := 3) (q0 := 0) rfl rfl) hI rfl hl.1 rfl (Nat.le_of_ble_eq_true rfl) dTypes_rightOf_2 ⟨Nat.zero_le _, Nat.zero_le _⟩ (fun r4 hr4 => ?_)
  refine lv_if_eq (tgt := 17) hx hb dTypes_rightOf_5 (by decide) (fun c5 => ?_) (fun c5 => ?_)
  · refine lv_iconst (v := 0) hx hb dTypes_rightOf_17 (by decide) ?_
    exact hE _ _ _ trivial dTypes_rightOf_18
  · refine lv_aload_n hx hb dTypes_rightOf_8 rfl (lv_at hl 0 rfl) ?_
    refine va_get (D := γ.1) (ci := 3) (v := .ref b2) (C := R_Types) (T := T_Types) (N := 5) (Ts := bs_W0) hx hb hW in_Types hown hC.1 hP 0 rfl rfl 2 (by decide) (hW _ qw_dd571233a8) (fun _ h9 => h9) rfl dTypes_rightOf_9 ?_
    refine lv_iload_n hx hb dTypes_rightOf_12 rfl (lv_at hl 1 rfl) ?_
    refine va_iald hx hb hC.1 hP 3 0 rfl rfl (in_has (by assumption) (by assumption) (by omega) (by omega)) dTypes_rightOf_13 ?_
    refine lv_topi (fun v6 ev6 => ?_)
    refine lv_goto (tgt := 18) hx hb dTypes_rightOf_14 (by decide) ?_
    exact hE _ _ _ trivial dTypes_rightOf_18
theorem k3_Types_rightOf (l : Launch) (γ : gE) (A : Nat → Prop) (κ : Nat → Nat) (x1 : Int32)  : PU l yTypes_rightOf bTypes_rightOf 2 (some .int) 1 21 [.ref (γ.2.2.2 3), .int x1] γ (INV γ A κ) (vp_Si (fun v : Int32 => True)) :=
  pu_up 4 (by decide) (by decide) (fun Z => c_Types_rightOf l γ Z (γ.2.2.2 3) (κ 4) (κ 13) x1)

set_option maxHeartbeats 4000000 in
set_option maxRecDepth 100000 in
theorem c_Types_countOf (l : Launch) (γ : gE) (Z : Nat → Prop) (a N L : Nat) (x1 : Int32)  : PU l yTypes_countOf bTypes_countOf 2 (some .int) 1 21 [.ref a, .int x1] γ (cmp γ (fTypes γ a N L) Z) (vp_Si (fun v : Int32 => True)) := by
  refine pu_openI (by decide) (Nat.le_of_ble_eq_true rfl) ?_
  intro p e s m args below meth c ls Q S hC hI hE hl
  obtain ⟨hx, hb, hml, hown, hW⟩ := id S
  obtain ⟨ws, ⟨b0, b1, b2, b3, f0, f1, f2, f3, rfl, h1, h2, h3⟩, hP, hD⟩ := id hI
  have hP : va_P γ.1 vwCl [(a, .inr (3, [.ref b0, .ref b1, .ref b2, .ref b3, .int (nI N)])), (b0, .inl (γ.2.1, L, .inl f0)), (b1, .inl (γ.2.1, L, .inl f1)), (b2, .inl (γ.2.1, L, .inl f2)), (b3, .inl (γ.2.1, L, .inl f3))] s.heap := hP
  have hl : lv_has ls 2 [(0, .ref a), (1, .int x1)] := hl
  refine lv_aload_n hx hb dTypes_countOf_0 rfl (lv_at hl 0 rfl) ?_
  refine lv_iload_n hx hb dTypes_countOf_1 rfl (lv_at hl 1 rfl) ?_
  refine pu_Vi (rest := []) S hC (c_Types_has l γ Z a N L x1) meTypes_has qw_252588eab3 ⟨Nat.le_of_ble_eq_true rfl, Nat.le_of_ble_eq_true rfl⟩ (va_recv hC.1 hP (ci := 3) (q0 := 0) rfl rfl) hI rfl hl.1 rfl (Nat.le_of_ble_eq_true rfl) dTypes_countOf_2 ⟨Nat.zero_le _, Nat.zero_le _⟩ (fun r5 hr5 => ?_)
  refine lv_if_eq (tgt := 20) hx hb dTypes_countOf_5 (by decide) (fun c6 => ?_) (fun c6 => ?_)
  · refine lv_iconst (v := 0) hx hb dTypes_countOf_20 (by decide) ?_
    exact hE _ _ _ trivial dTypes_countOf_21
  · refine lv_aload_n hx hb dTypes_countOf_8 rfl (lv_at hl 0 rfl) ?_
    refine va_get (D := γ.1) (ci := 3) (v := .ref b3) (C := R_Types) (T := T_Types) (N := 5) (Ts := bs_W0) hx hb hW in_Types hown hC.1 hP 0 rfl rfl 3 (by decide) (hW _ qw_dded4610c2) (fun _ h9 => h9) rfl dTypes_countOf_9 ?_
    refine lv_iload_n hx hb dTypes_countOf_12 rfl (lv_at hl 1 rfl) ?_
    refine va_iald hx hb hC.1 hP 4 0 rfl rfl (in_has (by assumption) (by assumption) (by omega) (by omega)) dTypes_countOf_13 ?_
    refine lv_topi (fun v7 ev7 => ?_)
    refine va_mabs (rest := []) hx hb (hml.trans hl.1.symm) hown (hW _ qw_3728bb290b) (hW _ qw_788fc9f3dd) (hW _ qw_0001fcaade) (hW _ qw_970e918a43) (Nat.le_of_ble_eq_true rfl) (Nat.le_of_ble_eq_true rfl) (Nat.zero_le _) (Nat.zero_le _) dTypes_countOf_14 ?_
    refine lv_topi (fun v8 ev8 => ?_)
    refine lv_goto (tgt := 21) hx hb dTypes_countOf_17 (by decide) ?_
    exact hE _ _ _ trivial dTypes_countOf_21
theorem k3_Types_countOf (l : Launch) (γ : gE) (A : Nat → Prop) (κ : Nat → Nat) (x1 : Int32)  : PU l yTypes_countOf bTypes_countOf 2 (some .int) 1 21 [.ref (γ.2.2.2 3), .int x1] γ (INV γ A κ) (vp_Si (fun v : Int32 => True)) :=
  pu_up 4 (by decide) (by decide) (fun Z => c_Types_countOf l γ Z (γ.2.2.2 3) (κ 4) (κ 13) x1)

set_option maxHeartbeats 4000000 in
set_option maxRecDepth 100000 in
theorem c_Objects_whatOf (l : Launch) (γ : gE) (Z : Nat → Prop) (a rw N L : Nat) (x1 : Int32)  : PU l yObjects_whatOf bObjects_whatOf 2 (some .int) 1 21 [.ref a, .int x1] γ (cmp γ (fObjects γ a rw N L) Z) (vp_Si (fun v : Int32 => True)) := by
  refine pu_openI (by decide) (Nat.le_of_ble_eq_true rfl) ?_
  intro p e s m args below meth c ls Q S hC hI hE hl
  obtain ⟨hx, hb, hml, hown, hW⟩ := id S
  obtain ⟨ws, ⟨b0, b1, b2, f0, f1, f2, rfl, h1, h2, h3⟩, hP, hD⟩ := id hI
  have hP : va_P γ.1 vwCl [(a, .inr (4, [.ref b0, .ref b1, .ref b2, .ref rw, .int (nI N)])), (b0, .inl (γ.2.1, L, .inl f0)), (b1, .inl (γ.2.1, L, .inl f1)), (b2, .inl (γ.2.1, L, .inl f2))] s.heap := hP
  have hl : lv_has ls 2 [(0, .ref a), (1, .int x1)] := hl
  refine lv_aload_n hx hb dObjects_whatOf_0 rfl (lv_at hl 0 rfl) ?_
  refine lv_iload_n hx hb dObjects_whatOf_1 rfl (lv_at hl 1 rfl) ?_
  refine pu_Vi (rest := []) S hC (c_Objects_has l γ Z a rw N L x1) meObjects_has qw_2f2cb5cb5a ⟨Nat.le_of_ble_eq_true rfl, Nat.le_of_ble_eq_true rfl⟩ (va_recv hC.1 hP (ci := 4) (q0 := 0) rfl rfl) hI rfl hl.1 rfl (Nat.le_of_ble_eq_true rfl) dObjects_whatOf_2 ⟨Nat.zero_le _, Nat.zero_le _⟩ (fun r4 hr4 => ?_)
  refine lv_if_eq (tgt := 17) hx hb dObjects_whatOf_5 (by decide) (fun c5 => ?_) (fun c5 => ?_)
  · refine lv_iconst (v := (-1)) hx hb dObjects_whatOf_17 (by decide) ?_
    exact hE _ _ _ trivial dObjects_whatOf_18
  · refine lv_aload_n hx hb dObjects_whatOf_8 rfl (lv_at hl 0 rfl) ?_
    refine va_get (D := γ.1) (ci := 4) (v := .ref b0) (C := R_Objects) (T := T_Objects) (N := 5) (Ts := bs_W0) hx hb hW in_Objects hown hC.1 hP 0 rfl rfl 0 (by decide) (hW _ qw_bb1fa418e1) (fun _ h9 => h9) rfl dObjects_whatOf_9 ?_
    refine lv_iload_n hx hb dObjects_whatOf_12 rfl (lv_at hl 1 rfl) ?_
    refine va_iald hx hb hC.1 hP 1 0 rfl rfl (in_has (by assumption) (by assumption) (by omega) (by omega)) dObjects_whatOf_13 ?_
    refine lv_topi (fun v6 ev6 => ?_)
    refine lv_goto (tgt := 18) hx hb dObjects_whatOf_14 (by decide) ?_
    exact hE _ _ _ trivial dObjects_whatOf_18
theorem k4_Objects_whatOf (l : Launch) (γ : gE) (A : Nat → Prop) (κ : Nat → Nat) (x1 : Int32)  : PU l yObjects_whatOf bObjects_whatOf 2 (some .int) 1 21 [.ref (γ.2.2.2 4), .int x1] γ (INV γ A κ) (vp_Si (fun v : Int32 => True)) :=
  pu_up 5 (by decide) (by decide) (fun Z => c_Objects_whatOf l γ Z (γ.2.2.2 4) (γ.2.2.2 5) (κ 5) (κ 14) x1)

set_option maxHeartbeats 4000000 in
set_option maxRecDepth 100000 in
theorem c_Objects_typeOfObject (l : Launch) (γ : gE) (Z : Nat → Prop) (a rw N L : Nat) (x1 : Int32)  : PU l yObjects_typeOfObject bObjects_typeOfObject 2 (some .int) 1 21 [.ref a, .int x1] γ (cmp γ (fObjects γ a rw N L) Z) (vp_Si (fun v : Int32 => True)) := by
  refine pu_openI (by decide) (Nat.le_of_ble_eq_true rfl) ?_
  intro p e s m args below meth c ls Q S hC hI hE hl
  obtain ⟨hx, hb, hml, hown, hW⟩ := id S
  obtain ⟨ws, ⟨b0, b1, b2, f0, f1, f2, rfl, h1, h2, h3⟩, hP, hD⟩ := id hI
  have hP : va_P γ.1 vwCl [(a, .inr (4, [.ref b0, .ref b1, .ref b2, .ref rw, .int (nI N)])), (b0, .inl (γ.2.1, L, .inl f0)), (b1, .inl (γ.2.1, L, .inl f1)), (b2, .inl (γ.2.1, L, .inl f2))] s.heap := hP
  have hl : lv_has ls 2 [(0, .ref a), (1, .int x1)] := hl
  refine lv_aload_n hx hb dObjects_typeOfObject_0 rfl (lv_at hl 0 rfl) ?_
  refine lv_iload_n hx hb dObjects_typeOfObject_1 rfl (lv_at hl 1 rfl) ?_
  refine pu_Vi (rest := []) S hC (c_Objects_has l γ Z a rw N L x1) meObjects_has qw_2f2cb5cb5a ⟨Nat.le_of_ble_eq_true rfl, Nat.le_of_ble_eq_true rfl⟩ (va_recv hC.1 hP (ci := 4) (q0 := 0) rfl rfl) hI rfl hl.1 rfl (Nat.le_of_ble_eq_true rfl) dObjects_typeOfObject_2 ⟨Nat.zero_le _, Nat.zero_le _⟩ (fun r4 hr4 => ?_)
  refine lv_if_eq (tgt := 17) hx hb dObjects_typeOfObject_5 (by decide) (fun c5 => ?_) (fun c5 => ?_)
  · refine lv_iconst (v := (-1)) hx hb dObjects_typeOfObject_17 (by decide) ?_
    exact hE _ _ _ trivial dObjects_typeOfObject_18
  · refine lv_aload_n hx hb dObjects_typeOfObject_8 rfl (lv_at hl 0 rfl) ?_
    refine va_get (D := γ.1) (ci := 4) (v := .ref b1) (C := R_Objects) (T := T_Objects) (N := 5) (Ts := bs_W0) hx hb hW in_Objects hown hC.1 hP 0 rfl rfl 1 (by decide) (hW _ qw_541217fbcc) (fun _ h9 => h9) rfl dObjects_typeOfObject_9 ?_
    refine lv_iload_n hx hb dObjects_typeOfObject_12 rfl (lv_at hl 1 rfl) ?_
    refine va_iald hx hb hC.1 hP 2 0 rfl rfl (in_has (by assumption) (by assumption) (by omega) (by omega)) dObjects_typeOfObject_13 ?_
    refine lv_topi (fun v6 ev6 => ?_)
    refine lv_goto (tgt := 18) hx hb dObjects_typeOfObject_14 (by decide) ?_
    exact hE _ _ _ trivial dObjects_typeOfObject_18
theorem k4_Objects_typeOfObject (l : Launch) (γ : gE) (A : Nat → Prop) (κ : Nat → Nat) (x1 : Int32)  : PU l yObjects_typeOfObject bObjects_typeOfObject 2 (some .int) 1 21 [.ref (γ.2.2.2 4), .int x1] γ (INV γ A κ) (vp_Si (fun v : Int32 => True)) :=
  pu_up 5 (by decide) (by decide) (fun Z => c_Objects_typeOfObject l γ Z (γ.2.2.2 4) (γ.2.2.2 5) (κ 5) (κ 14) x1)

set_option maxHeartbeats 4000000 in
set_option maxRecDepth 100000 in
theorem c_Objects_numberOf (l : Launch) (γ : gE) (Z : Nat → Prop) (a rw N L : Nat) (x1 : Int32)  : PU l yObjects_numberOf bObjects_numberOf 2 (some .int) 1 21 [.ref a, .int x1] γ (cmp γ (fObjects γ a rw N L) Z) (vp_Si (fun v : Int32 => True)) := by
  refine pu_openI (by decide) (Nat.le_of_ble_eq_true rfl) ?_
  intro p e s m args below meth c ls Q S hC hI hE hl
  obtain ⟨hx, hb, hml, hown, hW⟩ := id S
  obtain ⟨ws, ⟨b0, b1, b2, f0, f1, f2, rfl, h1, h2, h3⟩, hP, hD⟩ := id hI
  have hP : va_P γ.1 vwCl [(a, .inr (4, [.ref b0, .ref b1, .ref b2, .ref rw, .int (nI N)])), (b0, .inl (γ.2.1, L, .inl f0)), (b1, .inl (γ.2.1, L, .inl f1)), (b2, .inl (γ.2.1, L, .inl f2))] s.heap := hP
  have hl : lv_has ls 2 [(0, .ref a), (1, .int x1)] := hl
  refine lv_aload_n hx hb dObjects_numberOf_0 rfl (lv_at hl 0 rfl) ?_
  refine lv_iload_n hx hb dObjects_numberOf_1 rfl (lv_at hl 1 rfl) ?_
  refine pu_Vi (rest := []) S hC (c_Objects_has l γ Z a rw N L x1) meObjects_has qw_2f2cb5cb5a ⟨Nat.le_of_ble_eq_true rfl, Nat.le_of_ble_eq_true rfl⟩ (va_recv hC.1 hP (ci := 4) (q0 := 0) rfl rfl) hI rfl hl.1 rfl (Nat.le_of_ble_eq_true rfl) dObjects_numberOf_2 ⟨Nat.zero_le _, Nat.zero_le _⟩ (fun r4 hr4 => ?_)
  refine lv_if_eq (tgt := 17) hx hb dObjects_numberOf_5 (by decide) (fun c5 => ?_) (fun c5 => ?_)
  · refine lv_iconst (v := 0) hx hb dObjects_numberOf_17 (by decide) ?_
    exact hE _ _ _ trivial dObjects_numberOf_18
  · refine lv_aload_n hx hb dObjects_numberOf_8 rfl (lv_at hl 0 rfl) ?_
    refine va_get (D := γ.1) (ci := 4) (v := .ref b2) (C := R_Objects) (T := T_Objects) (N := 5) (Ts := bs_W0) hx hb hW in_Objects hown hC.1 hP 0 rfl rfl 2 (by decide) (hW _ qw_0ed5786ef0) (fun _ h9 => h9) rfl dObjects_numberOf_9 ?_
    refine lv_iload_n hx hb dObjects_numberOf_12 rfl (lv_at hl 1 rfl) ?_
    refine va_iald hx hb hC.1 hP 3 0 rfl rfl (in_has (by assumption) (by assumption) (by omega) (by omega)) dObjects_numberOf_13 ?_
    refine lv_topi (fun v6 ev6 => ?_)
    refine lv_goto (tgt := 18) hx hb dObjects_numberOf_14 (by decide) ?_
    exact hE _ _ _ trivial dObjects_numberOf_18
theorem k4_Objects_numberOf (l : Launch) (γ : gE) (A : Nat → Prop) (κ : Nat → Nat) (x1 : Int32)  : PU l yObjects_numberOf bObjects_numberOf 2 (some .int) 1 21 [.ref (γ.2.2.2 4), .int x1] γ (INV γ A κ) (vp_Si (fun v : Int32 => True)) :=
  pu_up 5 (by decide) (by decide) (fun Z => c_Objects_numberOf l γ Z (γ.2.2.2 4) (γ.2.2.2 5) (κ 5) (κ 14) x1)

set_option maxHeartbeats 4000000 in
set_option maxRecDepth 100000 in
theorem c_Looks_classOf (l : Launch) (γ : gE) (Z : Nat → Prop) (a rw L : Nat) (x1 : Int32)  : PU l yLooks_classOf bLooks_classOf 2 (some .int) 1 21 [.ref a, .int x1] γ (cmp γ (fLooks γ a rw L) Z) (vp_Si (fun v : Int32 => True)) := by
  refine pu_openI (by decide) (Nat.le_of_ble_eq_true rfl) ?_
  intro p e s m args below meth c ls Q S hC hI hE hl
  obtain ⟨hx, hb, hml, hown, hW⟩ := id S
  obtain ⟨ws, ⟨b0, b1, b2, b3, b4, f0, f1, f2, f3, f4, rfl, h1, h2⟩, hP, hD⟩ := id hI
  have hP : va_P γ.1 vwCl [(a, .inr (6, [.ref b0, .ref b1, .ref b2, .ref b3, .ref b4, .ref rw])), (b0, .inl (γ.2.1, L, .inl f0)), (b1, .inl (γ.2.1, L, .inl f1)), (b2, .inl (γ.2.1, L, .inl f2)), (b3, .inl (γ.2.1, L, .inl f3)), (b4, .inl (γ.2.1, L, .inl f4))] s.heap := hP
  have hl : lv_has ls 2 [(0, .ref a), (1, .int x1)] := hl
  refine lv_aload_n hx hb dLooks_classOf_0 rfl (lv_at hl 0 rfl) ?_
  refine lv_iload_n hx hb dLooks_classOf_1 rfl (lv_at hl 1 rfl) ?_
  refine pu_Vi (rest := []) S hC (c_Looks_has l γ Z a rw L x1) meLooks_has qw_4e5fd4a1cd ⟨Nat.le_of_ble_eq_true rfl, Nat.le_of_ble_eq_true rfl⟩ (va_recv hC.1 hP (ci := 6) (q0 := 0) rfl rfl) hI rfl hl.1 rfl (Nat.le_of_ble_eq_true rfl) dLooks_classOf_2 ⟨Nat.zero_le _, Nat.zero_le _⟩ (fun r4 hr4 => ?_)
  refine lv_if_eq (tgt := 17) hx hb dLooks_classOf_5 (by decide) (fun c5 => ?_) (fun c5 => ?_)
  · refine lv_iconst (v := (-1)) hx hb dLooks_classOf_17 (by decide) ?_
    exact hE _ _ _ trivial dLooks_classOf_18
  · refine lv_aload_n hx hb dLooks_classOf_8 rfl (lv_at hl 0 rfl) ?_
    refine va_get (D := γ.1) (ci := 6) (v := .ref b0) (C := R_Looks) (T := T_Looks) (N := 6) (Ts := bs_W0) hx hb hW in_Looks hown hC.1 hP 0 rfl rfl 0 (by decide) (hW _ qw_ac7df03aa7) (fun _ h9 => h9) rfl dLooks_classOf_9 ?_
    refine lv_iload_n hx hb dLooks_classOf_12 rfl (lv_at hl 1 rfl) ?_
    refine va_iald hx hb hC.1 hP 1 0 rfl rfl (in_has (by assumption) (by assumption) (by omega) (by omega)) dLooks_classOf_13 ?_
    refine lv_topi (fun v6 ev6 => ?_)
    refine lv_goto (tgt := 18) hx hb dLooks_classOf_14 (by decide) ?_
    exact hE _ _ _ trivial dLooks_classOf_18
theorem k6_Looks_classOf (l : Launch) (γ : gE) (A : Nat → Prop) (κ : Nat → Nat) (x1 : Int32)  : PU l yLooks_classOf bLooks_classOf 2 (some .int) 1 21 [.ref (γ.2.2.2 6), .int x1] γ (INV γ A κ) (vp_Si (fun v : Int32 => True)) :=
  pu_up 7 (by decide) (by decide) (fun Z => c_Looks_classOf l γ Z (γ.2.2.2 6) (γ.2.2.2 7) (κ 6) x1)
theorem k9_Looks_classOf (l : Launch) (γ : gE) (A : Nat → Prop) (κ : Nat → Nat) (x1 : Int32)  : PU l yLooks_classOf bLooks_classOf 2 (some .int) 1 21 [.ref (γ.2.2.2 9), .int x1] γ (INV γ A κ) (vp_Si (fun v : Int32 => True)) :=
  pu_up 9 (by decide) (by decide) (fun Z => c_Looks_classOf l γ Z (γ.2.2.2 9) (γ.2.2.2 10) (κ 7) x1)

set_option maxHeartbeats 4000000 in
set_option maxRecDepth 100000 in
theorem c_Looks_extentOf (l : Launch) (γ : gE) (Z : Nat → Prop) (a rw L : Nat) (x1 : Int32)  : PU l yLooks_extentOf bLooks_extentOf 2 (some .int) 1 21 [.ref a, .int x1] γ (cmp γ (fLooks γ a rw L) Z) (vp_Si (fun v : Int32 => True)) := by
  refine pu_openI (by decide) (Nat.le_of_ble_eq_true rfl) ?_
  intro p e s m args below meth c ls Q S hC hI hE hl
  obtain ⟨hx, hb, hml, hown, hW⟩ := id S
  obtain ⟨ws, ⟨b0, b1, b2, b3, b4, f0, f1, f2, f3, f4, rfl, h1, h2⟩, hP, hD⟩ := id hI
  have hP : va_P γ.1 vwCl [(a, .inr (6, [.ref b0, .ref b1, .ref b2, .ref b3, .ref b4, .ref rw])), (b0, .inl (γ.2.1, L, .inl f0)), (b1, .inl (γ.2.1, L, .inl f1)), (b2, .inl (γ.2.1, L, .inl f2)), (b3, .inl (γ.2.1, L, .inl f3)), (b4, .inl (γ.2.1, L, .inl f4))] s.heap := hP
  have hl : lv_has ls 2 [(0, .ref a), (1, .int x1)] := hl
  refine lv_aload_n hx hb dLooks_extentOf_0 rfl (lv_at hl 0 rfl) ?_
  refine lv_iload_n hx hb dLooks_extentOf_1 rfl (lv_at hl 1 rfl) ?_
  refine pu_Vi (rest := []) S hC (c_Looks_has l γ Z a rw L x1) meLooks_has qw_4e5fd4a1cd ⟨Nat.le_of_ble_eq_true rfl, Nat.le_of_ble_eq_true rfl⟩ (va_recv hC.1 hP (ci := 6) (q0 := 0) rfl rfl) hI rfl hl.1 rfl (Nat.le_of_ble_eq_true rfl) dLooks_extentOf_2 ⟨Nat.zero_le _, Nat.zero_le _⟩ (fun r4 hr4 => ?_)
  refine lv_if_eq (tgt := 17) hx hb dLooks_extentOf_5 (by decide) (fun c5 => ?_) (fun c5 => ?_)
  · refine lv_iconst (v := 0) hx hb dLooks_extentOf_17 (by decide) ?_
    exact hE _ _ _ trivial dLooks_extentOf_18
  · refine lv_aload_n hx hb dLooks_extentOf_8 rfl (lv_at hl 0 rfl) ?_
    refine va_get (D := γ.1) (ci := 6) (v := .ref b1) (C := R_Looks) (T := T_Looks) (N := 6) (Ts := bs_W0) hx hb hW in_Looks hown hC.1 hP 0 rfl rfl 1 (by decide) (hW _ qw_7dd30c70bd) (fun _ h9 => h9) rfl dLooks_extentOf_9 ?_
    refine lv_iload_n hx hb dLooks_extentOf_12 rfl (lv_at hl 1 rfl) ?_
    refine va_iald hx hb hC.1 hP 2 0 rfl rfl (in_has (by assumption) (by assumption) (by omega) (by omega)) dLooks_extentOf_13 ?_
    refine lv_topi (fun v6 ev6 => ?_)
    refine lv_goto (tgt := 18) hx hb dLooks_extentOf_14 (by decide) ?_
    exact hE _ _ _ trivial dLooks_extentOf_18
theorem k6_Looks_extentOf (l : Launch) (γ : gE) (A : Nat → Prop) (κ : Nat → Nat) (x1 : Int32)  : PU l yLooks_extentOf bLooks_extentOf 2 (some .int) 1 21 [.ref (γ.2.2.2 6), .int x1] γ (INV γ A κ) (vp_Si (fun v : Int32 => True)) :=
  pu_up 7 (by decide) (by decide) (fun Z => c_Looks_extentOf l γ Z (γ.2.2.2 6) (γ.2.2.2 7) (κ 6) x1)
theorem k9_Looks_extentOf (l : Launch) (γ : gE) (A : Nat → Prop) (κ : Nat → Nat) (x1 : Int32)  : PU l yLooks_extentOf bLooks_extentOf 2 (some .int) 1 21 [.ref (γ.2.2.2 9), .int x1] γ (INV γ A κ) (vp_Si (fun v : Int32 => True)) :=
  pu_up 9 (by decide) (by decide) (fun Z => c_Looks_extentOf l γ Z (γ.2.2.2 9) (γ.2.2.2 10) (κ 7) x1)

set_option maxHeartbeats 4000000 in
set_option maxRecDepth 100000 in
theorem c_Looks_meaningOf (l : Launch) (γ : gE) (Z : Nat → Prop) (a rw L : Nat) (x1 : Int32)  : PU l yLooks_meaningOf bLooks_meaningOf 2 (some .int) 1 21 [.ref a, .int x1] γ (cmp γ (fLooks γ a rw L) Z) (vp_Si (fun v : Int32 => True)) := by
  refine pu_openI (by decide) (Nat.le_of_ble_eq_true rfl) ?_
  intro p e s m args below meth c ls Q S hC hI hE hl
  obtain ⟨hx, hb, hml, hown, hW⟩ := id S
  obtain ⟨ws, ⟨b0, b1, b2, b3, b4, f0, f1, f2, f3, f4, rfl, h1, h2⟩, hP, hD⟩ := id hI
  have hP : va_P γ.1 vwCl [(a, .inr (6, [.ref b0, .ref b1, .ref b2, .ref b3, .ref b4, .ref rw])), (b0, .inl (γ.2.1, L, .inl f0)), (b1, .inl (γ.2.1, L, .inl f1)), (b2, .inl (γ.2.1, L, .inl f2)), (b3, .inl (γ.2.1, L, .inl f3)), (b4, .inl (γ.2.1, L, .inl f4))] s.heap := hP
  have hl : lv_has ls 2 [(0, .ref a), (1, .int x1)] := hl
  refine lv_aload_n hx hb dLooks_meaningOf_0 rfl (lv_at hl 0 rfl) ?_
  refine lv_iload_n hx hb dLooks_meaningOf_1 rfl (lv_at hl 1 rfl) ?_
  refine pu_Vi (rest := []) S hC (c_Looks_has l γ Z a rw L x1) meLooks_has qw_4e5fd4a1cd ⟨Nat.le_of_ble_eq_true rfl, Nat.le_of_ble_eq_true rfl⟩ (va_recv hC.1 hP (ci := 6) (q0 := 0) rfl rfl) hI rfl hl.1 rfl (Nat.le_of_ble_eq_true rfl) dLooks_meaningOf_2 ⟨Nat.zero_le _, Nat.zero_le _⟩ (fun r4 hr4 => ?_)
  refine lv_if_eq (tgt := 17) hx hb dLooks_meaningOf_5 (by decide) (fun c5 => ?_) (fun c5 => ?_)
  · refine lv_iconst (v := (-1)) hx hb dLooks_meaningOf_17 (by decide) ?_
    exact hE _ _ _ trivial dLooks_meaningOf_18
  · refine lv_aload_n hx hb dLooks_meaningOf_8 rfl (lv_at hl 0 rfl) ?_
    refine va_get (D := γ.1) (ci := 6) (v := .ref b2) (C := R_Looks) (T := T_Looks) (N := 6) (Ts := bs_W0) hx hb hW in_Looks hown hC.1 hP 0 rfl rfl 2 (by decide) (hW _ qw_427e012605) (fun _ h9 => h9) rfl dLooks_meaningOf_9 ?_
    refine lv_iload_n hx hb dLooks_meaningOf_12 rfl (lv_at hl 1 rfl) ?_
    refine va_iald hx hb hC.1 hP 3 0 rfl rfl (in_has (by assumption) (by assumption) (by omega) (by omega)) dLooks_meaningOf_13 ?_
    refine lv_topi (fun v6 ev6 => ?_)
    refine lv_goto (tgt := 18) hx hb dLooks_meaningOf_14 (by decide) ?_
    exact hE _ _ _ trivial dLooks_meaningOf_18
theorem k6_Looks_meaningOf (l : Launch) (γ : gE) (A : Nat → Prop) (κ : Nat → Nat) (x1 : Int32)  : PU l yLooks_meaningOf bLooks_meaningOf 2 (some .int) 1 21 [.ref (γ.2.2.2 6), .int x1] γ (INV γ A κ) (vp_Si (fun v : Int32 => True)) :=
  pu_up 7 (by decide) (by decide) (fun Z => c_Looks_meaningOf l γ Z (γ.2.2.2 6) (γ.2.2.2 7) (κ 6) x1)
theorem k9_Looks_meaningOf (l : Launch) (γ : gE) (A : Nat → Prop) (κ : Nat → Nat) (x1 : Int32)  : PU l yLooks_meaningOf bLooks_meaningOf 2 (some .int) 1 21 [.ref (γ.2.2.2 9), .int x1] γ (INV γ A κ) (vp_Si (fun v : Int32 => True)) :=
  pu_up 9 (by decide) (by decide) (fun Z => c_Looks_meaningOf l γ Z (γ.2.2.2 9) (γ.2.2.2 10) (κ 7) x1)

set_option maxHeartbeats 4000000 in
set_option maxRecDepth 100000 in
theorem c_Looks_numberOf (l : Launch) (γ : gE) (Z : Nat → Prop) (a rw L : Nat) (x1 : Int32)  : PU l yLooks_numberOf bLooks_numberOf 2 (some .int) 1 21 [.ref a, .int x1] γ (cmp γ (fLooks γ a rw L) Z) (vp_Si (fun v : Int32 => True)) := by
  refine pu_openI (by decide) (Nat.le_of_ble_eq_true rfl) ?_
  intro p e s m args below meth c ls Q S hC hI hE hl
  obtain ⟨hx, hb, hml, hown, hW⟩ := id S
  obtain ⟨ws, ⟨b0, b1, b2, b3, b4, f0, f1, f2, f3, f4, rfl, h1, h2⟩, hP, hD⟩ := id hI
  have hP : va_P γ.1 vwCl [(a, .inr (6, [.ref b0, .ref b1, .ref b2, .ref b3, .ref b4, .ref rw])), (b0, .inl (γ.2.1, L, .inl f0)), (b1, .inl (γ.2.1, L, .inl f1)), (b2, .inl (γ.2.1, L, .inl f2)), (b3, .inl (γ.2.1, L, .inl f3)), (b4, .inl (γ.2.1, L, .inl f4))] s.heap := hP
  have hl : lv_has ls 2 [(0, .ref a), (1, .int x1)] := hl
  refine lv_aload_n hx hb dLooks_numberOf_0 rfl (lv_at hl 0 rfl) ?_
  refine lv_iload_n hx hb dLooks_numberOf_1 rfl (lv_at hl 1 rfl) ?_
  refine pu_Vi (rest := []) S hC (c_Looks_has l γ Z a rw L x1) meLooks_has qw_4e5fd4a1cd ⟨Nat.le_of_ble_eq_true rfl, Nat.le_of_ble_eq_true rfl⟩ (va_recv hC.1 hP (ci := 6) (q0 := 0) rfl rfl) hI rfl hl.1 rfl (Nat.le_of_ble_eq_true rfl) dLooks_numberOf_2 ⟨Nat.zero_le _, Nat.zero_le _⟩ (fun r4 hr4 => ?_)
  refine lv_if_eq (tgt := 17) hx hb dLooks_numberOf_5 (by decide) (fun c5 => ?_) (fun c5 => ?_)
  · refine lv_iconst (v := 0) hx hb dLooks_numberOf_17 (by decide) ?_
    exact hE _ _ _ trivial dLooks_numberOf_18
  · refine lv_aload_n hx hb dLooks_numberOf_8 rfl (lv_at hl 0 rfl) ?_
    refine va_get (D := γ.1) (ci := 6) (v := .ref b3) (C := R_Looks) (T := T_Looks) (N := 6) (Ts := bs_W0) hx hb hW in_Looks hown hC.1 hP 0 rfl rfl 3 (by decide) (hW _ qw_5344cf30a3) (fun _ h9 => h9) rfl dLooks_numberOf_9 ?_
    refine lv_iload_n hx hb dLooks_numberOf_12 rfl (lv_at hl 1 rfl) ?_
    refine va_iald hx hb hC.1 hP 4 0 rfl rfl (in_has (by assumption) (by assumption) (by omega) (by omega)) dLooks_numberOf_13 ?_
    refine lv_topi (fun v6 ev6 => ?_)
    refine lv_goto (tgt := 18) hx hb dLooks_numberOf_14 (by decide) ?_
    exact hE _ _ _ trivial dLooks_numberOf_18
theorem k6_Looks_numberOf (l : Launch) (γ : gE) (A : Nat → Prop) (κ : Nat → Nat) (x1 : Int32)  : PU l yLooks_numberOf bLooks_numberOf 2 (some .int) 1 21 [.ref (γ.2.2.2 6), .int x1] γ (INV γ A κ) (vp_Si (fun v : Int32 => True)) :=
  pu_up 7 (by decide) (by decide) (fun Z => c_Looks_numberOf l γ Z (γ.2.2.2 6) (γ.2.2.2 7) (κ 6) x1)
theorem k9_Looks_numberOf (l : Launch) (γ : gE) (A : Nat → Prop) (κ : Nat → Nat) (x1 : Int32)  : PU l yLooks_numberOf bLooks_numberOf 2 (some .int) 1 21 [.ref (γ.2.2.2 9), .int x1] γ (INV γ A κ) (vp_Si (fun v : Int32 => True)) :=
  pu_up 9 (by decide) (by decide) (fun Z => c_Looks_numberOf l γ Z (γ.2.2.2 9) (γ.2.2.2 10) (κ 7) x1)

set_option maxHeartbeats 4000000 in
set_option maxRecDepth 100000 in
theorem c_Trees_firstOf (l : Launch) (γ : gE) (Z : Nat → Prop) (a N rt L : Nat) (x1 : Int32)  : PU l yTrees_firstOf bTrees_firstOf 2 (some .int) 1 21 [.ref a, .int x1] γ (cmp γ (fTrees γ a N rt L) Z) (vp_Si (fun v : Int32 => ¬ v < 0)) := by
  refine pu_openI (by decide) (Nat.le_of_ble_eq_true rfl) ?_
  intro p e s m args below meth c ls Q S hC hI hE hl
  obtain ⟨hx, hb, hml, hown, hW⟩ := id S
  obtain ⟨ws, ⟨b0, b1, b2, b3, f0, f1, f2, f3, rfl, h1, h2, h3, h4, h5, h6⟩, hP, hD⟩ := id hI
  have hP : va_P γ.1 vwCl [(a, .inr (1, [.ref b0, .ref b1, .ref b2, .ref b3, .int (nI N), .int (nI rt)])), (b0, .inl (γ.2.1, L, .inl f0)), (b1, .inl (γ.2.1, L, .inl f1)), (b2, .inl (γ.2.1, L, .inl f2)), (b3, .inl (γ.2.1, L, .inl f3))] s.heap := hP
  have hl : lv_has ls 2 [(0, .ref a), (1, .int x1)] := hl
  refine lv_aload_n hx hb dTrees_firstOf_0 rfl (lv_at hl 0 rfl) ?_
  refine lv_iload_n hx hb dTrees_firstOf_1 rfl (lv_at hl 1 rfl) ?_
  refine pu_Vi (rest := []) S hC (c_Trees_has l γ Z a N rt L x1) meTrees_has qw_42d433c8d4 ⟨Nat.le_of_ble_eq_true rfl, Nat.le_of_ble_eq_true rfl⟩ (va_recv hC.1 hP (ci := 1) (q0 := 0) rfl rfl) hI rfl hl.1 rfl (Nat.le_of_ble_eq_true rfl) dTrees_firstOf_2 ⟨Nat.zero_le _, Nat.zero_le _⟩ (fun r4 hr4 => ?_)
  refine lv_if_eq (tgt := 17) hx hb dTrees_firstOf_5 (by decide) (fun c5 => ?_) (fun c5 => ?_)
  · refine lv_iconst (v := 0) hx hb dTrees_firstOf_17 (by decide) ?_
    exact hE _ _ _ (by first | decide | (subst_vars; exact first_ok (by assumption) (by assumption) (by assumption) (by omega))) dTrees_firstOf_18
  · refine lv_aload_n hx hb dTrees_firstOf_8 rfl (lv_at hl 0 rfl) ?_
    refine va_get (D := γ.1) (ci := 1) (v := .ref b3) (C := R_Trees) (T := T_Trees) (N := 6) (Ts := bs_W0) hx hb hW in_Trees hown hC.1 hP 0 rfl rfl 3 (by decide) (hW _ qw_3682c3415f) (fun _ h9 => h9) rfl dTrees_firstOf_9 ?_
    refine lv_iload_n hx hb dTrees_firstOf_12 rfl (lv_at hl 1 rfl) ?_
    refine va_iald hx hb hC.1 hP 4 0 rfl rfl (in_has (by assumption) (by assumption) (by omega) (by omega)) dTrees_firstOf_13 ?_
    refine lv_topi (fun v6 ev6 => ?_)
    refine lv_goto (tgt := 18) hx hb dTrees_firstOf_14 (by decide) ?_
    exact hE _ _ _ (by first | decide | (subst_vars; exact first_ok (by assumption) (by assumption) (by assumption) (by omega))) dTrees_firstOf_18
theorem k1_Trees_firstOf (l : Launch) (γ : gE) (A : Nat → Prop) (κ : Nat → Nat) (x1 : Int32)  : PU l yTrees_firstOf bTrees_firstOf 2 (some .int) 1 21 [.ref (γ.2.2.2 1), .int x1] γ (INV γ A κ) (vp_Si (fun v : Int32 => ¬ v < 0)) :=
  pu_up 2 (by decide) (by decide) (fun Z => c_Trees_firstOf l γ Z (γ.2.2.2 1) (κ 0) (κ 1) (κ 11) x1)

set_option maxHeartbeats 4000000 in
set_option maxRecDepth 100000 in
theorem c_Trees_countOf (l : Launch) (γ : gE) (Z : Nat → Prop) (a N rt L : Nat) (x1 : Int32)  : PU l yTrees_countOf bTrees_countOf 2 (some .int) 1 21 [.ref a, .int x1] γ (cmp γ (fTrees γ a N rt L) Z) (vp_Si (fun v : Int32 => ∃ j, j ≤ 4096 ∧ v = nI j)) := by
  refine pu_openI (by decide) (Nat.le_of_ble_eq_true rfl) ?_
  intro p e s m args below meth c ls Q S hC hI hE hl
  obtain ⟨hx, hb, hml, hown, hW⟩ := id S
  obtain ⟨ws, ⟨b0, b1, b2, b3, f0, f1, f2, f3, rfl, h1, h2, h3, h4, h5, h6⟩, hP, hD⟩ := id hI
  have hP : va_P γ.1 vwCl [(a, .inr (1, [.ref b0, .ref b1, .ref b2, .ref b3, .int (nI N), .int (nI rt)])), (b0, .inl (γ.2.1, L, .inl f0)), (b1, .inl (γ.2.1, L, .inl f1)), (b2, .inl (γ.2.1, L, .inl f2)), (b3, .inl (γ.2.1, L, .inl f3))] s.heap := hP
  have hl : lv_has ls 2 [(0, .ref a), (1, .int x1)] := hl
  refine lv_aload_n hx hb dTrees_countOf_0 rfl (lv_at hl 0 rfl) ?_
  refine lv_iload_n hx hb dTrees_countOf_1 rfl (lv_at hl 1 rfl) ?_
  refine pu_Vi (rest := []) S hC (c_Trees_has l γ Z a N rt L x1) meTrees_has qw_42d433c8d4 ⟨Nat.le_of_ble_eq_true rfl, Nat.le_of_ble_eq_true rfl⟩ (va_recv hC.1 hP (ci := 1) (q0 := 0) rfl rfl) hI rfl hl.1 rfl (Nat.le_of_ble_eq_true rfl) dTrees_countOf_2 ⟨Nat.zero_le _, Nat.zero_le _⟩ (fun r4 hr4 => ?_)
  refine lv_if_eq (tgt := 17) hx hb dTrees_countOf_5 (by decide) (fun c5 => ?_) (fun c5 => ?_)
  · refine lv_iconst (v := 0) hx hb dTrees_countOf_17 (by decide) ?_
    exact hE _ _ _ (by first | exact ⟨0, by omega, rfl⟩ | (subst_vars; exact cnt_ok (by assumption) (by assumption) (by assumption) (by omega))) dTrees_countOf_18
  · refine lv_aload_n hx hb dTrees_countOf_8 rfl (lv_at hl 0 rfl) ?_
    refine va_get (D := γ.1) (ci := 1) (v := .ref b2) (C := R_Trees) (T := T_Trees) (N := 6) (Ts := bs_W0) hx hb hW in_Trees hown hC.1 hP 0 rfl rfl 2 (by decide) (hW _ qw_887ccc8355) (fun _ h9 => h9) rfl dTrees_countOf_9 ?_
    refine lv_iload_n hx hb dTrees_countOf_12 rfl (lv_at hl 1 rfl) ?_
    refine va_iald hx hb hC.1 hP 3 0 rfl rfl (in_has (by assumption) (by assumption) (by omega) (by omega)) dTrees_countOf_13 ?_
    refine lv_topi (fun v6 ev6 => ?_)
    refine lv_goto (tgt := 18) hx hb dTrees_countOf_14 (by decide) ?_
    exact hE _ _ _ (by first | exact ⟨0, by omega, rfl⟩ | (subst_vars; exact cnt_ok (by assumption) (by assumption) (by assumption) (by omega))) dTrees_countOf_18
theorem k1_Trees_countOf (l : Launch) (γ : gE) (A : Nat → Prop) (κ : Nat → Nat) (x1 : Int32)  : PU l yTrees_countOf bTrees_countOf 2 (some .int) 1 21 [.ref (γ.2.2.2 1), .int x1] γ (INV γ A κ) (vp_Si (fun v : Int32 => ∃ j, j ≤ 4096 ∧ v = nI j)) :=
  pu_up 2 (by decide) (by decide) (fun Z => c_Trees_countOf l γ Z (γ.2.2.2 1) (κ 0) (κ 1) (κ 11) x1)

set_option maxHeartbeats 4000000 in
set_option maxRecDepth 100000 in
theorem c_Trees_leftOfTwo (l : Launch) (γ : gE) (Z : Nat → Prop) (a N rt L : Nat) (x1 : Int32)  : PU l yTrees_leftOfTwo bTrees_leftOfTwo 2 (some .int) 2 42 [.ref a, .int x1] γ (cmp γ (fTrees γ a N rt L) Z) (vp_Si (fun v : Int32 => True)) := by
  refine pu_openI (by decide) (Nat.le_of_ble_eq_true rfl) ?_
  intro p e s m args below meth c ls Q S hC hI hE hl
  obtain ⟨hx, hb, hml, hown, hW⟩ := id S
  obtain ⟨ws, ⟨b0, b1, b2, b3, f0, f1, f2, f3, rfl, h1, h2, h3, h4, h5, h6⟩, hP, hD⟩ := id hI
  have hP : va_P γ.1 vwCl [(a, .inr (1, [.ref b0, .ref b1, .ref b2, .ref b3, .int (nI N), .int (nI rt)])), (b0, .inl (γ.2.1, L, .inl f0)), (b1, .inl (γ.2.1, L, .inl f1)), (b2, .inl (γ.2.1, L, .inl f2)), (b3, .inl (γ.2.1, L, .inl f3))] s.heap := hP
  have hl : lv_has ls 2 [(0, .ref a), (1, .int x1)] := hl
  refine lv_aload_n hx hb dTrees_leftOfTwo_0 rfl (lv_at hl 0 rfl) ?_
  refine lv_iload_n hx hb dTrees_leftOfTwo_1 rfl (lv_at hl 1 rfl) ?_
  refine lv_iconst (v := 1) hx hb dTrees_leftOfTwo_2 (by decide) ?_
  refine lv_isub hx hb dTrees_leftOfTwo_3 ?_
  refine lv_topi (fun v4 ev4 => ?_)
  refine pu_Vi (rest := []) S hC (c_Trees_firstOf l γ Z a N rt L v4) meTrees_firstOf qw_e019bcaac8 ⟨Nat.le_of_ble_eq_true rfl, Nat.le_of_ble_eq_true rfl⟩ (va_recv hC.1 hP (ci := 1) (q0 := 0) rfl rfl) hI rfl hl.1 rfl (Nat.le_of_ble_eq_true rfl) dTrees_leftOfTwo_4 ⟨Nat.zero_le _, Nat.zero_le _⟩ (fun r5 hr5 => ?_)
  refine lv_iconst (v := 1) hx hb dTrees_leftOfTwo_7 (by decide) ?_
  refine lv_isub hx hb dTrees_leftOfTwo_8 ?_
  refine lv_topi (fun v6 ev6 => ?_)
  exact hE _ _ _ trivial dTrees_leftOfTwo_9
theorem k1_Trees_leftOfTwo (l : Launch) (γ : gE) (A : Nat → Prop) (κ : Nat → Nat) (x1 : Int32)  : PU l yTrees_leftOfTwo bTrees_leftOfTwo 2 (some .int) 2 42 [.ref (γ.2.2.2 1), .int x1] γ (INV γ A κ) (vp_Si (fun v : Int32 => True)) :=
  pu_up 2 (by decide) (by decide) (fun Z => c_Trees_leftOfTwo l γ Z (γ.2.2.2 1) (κ 0) (κ 1) (κ 11) x1)

set_option maxHeartbeats 4000000 in
set_option maxRecDepth 100000 in
theorem c_Types_goesDown (l : Launch) (γ : gE) (Z : Nat → Prop) (a N L : Nat) (x1 : Int32)  : PU l yTypes_goesDown bTypes_goesDown 2 (some .boolean) 1 21 [.ref a, .int x1] γ (cmp γ (fTypes γ a N L) Z) (vp_Si (fun v : Int32 => True)) := by
  refine pu_openZ (by decide) (Nat.le_of_ble_eq_true rfl) ?_
  intro p e s m args below meth c ls Q S hC hI hE hl
  obtain ⟨hx, hb, hml, hown, hW⟩ := id S
  obtain ⟨ws, ⟨b0, b1, b2, b3, f0, f1, f2, f3, rfl, h1, h2, h3⟩, hP, hD⟩ := id hI
  have hP : va_P γ.1 vwCl [(a, .inr (3, [.ref b0, .ref b1, .ref b2, .ref b3, .int (nI N)])), (b0, .inl (γ.2.1, L, .inl f0)), (b1, .inl (γ.2.1, L, .inl f1)), (b2, .inl (γ.2.1, L, .inl f2)), (b3, .inl (γ.2.1, L, .inl f3))] s.heap := hP
  have hl : lv_has ls 2 [(0, .ref a), (1, .int x1)] := hl
  refine lv_aload_n hx hb dTypes_goesDown_0 rfl (lv_at hl 0 rfl) ?_
  refine lv_iload_n hx hb dTypes_goesDown_1 rfl (lv_at hl 1 rfl) ?_
  refine pu_Vi (rest := []) S hC (c_Types_has l γ Z a N L x1) meTypes_has qw_252588eab3 ⟨Nat.le_of_ble_eq_true rfl, Nat.le_of_ble_eq_true rfl⟩ (va_recv hC.1 hP (ci := 3) (q0 := 0) rfl rfl) hI rfl hl.1 rfl (Nat.le_of_ble_eq_true rfl) dTypes_goesDown_2 ⟨Nat.zero_le _, Nat.zero_le _⟩ (fun r5 hr5 => ?_)
  refine lv_if_eq (tgt := 21) hx hb dTypes_goesDown_5 (by decide) (fun c6 => ?_) (fun c6 => ?_)
  · refine lv_iconst (v := 0) hx hb dTypes_goesDown_21 (by decide) ?_
    exact hE _ _ _ rfl trivial dTypes_goesDown_22
  · refine lv_aload_n hx hb dTypes_goesDown_8 rfl (lv_at hl 0 rfl) ?_
    refine va_get (D := γ.1) (ci := 3) (v := .ref b3) (C := R_Types) (T := T_Types) (N := 5) (Ts := bs_W0) hx hb hW in_Types hown hC.1 hP 0 rfl rfl 3 (by decide) (hW _ qw_dded4610c2) (fun _ h9 => h9) rfl dTypes_goesDown_9 ?_
    refine lv_iload_n hx hb dTypes_goesDown_12 rfl (lv_at hl 1 rfl) ?_
    refine va_iald hx hb hC.1 hP 4 0 rfl rfl (in_has (by assumption) (by assumption) (by omega) (by omega)) dTypes_goesDown_13 ?_
    refine lv_topi (fun v7 ev7 => ?_)
    refine lv_if_ge (tgt := 21) hx hb dTypes_goesDown_14 (by decide) (fun c8 => ?_) (fun c8 => ?_)
    · refine lv_iconst (v := 0) hx hb dTypes_goesDown_21 (by decide) ?_
      exact hE _ _ _ rfl trivial dTypes_goesDown_22
    · refine lv_iconst (v := 1) hx hb dTypes_goesDown_17 (by decide) ?_
      refine lv_goto (tgt := 22) hx hb dTypes_goesDown_18 (by decide) ?_
      exact hE _ _ _ rfl trivial dTypes_goesDown_22
theorem k3_Types_goesDown (l : Launch) (γ : gE) (A : Nat → Prop) (κ : Nat → Nat) (x1 : Int32)  : PU l yTypes_goesDown bTypes_goesDown 2 (some .boolean) 1 21 [.ref (γ.2.2.2 3), .int x1] γ (INV γ A κ) (vp_Si (fun v : Int32 => True)) :=
  pu_up 4 (by decide) (by decide) (fun Z => c_Types_goesDown l γ Z (γ.2.2.2 3) (κ 4) (κ 13) x1)

set_option maxHeartbeats 4000000 in
set_option maxRecDepth 100000 in
theorem c_Types_extentOf (l : Launch) (γ : gE) (Z : Nat → Prop) (a N L : Nat) (x1 : Int32)  : PU l yTypes_extentOf bTypes_extentOf 3 (some .int) 2 42 [.ref a, .int x1] γ (cmp γ (fTypes γ a N L) Z) (vp_Si (fun v : Int32 => True)) := by
  refine pu_openI (by decide) (Nat.le_of_ble_eq_true rfl) ?_
  intro p e s m args below meth c ls Q S hC hI hE hl
  obtain ⟨hx, hb, hml, hown, hW⟩ := id S
  obtain ⟨ws, ⟨b0, b1, b2, b3, f0, f1, f2, f3, rfl, h1, h2, h3⟩, hP, hD⟩ := id hI
  have hP : va_P γ.1 vwCl [(a, .inr (3, [.ref b0, .ref b1, .ref b2, .ref b3, .int (nI N)])), (b0, .inl (γ.2.1, L, .inl f0)), (b1, .inl (γ.2.1, L, .inl f1)), (b2, .inl (γ.2.1, L, .inl f2)), (b3, .inl (γ.2.1, L, .inl f3))] s.heap := hP
  have hl : lv_has ls 3 [(0, .ref a), (1, .int x1)] := hl
  refine lv_aload_n hx hb dTypes_extentOf_0 rfl (lv_at hl 0 rfl) ?_
  refine lv_iload_n hx hb dTypes_extentOf_1 rfl (lv_at hl 1 rfl) ?_
  refine pu_Vi (rest := []) S hC (c_Types_classOf l γ Z a N L x1) meTypes_classOf qw_a799e12b89 ⟨Nat.le_of_ble_eq_true rfl, Nat.le_of_ble_eq_true rfl⟩ (va_recv hC.1 hP (ci := 3) (q0 := 0) rfl rfl) hI rfl hl.1 rfl (Nat.le_of_ble_eq_true rfl) dTypes_extentOf_2 ⟨Nat.zero_le _, Nat.zero_le _⟩ (fun r5 hr5 => ?_)
  refine lv_istore_n (lv' := [(2, .int r5), (0, .ref a), (1, .int x1)]) hx hb dTypes_extentOf_5 rfl hl (by decide) rfl (fun ls hl => ?_)
  refine lv_iload_n hx hb dTypes_extentOf_6 rfl (lv_at hl 0 rfl) ?_
  refine lv_iconst (v := 3) hx hb dTypes_extentOf_7 (by decide) ?_
  refine lv_icmp_ne (tgt := 19) hx hb dTypes_extentOf_8 (by decide) (fun c6 => ?_) (fun c6 => ?_)
  · refine lv_iload_n hx hb dTypes_extentOf_19 rfl (lv_at hl 0 rfl) ?_
    refine lv_iconst (v := 4) hx hb dTypes_extentOf_20 (by decide) ?_
    refine lv_icmp_ne (tgt := 28) hx hb dTypes_extentOf_21 (by decide) (fun c7 => ?_) (fun c7 => ?_)
    · refine lv_iconst (v := 0) hx hb dTypes_extentOf_28 (by decide) ?_
      exact hE _ _ _ trivial dTypes_extentOf_29
    · refine lv_iload_n hx hb dTypes_extentOf_24 rfl (lv_at hl 2 rfl) ?_
      refine lv_goto (tgt := 29) hx hb dTypes_extentOf_25 (by decide) ?_
      exact hE _ _ _ trivial dTypes_extentOf_29
  · refine lv_aload_n hx hb dTypes_extentOf_11 rfl (lv_at hl 1 rfl) ?_
    refine lv_iload_n hx hb dTypes_extentOf_12 rfl (lv_at hl 2 rfl) ?_
    refine pu_Vi (rest := []) S hC (c_Types_countOf l γ Z a N L x1) meTypes_countOf qw_f2b19d19af ⟨Nat.le_of_ble_eq_true rfl, Nat.le_of_ble_eq_true rfl⟩ (va_recv hC.1 hP (ci := 3) (q0 := 0) rfl rfl) hI rfl hl.1 rfl (Nat.le_of_ble_eq_true rfl) dTypes_extentOf_13 ⟨Nat.zero_le _, Nat.zero_le _⟩ (fun r8 hr8 => ?_)
    refine lv_goto (tgt := 29) hx hb dTypes_extentOf_16 (by decide) ?_
    exact hE _ _ _ trivial dTypes_extentOf_29
theorem k3_Types_extentOf (l : Launch) (γ : gE) (A : Nat → Prop) (κ : Nat → Nat) (x1 : Int32)  : PU l yTypes_extentOf bTypes_extentOf 3 (some .int) 2 42 [.ref (γ.2.2.2 3), .int x1] γ (INV γ A κ) (vp_Si (fun v : Int32 => True)) :=
  pu_up 4 (by decide) (by decide) (fun Z => c_Types_extentOf l γ Z (γ.2.2.2 3) (κ 4) (κ 13) x1)

set_option maxHeartbeats 4000000 in
set_option maxRecDepth 100000 in
theorem c_Types_fromRight (l : Launch) (γ : gE) (Z : Nat → Prop) (a N L : Nat) (x1 : Int32) (x2 : Int32)  : PU l yTypes_fromRight bTypes_fromRight 5 (some .int) 2 42 [.ref a, .int x1, .int x2] γ (cmp γ (fTypes γ a N L) Z) (vp_Si (fun v : Int32 => True)) := by
  refine pu_openI (by decide) (Nat.le_of_ble_eq_true rfl) ?_
  intro p e s m args below meth c ls Q S hC hI hE hl
  obtain ⟨hx, hb, hml, hown, hW⟩ := id S
  obtain ⟨ws, ⟨b0, b1, b2, b3, f0, f1, f2, f3, rfl, h1, h2, h3⟩, hP, hD⟩ := id hI
  have hP : va_P γ.1 vwCl [(a, .inr (3, [.ref b0, .ref b1, .ref b2, .ref b3, .int (nI N)])), (b0, .inl (γ.2.1, L, .inl f0)), (b1, .inl (γ.2.1, L, .inl f1)), (b2, .inl (γ.2.1, L, .inl f2)), (b3, .inl (γ.2.1, L, .inl f3))] s.heap := hP
  have hl : lv_has ls 5 [(0, .ref a), (1, .int x1), (2, .int x2)] := hl
  have J29 : ∀ (ls : Array Slot)  (i1 : Int32) (i2 : Int32) (t0 : Int64), lv_has ls 5 [(0, .ref a), (1, .int i1), (2, .int i2)] → W p l e (bs_rm 2 0 0 42) s m args below meth c s.heap [] 0 0 Q (F0 m 29 ls [.long t0]) := by
    intro ls  i1 i2 t0  hl
    refine lv_lstore_n (lv' := [(3, .long t0), (0, .ref a), (1, .int i1), (2, .int i2)]) hx hb dTypes_fromRight_29 rfl hl (by decide) rfl (fun ls hl => ?_)
    refine lv_lload_n hx hb dTypes_fromRight_30 rfl (lv_at hl 0 rfl) ?_
    refine lv_lconst (v := 0) hx hb dTypes_fromRight_31 (by decide) ?_
    refine W.lcmp hx hb dTypes_fromRight_32 ?_
    refine lv_topi (fun v18 ev18 => ?_)
    refine lv_if_lt (tgt := 52) hx hb dTypes_fromRight_33 (by decide) (fun c19 => ?_) (fun c19 => ?_)
    · refine lv_iconst (v := (-1)) hx hb dTypes_fromRight_52 (by decide) ?_
      exact hE _ _ _ trivial dTypes_fromRight_53
    · refine lv_lload_n hx hb dTypes_fromRight_36 rfl (lv_at hl 0 rfl) ?_
      refine lv_aload_n hx hb dTypes_fromRight_37 rfl (lv_at hl 1 rfl) ?_
      refine lv_iload_n hx hb dTypes_fromRight_38 rfl (lv_at hl 2 rfl) ?_
      refine pu_Vi (rest := [.long t0]) S hC (c_Types_countOf l γ Z a N L i1) meTypes_countOf qw_f2b19d19af ⟨Nat.le_of_ble_eq_true rfl, Nat.le_of_ble_eq_true rfl⟩ (va_recv hC.1 hP (ci := 3) (q0 := 0) rfl rfl) hI rfl hl.1 rfl (Nat.le_of_ble_eq_true rfl) dTypes_fromRight_39 ⟨Nat.zero_le _, Nat.zero_le _⟩ (fun r20 hr20 => ?_)
      refine lv_i2l hx hb dTypes_fromRight_42 rfl ?_
      refine lv_topl (fun v21 ev21 => ?_)
      refine W.lcmp hx hb dTypes_fromRight_43 ?_
      refine lv_topi (fun v22 ev22 => ?_)
      refine lv_if_ge (tgt := 52) hx hb dTypes_fromRight_44 (by decide) (fun c23 => ?_) (fun c23 => ?_)
      · refine lv_iconst (v := (-1)) hx hb dTypes_fromRight_52 (by decide) ?_
        exact hE _ _ _ trivial dTypes_fromRight_53
      · refine lv_lload_n hx hb dTypes_fromRight_47 rfl (lv_at hl 0 rfl) ?_
        refine lv_l2i hx hb dTypes_fromRight_48 rfl ?_
        refine lv_topi (fun v24 ev24 => ?_)
        refine lv_goto (tgt := 53) hx hb dTypes_fromRight_49 (by decide) ?_
        exact hE _ _ _ trivial dTypes_fromRight_53
  refine lv_aload_n hx hb dTypes_fromRight_0 rfl (lv_at hl 0 rfl) ?_
  refine lv_iload_n hx hb dTypes_fromRight_1 rfl (lv_at hl 1 rfl) ?_
  refine pu_Vi (rest := []) S hC (c_Types_goesDown l γ Z a N L x1) meTypes_goesDown qw_89684d58b5 ⟨Nat.le_of_ble_eq_true rfl, Nat.le_of_ble_eq_true rfl⟩ (va_recv hC.1 hP (ci := 3) (q0 := 0) rfl rfl) hI rfl hl.1 rfl (Nat.le_of_ble_eq_true rfl) dTypes_fromRight_2 ⟨Nat.zero_le _, Nat.zero_le _⟩ (fun r25 hr25 => ?_)
  refine lv_if_eq (tgt := 20) hx hb dTypes_fromRight_5 (by decide) (fun c26 => ?_) (fun c26 => ?_)
  · refine lv_aload_n hx hb dTypes_fromRight_20 rfl (lv_at hl 0 rfl) ?_
    refine lv_iload_n hx hb dTypes_fromRight_21 rfl (lv_at hl 1 rfl) ?_
    refine pu_Vi (rest := []) S hC (c_Types_rightOf l γ Z a N L x1) meTypes_rightOf qw_7f99fbf9f4 ⟨Nat.le_of_ble_eq_true rfl, Nat.le_of_ble_eq_true rfl⟩ (va_recv hC.1 hP (ci := 3) (q0 := 0) rfl rfl) hI rfl hl.1 rfl (Nat.le_of_ble_eq_true rfl) dTypes_fromRight_22 ⟨Nat.zero_le _, Nat.zero_le _⟩ (fun r27 hr27 => ?_)
    refine lv_i2l hx hb dTypes_fromRight_25 rfl ?_
    refine lv_topl (fun v28 ev28 => ?_)
    refine lv_iload_n hx hb dTypes_fromRight_26 rfl (lv_at hl 2 rfl) ?_
    refine lv_i2l hx hb dTypes_fromRight_27 rfl ?_
    refine lv_topl (fun v29 ev29 => ?_)
    refine lv_lsub hx hb dTypes_fromRight_28 ?_
    refine lv_topl (fun v30 ev30 => ?_)
    exact J29 ls x1 x2 v30 (lv_sub hl [0, 1, 2] rfl)
  · refine lv_iload_n hx hb dTypes_fromRight_8 rfl (lv_at hl 2 rfl) ?_
    refine lv_i2l hx hb dTypes_fromRight_9 rfl ?_
    refine lv_topl (fun v31 ev31 => ?_)
    refine lv_aload_n hx hb dTypes_fromRight_10 rfl (lv_at hl 0 rfl) ?_
    refine lv_iload_n hx hb dTypes_fromRight_11 rfl (lv_at hl 1 rfl) ?_
    refine pu_Vi (rest := [.long v31]) S hC (c_Types_rightOf l γ Z a N L x1) meTypes_rightOf qw_7f99fbf9f4 ⟨Nat.le_of_ble_eq_true rfl, Nat.le_of_ble_eq_true rfl⟩ (va_recv hC.1 hP (ci := 3) (q0 := 0) rfl rfl) hI rfl hl.1 rfl (Nat.le_of_ble_eq_true rfl) dTypes_fromRight_12 ⟨Nat.zero_le _, Nat.zero_le _⟩ (fun r32 hr32 => ?_)
    refine lv_i2l hx hb dTypes_fromRight_15 rfl ?_
    refine lv_topl (fun v33 ev33 => ?_)
    refine lv_lsub hx hb dTypes_fromRight_16 ?_
    refine lv_topl (fun v34 ev34 => ?_)
    refine lv_goto (tgt := 29) hx hb dTypes_fromRight_17 (by decide) ?_
    exact J29 ls x1 x2 v34 (lv_sub hl [0, 1, 2] rfl)
theorem k3_Types_fromRight (l : Launch) (γ : gE) (A : Nat → Prop) (κ : Nat → Nat) (x1 : Int32) (x2 : Int32)  : PU l yTypes_fromRight bTypes_fromRight 5 (some .int) 2 42 [.ref (γ.2.2.2 3), .int x1, .int x2] γ (INV γ A κ) (vp_Si (fun v : Int32 => True)) :=
  pu_up 4 (by decide) (by decide) (fun Z => c_Types_fromRight l γ Z (γ.2.2.2 3) (κ 4) (κ 13) x1 x2)
theorem qw_d08a1abfac : (Cond.fieldLink R_Looks 24 R_Looks "constancies" "[I") ∈ bs_W0 := bs_in (in_tables_1_1 (List.mem_of_getElem? (i := 206) rfl)) rfl
theorem qw_ae9666db7d : (Cond.fieldLink R_Names 27 R_Names "chains" "[I") ∈ bs_W0 := bs_in (in_tables_1_1 (List.mem_of_getElem? (i := 104) rfl)) rfl
theorem qw_a8d4a716ae : (Cond.fieldLink R_Names 9 R_Names "spellings" "[I") ∈ bs_W0 := bs_in (in_tables_1_1 (List.mem_of_getElem? (i := 99) rfl)) rfl
theorem qw_ddfb92ec41 : (Cond.fieldLink R_Names 24 R_Names "outers" "[I") ∈ bs_W0 := bs_in (in_tables_1_1 (List.mem_of_getElem? (i := 103) rfl)) rfl
theorem qw_125e0af2e4 : (Cond.methodLink R_Names 60 yNames_find) ∈ bs_W0 := bs_in (in_tables_1_5 (List.mem_of_getElem? (i := 32) rfl)) rfl
theorem qw_c2f4fc63da : (Cond.fieldLink R_Names 30 R_Names "starts" "[I") ∈ bs_W0 := bs_in (in_tables_1_1 (List.mem_of_getElem? (i := 105) rfl)) rfl
theorem qw_40882965f2 : (Cond.fieldLink R_Names 37 R_Names "scopes" "I") ∈ bs_W0 := bs_in (in_tables_1_1 (List.mem_of_getElem? (i := 107) rfl)) rfl
theorem qw_f4898d707a : (Cond.methodLink R_Rows 41 yRows_get) ∈ bs_W0 := bs_in (in_tables_1_4 (List.mem_of_getElem? (i := 64) rfl)) rfl
theorem qw_643b0e6c65 : (Cond.methodLink R_Rows 44 yLogic_isClear) ∈ bs_W0 := bs_in (in_tables_1_4 (List.mem_of_getElem? (i := 65) rfl)) rfl
theorem qw_71b4d70101 : (Cond.methodLink R_Rows 49 yLogic_isHigh) ∈ bs_W0 := bs_in (in_tables_1_4 (List.mem_of_getElem? (i := 74) rfl)) rfl
theorem qw_899a0812ea : (Cond.fieldLink R_Looker 27 R_Looker "hidden" "[I") ∈ bs_W0 := bs_in (in_tables_1_2 (List.mem_of_getElem? (i := 32) rfl)) rfl
theorem qw_22d2793f25 : (Cond.fieldLink R_Looker 35 R_Looker "trees" "LTypeBook$Trees;") ∈ bs_W0 := bs_in (in_tables_1_2 (List.mem_of_getElem? (i := 26) rfl)) rfl
theorem qw_ea9162cf9a : (Cond.methodLink R_Looker 138 yTrees_valueOf) ∈ bs_W0 := bs_in (in_tables_1_3 (List.mem_of_getElem? (i := 167) rfl)) rfl
theorem qw_195048702c : (Cond.methodLink R_Looker 160 yTrees_countOf) ∈ bs_W0 := bs_in (in_tables_1_3 (List.mem_of_getElem? (i := 168) rfl)) rfl
theorem qw_77aeadf252 : (Cond.fieldLink R_Looker 12 R_Looker "seen" "LTypeBook$Looks;") ∈ bs_W0 := bs_in (in_tables_1_2 (List.mem_of_getElem? (i := 29) rfl)) rfl
theorem qw_f23e8ec7f8 : (Cond.methodLink R_Looker 101 yLooks_classOf) ∈ bs_W0 := bs_in (in_tables_1_4 (List.mem_of_getElem? (i := 211) rfl)) rfl
theorem qw_a593f61add : (Cond.methodLink R_Looker 104 yLooks_extentOf) ∈ bs_W0 := bs_in (in_tables_1_5 (List.mem_of_getElem? (i := 71) rfl)) rfl
theorem qw_abb87946e7 : (Cond.fieldLink R_Looker 43 R_Looker "types" "LTypeBook$Types;") ∈ bs_W0 := bs_in (in_tables_1_2 (List.mem_of_getElem? (i := 28) rfl)) rfl
theorem qw_80ac4113df : (Cond.methodLink R_Looker 107 yTypes_classOf) ∈ bs_W0 := bs_in (in_tables_1_5 (List.mem_of_getElem? (i := 72) rfl)) rfl
theorem qw_a6b1bdd3ae : (Cond.methodLink R_Looker 110 yTypes_extentOf) ∈ bs_W0 := bs_in (in_tables_1_5 (List.mem_of_getElem? (i := 73) rfl)) rfl
theorem qw_7e695d47da : (Cond.methodLink R_Looker 111 yLooks_numberOf) ∈ bs_W0 := bs_in (in_tables_1_4 (List.mem_of_getElem? (i := 213) rfl)) rfl
theorem qw_3ab14e380a : (Cond.methodLink R_Looker 87 yLooks_isFixed) ∈ bs_W0 := bs_in (in_tables_1_4 (List.mem_of_getElem? (i := 212) rfl)) rfl
theorem qw_6a2da56b19 : (Cond.methodLink R_Looker 114 yTypes_leftOf) ∈ bs_W0 := bs_in (in_tables_1_5 (List.mem_of_getElem? (i := 81) rfl)) rfl
theorem qw_860591b8df : (Cond.methodLink R_Looker 117 yTypes_rightOf) ∈ bs_W0 := bs_in (in_tables_1_5 (List.mem_of_getElem? (i := 82) rfl)) rfl
set_option maxHeartbeats 4000000 in
set_option maxRecDepth 100000 in
theorem c_Looks_isFixed (l : Launch) (γ : gE) (Z : Nat → Prop) (a rw L : Nat) (x1 : Int32)  : PU l yLooks_isFixed bLooks_isFixed 2 (some .boolean) 1 21 [.ref a, .int x1] γ (cmp γ (fLooks γ a rw L) Z) (vp_Si (fun v : Int32 => True)) := by
  refine pu_openZ (by decide) (Nat.le_of_ble_eq_true rfl) ?_
  intro p e s m args below meth c ls Q S hC hI hE hl
  obtain ⟨hx, hb, hml, hown, hW⟩ := id S
  obtain ⟨ws, ⟨b0, b1, b2, b3, b4, f0, f1, f2, f3, f4, rfl, h1, h2⟩, hP, hD⟩ := id hI
  have hP : va_P γ.1 vwCl [(a, .inr (6, [.ref b0, .ref b1, .ref b2, .ref b3, .ref b4, .ref rw])), (b0, .inl (γ.2.1, L, .inl f0)), (b1, .inl (γ.2.1, L, .inl f1)), (b2, .inl (γ.2.1, L, .inl f2)), (b3, .inl (γ.2.1, L, .inl f3)), (b4, .inl (γ.2.1, L, .inl f4))] s.heap := hP
  have hl : lv_has ls 2 [(0, .ref a), (1, .int x1)] := hl
  refine lv_aload_n hx hb dLooks_isFixed_0 rfl (lv_at hl 0 rfl) ?_
  refine lv_iload_n hx hb dLooks_isFixed_1 rfl (lv_at hl 1 rfl) ?_
  refine pu_Vi (rest := []) S hC (c_Looks_has l γ Z a rw L x1) meLooks_has qw_4e5fd4a1cd ⟨Nat.le_of_ble_eq_true rfl, Nat.le_of_ble_eq_true rfl⟩ (va_recv hC.1 hP (ci := 6) (q0 := 0) rfl rfl) hI rfl hl.1 rfl (Nat.le_of_ble_eq_true rfl) dLooks_isFixed_2 ⟨Nat.zero_le _, Nat.zero_le _⟩ (fun r5 hr5 => ?_)
  refine lv_if_eq (tgt := 22) hx hb dLooks_isFixed_5 (by decide) (fun c6 => ?_) (fun c6 => ?_)
  · refine lv_iconst (v := 0) hx hb dLooks_isFixed_22 (by decide) ?_
    exact hE _ _ _ rfl trivial dLooks_isFixed_23
  · refine lv_aload_n hx hb dLooks_isFixed_8 rfl (lv_at hl 0 rfl) ?_
    refine va_get (D := γ.1) (ci := 6) (v := .ref b4) (C := R_Looks) (T := T_Looks) (N := 6) (Ts := bs_W0) hx hb hW in_Looks hown hC.1 hP 0 rfl rfl 4 (by decide) (hW _ qw_d08a1abfac) (fun _ h9 => h9) rfl dLooks_isFixed_9 ?_
    refine lv_iload_n hx hb dLooks_isFixed_12 rfl (lv_at hl 1 rfl) ?_
    refine va_iald hx hb hC.1 hP 5 0 rfl rfl (in_has (by assumption) (by assumption) (by omega) (by omega)) dLooks_isFixed_13 ?_
    refine lv_topi (fun v7 ev7 => ?_)
    refine lv_iconst (v := 1) hx hb dLooks_isFixed_14 (by decide) ?_
    refine lv_icmp_ne (tgt := 22) hx hb dLooks_isFixed_15 (by decide) (fun c8 => ?_) (fun c8 => ?_)
    · refine lv_iconst (v := 0) hx hb dLooks_isFixed_22 (by decide) ?_
      exact hE _ _ _ rfl trivial dLooks_isFixed_23
    · refine lv_iconst (v := 1) hx hb dLooks_isFixed_18 (by decide) ?_
      refine lv_goto (tgt := 23) hx hb dLooks_isFixed_19 (by decide) ?_
      exact hE _ _ _ rfl trivial dLooks_isFixed_23
theorem k6_Looks_isFixed (l : Launch) (γ : gE) (A : Nat → Prop) (κ : Nat → Nat) (x1 : Int32)  : PU l yLooks_isFixed bLooks_isFixed 2 (some .boolean) 1 21 [.ref (γ.2.2.2 6), .int x1] γ (INV γ A κ) (vp_Si (fun v : Int32 => True)) :=
  pu_up 7 (by decide) (by decide) (fun Z => c_Looks_isFixed l γ Z (γ.2.2.2 6) (γ.2.2.2 7) (κ 6) x1)
theorem k9_Looks_isFixed (l : Launch) (γ : gE) (A : Nat → Prop) (κ : Nat → Nat) (x1 : Int32)  : PU l yLooks_isFixed bLooks_isFixed 2 (some .boolean) 1 21 [.ref (γ.2.2.2 9), .int x1] γ (INV γ A κ) (vp_Si (fun v : Int32 => True)) :=
  pu_up 9 (by decide) (by decide) (fun Z => c_Looks_isFixed l γ Z (γ.2.2.2 9) (γ.2.2.2 10) (κ 7) x1)

set_option maxHeartbeats 4000000 in
set_option maxRecDepth 100000 in
theorem c_Names_find (l : Launch) (γ : gE) (Z : Nat → Prop) (a N sc L : Nat) (x1 : Int32)  : PU l yNames_find bNames_find 4 (some .int) 1 21 [.ref a, .int x1] γ (cmp γ (fNames γ a N sc L) Z) (vp_Si (fun v : Int32 => True)) := by
  refine pu_openI (by decide) (Nat.le_of_ble_eq_true rfl) ?_
  intro p e s m args below meth c ls Q S hC hI hE hl
  obtain ⟨hx, hb, hml, hown, hW⟩ := id S
  obtain ⟨ws, ⟨b0, b1, b2, b3, b4, b5, b6, f0, f1, f2, f3, f4, f5, f6, rfl, h1, h2, h3, h4, h5, h6⟩, hP, hD⟩ := id hI
  have hP : va_P γ.1 vwCl [(a, .inr (2, [.ref b0, .ref b1, .ref b2, .ref b3, .ref b4, .ref b5, .ref b6, .int (nI N), .int (nI sc)])), (b0, .inl (γ.2.1, L, .inl f0)), (b1, .inl (γ.2.1, L, .inl f1)), (b2, .inl (γ.2.1, L, .inl f2)), (b3, .inl (γ.2.1, L, .inl f3)), (b4, .inl (γ.2.1, L, .inl f4)), (b5, .inl (γ.2.1, 256, .inl f5)), (b6, .inl (γ.2.1, 32, .inl f6))] s.heap := hP
  have hl : lv_has ls 4 [(0, .ref a), (1, .int x1)] := hl
  have J13 : ∀ (N13 : Nat) (ls : Array Slot)  (i1 : Int32) (i2 : Int32) (i3 : Int32), (2147483647 - i3.toInt).toNat = N13 → lv_has ls 4 [(0, .ref a), (1, .int i1), (2, .int i2), (3, .int i3)] → W p l e (bs_rm 1 0 0 21) s m args below meth c s.heap [] 0 0 Q (F0 m 13 ls []) := by
    intro N13
    induction N13 using Nat.strongRecOn with
    | ind N13 ih13 =>
      intro ls  i1 i2 i3  hm13 hl
      refine lv_iload_n hx hb dNames_find_13 rfl (lv_at hl 3 rfl) ?_
      refine lv_aload_n hx hb dNames_find_14 rfl (lv_at hl 0 rfl) ?_
      refine va_get (D := γ.1) (ci := 2) (v := .int (nI N)) (C := R_Names) (T := T_Names) (N := 9) (Ts := bs_W0) hx hb hW in_Names hown hC.1 hP 0 rfl rfl 7 (by decide) (hW _ qw_171adcdf9f) (fun _ h9 => h9) rfl dNames_find_15 ?_
      refine lv_topi (fun v11 ev11 => ?_)
      refine lv_icmp_ge (tgt := 54) hx hb dNames_find_18 (by decide) (fun c12 => ?_) (fun c12 => ?_)
      · refine lv_iconst (v := (-1)) hx hb dNames_find_54 (by decide) ?_
        exact hE _ _ _ trivial dNames_find_55
      · refine lv_aload_n hx hb dNames_find_21 rfl (lv_at hl 0 rfl) ?_
        refine lv_iload_n hx hb dNames_find_22 rfl (lv_at hl 2 rfl) ?_
        refine pu_Vi (rest := []) S hC (c_Names_has l γ Z a N sc L i2) meNames_has qw_8f9013a759 ⟨Nat.le_of_ble_eq_true rfl, Nat.le_of_ble_eq_true rfl⟩ (va_recv hC.1 hP (ci := 2) (q0 := 0) rfl rfl) hI rfl hl.1 rfl (Nat.le_of_ble_eq_true rfl) dNames_find_23 ⟨Nat.zero_le _, Nat.zero_le _⟩ (fun r13 hr13 => ?_)
        refine lv_if_eq (tgt := 54) hx hb dNames_find_26 (by decide) (fun c14 => ?_) (fun c14 => ?_)
        · refine lv_iconst (v := (-1)) hx hb dNames_find_54 (by decide) ?_
          exact hE _ _ _ trivial dNames_find_55
        · refine lv_aload_n hx hb dNames_find_29 rfl (lv_at hl 0 rfl) ?_
          refine va_get (D := γ.1) (ci := 2) (v := .ref b0) (C := R_Names) (T := T_Names) (N := 9) (Ts := bs_W0) hx hb hW in_Names hown hC.1 hP 0 rfl rfl 0 (by decide) (hW _ qw_a8d4a716ae) (fun _ h9 => h9) rfl dNames_find_30 ?_
          refine lv_iload_n hx hb dNames_find_33 rfl (lv_at hl 2 rfl) ?_
          refine va_iald hx hb hC.1 hP 1 0 rfl rfl (in_has (by assumption) (by assumption) (by omega) (by omega)) dNames_find_34 ?_
          refine lv_topi (fun v15 ev15 => ?_)
          refine lv_iload_n hx hb dNames_find_35 rfl (lv_at hl 1 rfl) ?_
          refine lv_icmp_ne (tgt := 41) hx hb dNames_find_36 (by decide) (fun c16 => ?_) (fun c16 => ?_)
          · refine lv_aload_n hx hb dNames_find_41 rfl (lv_at hl 0 rfl) ?_
            refine va_get (D := γ.1) (ci := 2) (v := .ref b4) (C := R_Names) (T := T_Names) (N := 9) (Ts := bs_W0) hx hb hW in_Names hown hC.1 hP 0 rfl rfl 4 (by decide) (hW _ qw_ddfb92ec41) (fun _ h9 => h9) rfl dNames_find_42 ?_
            refine lv_iload_n hx hb dNames_find_45 rfl (lv_at hl 2 rfl) ?_
            refine va_iald hx hb hC.1 hP 5 0 rfl rfl (in_has (by assumption) (by assumption) (by omega) (by omega)) dNames_find_46 ?_
            refine lv_topi (fun v17 ev17 => ?_)
            refine lv_istore_n (lv' := [(2, .int v17), (0, .ref a), (1, .int i1), (3, .int i3)]) hx hb dNames_find_47 rfl hl (by decide) rfl (fun ls hl => ?_)
            obtain ⟨v18, ev18⟩ : ∃ y : Int32, y = i3 + 1 := ⟨_, rfl⟩
            refine lv_iinc (v := v18) (lv' := [(3, .int v18), (2, .int v17), (0, .ref a), (1, .int i1)]) hx hb dNames_find_48 hl (k := 3) rfl (by rw [ev18]; rfl) (by decide) rfl (fun ls hl => ?_)
            refine lv_goto (tgt := 13) hx hb dNames_find_51 (by decide) ?_
            exact ih13 _ (by have q1 : i3.toInt < 2147483647 := (by first | exact (mu_up (k := i3) (by assumption)).2 | assumption); have q2 := mu_lt q1; rw [← ev18] at q2; omega) ls i1 v17 v18 rfl (lv_sub hl [2, 3, 1, 0] rfl)
          · refine lv_iload_n hx hb dNames_find_39 rfl (lv_at hl 2 rfl) ?_
            exact hE _ _ _ trivial dNames_find_40
  refine lv_aload_n hx hb dNames_find_0 rfl (lv_at hl 0 rfl) ?_
  refine va_get (D := γ.1) (ci := 2) (v := .ref b5) (C := R_Names) (T := T_Names) (N := 9) (Ts := bs_W0) hx hb hW in_Names hown hC.1 hP 0 rfl rfl 5 (by decide) (hW _ qw_ae9666db7d) (fun _ h9 => h9) rfl dNames_find_1 ?_
  refine lv_iload_n hx hb dNames_find_4 rfl (lv_at hl 1 rfl) ?_
  refine lv_sipush (v := 255) hx hb dNames_find_5 (by decide) ?_
  refine lv_iand hx hb dNames_find_8 ?_
  refine lv_topi (fun v19 ev19 => ?_)
  refine va_iald hx hb hC.1 hP 6 0 rfl rfl (by subst_vars; exact pk_andIn _ 8 (by decide) (by decide)) dNames_find_9 ?_
  refine lv_topi (fun v20 ev20 => ?_)
  refine lv_istore_n (lv' := [(2, .int v20), (0, .ref a), (1, .int x1)]) hx hb dNames_find_10 rfl hl (by decide) rfl (fun ls hl => ?_)
  refine lv_iconst (v := 0) hx hb dNames_find_11 (by decide) ?_
  refine lv_istore_n (lv' := [(3, .int 0), (2, .int v20), (0, .ref a), (1, .int x1)]) hx hb dNames_find_12 rfl hl (by decide) rfl (fun ls hl => ?_)
  exact J13 _ ls x1 v20 0 rfl (lv_sub hl [2, 3, 1, 0] rfl)
theorem k2_Names_find (l : Launch) (γ : gE) (A : Nat → Prop) (κ : Nat → Nat) (x1 : Int32)  : PU l yNames_find bNames_find 4 (some .int) 1 21 [.ref (γ.2.2.2 2), .int x1] γ (INV γ A κ) (vp_Si (fun v : Int32 => True)) :=
  pu_up 3 (by decide) (by decide) (fun Z => c_Names_find l γ Z (γ.2.2.2 2) (κ 2) (κ 3) (κ 12) x1)

set_option maxHeartbeats 4000000 in
set_option maxRecDepth 100000 in
theorem c_Names_isTaken (l : Launch) (γ : gE) (Z : Nat → Prop) (a N sc L : Nat) (x1 : Int32)  : PU l yNames_isTaken bNames_isTaken 2 (some .boolean) 2 44 [.ref a, .int x1] γ (cmp γ (fNames γ a N sc L) Z) (vp_Si (fun v : Int32 => True)) := by
  refine pu_openZ (by decide) (Nat.le_of_ble_eq_true rfl) ?_
  intro p e s m args below meth c ls Q S hC hI hE hl
  obtain ⟨hx, hb, hml, hown, hW⟩ := id S
  obtain ⟨ws, ⟨b0, b1, b2, b3, b4, b5, b6, f0, f1, f2, f3, f4, f5, f6, rfl, h1, h2, h3, h4, h5, h6⟩, hP, hD⟩ := id hI
  have hP : va_P γ.1 vwCl [(a, .inr (2, [.ref b0, .ref b1, .ref b2, .ref b3, .ref b4, .ref b5, .ref b6, .int (nI N), .int (nI sc)])), (b0, .inl (γ.2.1, L, .inl f0)), (b1, .inl (γ.2.1, L, .inl f1)), (b2, .inl (γ.2.1, L, .inl f2)), (b3, .inl (γ.2.1, L, .inl f3)), (b4, .inl (γ.2.1, L, .inl f4)), (b5, .inl (γ.2.1, 256, .inl f5)), (b6, .inl (γ.2.1, 32, .inl f6))] s.heap := hP
  have hl : lv_has ls 2 [(0, .ref a), (1, .int x1)] := hl
  refine lv_aload_n hx hb dNames_isTaken_0 rfl (lv_at hl 0 rfl) ?_
  refine lv_iload_n hx hb dNames_isTaken_1 rfl (lv_at hl 1 rfl) ?_
  refine pu_Vi (rest := []) S hC (c_Names_find l γ Z a N sc L x1) meNames_find qw_125e0af2e4 ⟨Nat.le_of_ble_eq_true rfl, Nat.le_of_ble_eq_true rfl⟩ (va_recv hC.1 hP (ci := 2) (q0 := 0) rfl rfl) hI rfl hl.1 rfl (Nat.le_of_ble_eq_true rfl) dNames_isTaken_2 ⟨Nat.zero_le _, Nat.zero_le _⟩ (fun r6 hr6 => ?_)
  refine lv_aload_n hx hb dNames_isTaken_5 rfl (lv_at hl 0 rfl) ?_
  refine va_get (D := γ.1) (ci := 2) (v := .ref b6) (C := R_Names) (T := T_Names) (N := 9) (Ts := bs_W0) hx hb hW in_Names hown hC.1 hP 0 rfl rfl 6 (by decide) (hW _ qw_c2f4fc63da) (fun _ h9 => h9) rfl dNames_isTaken_6 ?_
  refine lv_aload_n hx hb dNames_isTaken_9 rfl (lv_at hl 0 rfl) ?_
  refine va_get (D := γ.1) (ci := 2) (v := .int (nI sc)) (C := R_Names) (T := T_Names) (N := 9) (Ts := bs_W0) hx hb hW in_Names hown hC.1 hP 0 rfl rfl 8 (by decide) (hW _ qw_40882965f2) (fun _ h9 => h9) rfl dNames_isTaken_10 ?_
  refine lv_topi (fun v7 ev7 => ?_)
  refine lv_iconst (v := 1) hx hb dNames_isTaken_13 (by decide) ?_
  refine lv_isub hx hb dNames_isTaken_14 ?_
  refine lv_topi (fun v8 ev8 => ?_)
  refine va_iald hx hb hC.1 hP 7 0 rfl rfl (by subst_vars; exact sc_in (by omega) (by omega)) dNames_isTaken_15 ?_
  refine lv_topi (fun v9 ev9 => ?_)
  refine lv_icmp_lt (tgt := 23) hx hb dNames_isTaken_16 (by decide) (fun c10 => ?_) (fun c10 => ?_)
  · refine lv_iconst (v := 0) hx hb dNames_isTaken_23 (by decide) ?_
    exact hE _ _ _ rfl trivial dNames_isTaken_24
  · refine lv_iconst (v := 1) hx hb dNames_isTaken_19 (by decide) ?_
    refine lv_goto (tgt := 24) hx hb dNames_isTaken_20 (by decide) ?_
    exact hE _ _ _ rfl trivial dNames_isTaken_24
theorem k2_Names_isTaken (l : Launch) (γ : gE) (A : Nat → Prop) (κ : Nat → Nat) (x1 : Int32)  : PU l yNames_isTaken bNames_isTaken 2 (some .boolean) 2 44 [.ref (γ.2.2.2 2), .int x1] γ (INV γ A κ) (vp_Si (fun v : Int32 => True)) :=
  pu_up 3 (by decide) (by decide) (fun Z => c_Names_isTaken l γ Z (γ.2.2.2 2) (κ 2) (κ 3) (κ 12) x1)

set_option maxHeartbeats 4000000 in
set_option maxRecDepth 100000 in
theorem c_Rows_get (l : Launch) (γ : gE) (Z : Nat → Prop) (a M : Nat) (x1 : Int32) (x2 : Int32)  : PU l yRows_get bRows_get 3 (some .int) 0 0 [.ref a, .int x1, .int x2] γ (cmp γ (fRows γ a M) Z) (vp_Si (fun v : Int32 => True)) := by
  refine pu_openI (by decide) (Nat.le_of_ble_eq_true rfl) ?_
  intro p e s m args below meth c ls Q S hC hI hE hl
  obtain ⟨hx, hb, hml, hown, hW⟩ := id S
  obtain ⟨ws, ⟨b0, g0, rfl, h1, h2⟩, hP, hD⟩ := id hI
  have hP : va_P γ.1 vwCl [(a, .inr (5, [.ref b0])), (b0, .inl (γ.2.2.1, 4 * M, .inr (.inl g0)))] s.heap := hP
  have hl : lv_has ls 3 [(0, .ref a), (1, .int x1), (2, .int x2)] := hl
  refine lv_iload_n hx hb dRows_get_0 rfl (lv_at hl 1 rfl) ?_
  refine lv_if_lt (tgt := 25) hx hb dRows_get_1 (by decide) (fun c16 => ?_) (fun c16 => ?_)
  · refine lv_iconst (v := 0) hx hb dRows_get_25 (by decide) ?_
    exact hE _ _ _ trivial dRows_get_26
  · refine lv_iload_n hx hb dRows_get_4 rfl (lv_at hl 1 rfl) ?_
    refine lv_aload_n hx hb dRows_get_5 rfl (lv_at hl 0 rfl) ?_
    refine va_get (D := γ.1) (ci := 5) (v := .ref b0) (C := R_Rows) (T := T_Rows) (N := 1) (Ts := bs_W0) hx hb hW in_Rows hown hC.1 hP 0 rfl rfl 0 (by decide) (hW _ qw_05e9c8a29d) (fun _ h9 => h9) rfl dRows_get_6 ?_
    refine va_alen hx hb hC.1 hP 1 1 rfl rfl rfl dRows_get_9 ?_
    refine lv_topi (fun v17 ev17 => ?_)
    have ev17 : v17 = nI (4 * M) := ev17
    refine lv_iconst (v := 4) hx hb dRows_get_10 (by decide) ?_
    refine lv_idiv hx hb dRows_get_11 (by decide) ?_
    refine lv_topi (fun v18 ev18 => ?_)
    refine lv_icmp_ge (tgt := 25) hx hb dRows_get_12 (by decide) (fun c19 => ?_) (fun c19 => ?_)
    · refine lv_iconst (v := 0) hx hb dRows_get_25 (by decide) ?_
      exact hE _ _ _ trivial dRows_get_26
    · refine lv_iload_n hx hb dRows_get_15 rfl (lv_at hl 2 rfl) ?_
      refine lv_if_lt (tgt := 25) hx hb dRows_get_16 (by decide) (fun c20 => ?_) (fun c20 => ?_)
      · refine lv_iconst (v := 0) hx hb dRows_get_25 (by decide) ?_
        exact hE _ _ _ trivial dRows_get_26
      · refine lv_iload_n hx hb dRows_get_19 rfl (lv_at hl 2 rfl) ?_
        refine lv_bipush (v := 64) hx hb dRows_get_20 (by decide) ?_
        refine lv_icmp_lt (tgt := 27) hx hb dRows_get_22 (by decide) (fun c21 => ?_) (fun c21 => ?_)
        · refine lv_aload_n hx hb dRows_get_27 rfl (lv_at hl 0 rfl) ?_
          refine va_get (D := γ.1) (ci := 5) (v := .ref b0) (C := R_Rows) (T := T_Rows) (N := 1) (Ts := bs_W0) hx hb hW in_Rows hown hC.1 hP 0 rfl rfl 0 (by decide) (hW _ qw_05e9c8a29d) (fun _ h9 => h9) rfl dRows_get_28 ?_
          refine lv_iload_n hx hb dRows_get_31 rfl (lv_at hl 1 rfl) ?_
          refine lv_iconst (v := 4) hx hb dRows_get_32 (by decide) ?_
          refine lv_imul hx hb dRows_get_33 ?_
          refine lv_topi (fun v22 ev22 => ?_)
          refine lv_iload_n hx hb dRows_get_34 rfl (lv_at hl 2 rfl) ?_
          refine lv_bipush (v := 16) hx hb dRows_get_35 (by decide) ?_
          refine lv_idiv hx hb dRows_get_37 (by decide) ?_
          refine lv_topi (fun v23 ev23 => ?_)
          refine lv_iadd hx hb dRows_get_38 ?_
          refine lv_topi (fun v24 ev24 => ?_)
          refine va_lald hx hb hC.1 hP 1 1 rfl rfl (by subst_vars; exact rows_ix (by assumption) (by assumption) (by assumption) (by first | assumption | exact lt_nge (by assumption)) (by omega)) dRows_get_39 ?_
          refine lv_topl (fun v25 ev25 => ?_)
          refine lv_iload_n hx hb dRows_get_40 rfl (lv_at hl 2 rfl) ?_
          refine lv_bipush (v := 16) hx hb dRows_get_41 (by decide) ?_
          refine lv_irem hx hb dRows_get_43 (by decide) ?_
          refine lv_topi (fun v26 ev26 => ?_)
          refine lv_iconst (v := 4) hx hb dRows_get_44 (by decide) ?_
          refine lv_imul hx hb dRows_get_45 ?_
          refine lv_topi (fun v27 ev27 => ?_)
          refine lv_lushr hx hb dRows_get_46 rfl ?_
          refine lv_topl (fun v28 ev28 => ?_)
          refine lv_l2i hx hb dRows_get_47 rfl ?_
          refine lv_topi (fun v29 ev29 => ?_)
          refine lv_bipush (v := 15) hx hb dRows_get_48 (by decide) ?_
          refine lv_iand hx hb dRows_get_50 ?_
          refine lv_topi (fun v30 ev30 => ?_)
          exact hE _ _ _ trivial dRows_get_51
        · refine lv_iconst (v := 0) hx hb dRows_get_25 (by decide) ?_
          exact hE _ _ _ trivial dRows_get_26
theorem k5_Rows_get (l : Launch) (γ : gE) (A : Nat → Prop) (κ : Nat → Nat) (x1 : Int32) (x2 : Int32)  : PU l yRows_get bRows_get 3 (some .int) 0 0 [.ref (γ.2.2.2 5), .int x1, .int x2] γ (INV γ A κ) (vp_Si (fun v : Int32 => True)) :=
  pu_up 6 (by decide) (by decide) (fun Z => c_Rows_get l γ Z (γ.2.2.2 5) (κ 8) x1 x2)
theorem k7_Rows_get (l : Launch) (γ : gE) (A : Nat → Prop) (κ : Nat → Nat) (x1 : Int32) (x2 : Int32)  : PU l yRows_get bRows_get 3 (some .int) 0 0 [.ref (γ.2.2.2 7), .int x1, .int x2] γ (INV γ A κ) (vp_Si (fun v : Int32 => True)) :=
  pu_up 8 (by decide) (by decide) (fun Z => c_Rows_get l γ Z (γ.2.2.2 7) (κ 9) x1 x2)
theorem k10_Rows_get (l : Launch) (γ : gE) (A : Nat → Prop) (κ : Nat → Nat) (x1 : Int32) (x2 : Int32)  : PU l yRows_get bRows_get 3 (some .int) 0 0 [.ref (γ.2.2.2 10), .int x1, .int x2] γ (INV γ A κ) (vp_Si (fun v : Int32 => True)) :=
  pu_up 10 (by decide) (by decide) (fun Z => c_Rows_get l γ Z (γ.2.2.2 10) (κ 10) x1 x2)

set_option maxHeartbeats 4000000 in
set_option maxRecDepth 100000 in
theorem c_Rows_isClear (l : Launch) (γ : gE) (Z : Nat → Prop) (a M : Nat) (x1 : Int32) (x2 : Int32)  : PU l yRows_isClear bRows_isClear 4 (some .boolean) 1 22 [.ref a, .int x1, .int x2] γ (cmp γ (fRows γ a M) Z) (vp_Si (fun v : Int32 => True)) := by
  refine pu_openZ (by decide) (Nat.le_of_ble_eq_true rfl) ?_
  intro p e s m args below meth c ls Q S hC hI hE hl
  obtain ⟨hx, hb, hml, hown, hW⟩ := id S
  obtain ⟨ws, ⟨b0, g0, rfl, h1, h2⟩, hP, hD⟩ := id hI
  have hP : va_P γ.1 vwCl [(a, .inr (5, [.ref b0])), (b0, .inl (γ.2.2.1, 4 * M, .inr (.inl g0)))] s.heap := hP
  have hl : lv_has ls 4 [(0, .ref a), (1, .int x1), (2, .int x2)] := hl
  have J2 : ∀ (N2 : Nat) (ls : Array Slot)  (i1 : Int32) (i2 : Int32) (i3 : Int32), (2147483647 - i3.toInt).toNat = N2 → lv_has ls 4 [(0, .ref a), (1, .int i1), (2, .int i2), (3, .int i3)] → W p l e (bs_rm 1 0 0 22) s m args below meth c s.heap [] 0 0 Q (F0 m 2 ls []) := by
    intro N2
    induction N2 using Nat.strongRecOn with
    | ind N2 ih2 =>
      intro ls  i1 i2 i3  hm2 hl
      refine lv_iload_n hx hb dRows_isClear_2 rfl (lv_at hl 3 rfl) ?_
      refine lv_iload_n hx hb dRows_isClear_3 rfl (lv_at hl 2 rfl) ?_
      refine lv_icmp_ge (tgt := 33) hx hb dRows_isClear_4 (by decide) (fun c7 => ?_) (fun c7 => ?_)
      · refine lv_iconst (v := 1) hx hb dRows_isClear_33 (by decide) ?_
        exact hE _ _ _ rfl trivial dRows_isClear_34
      · refine lv_iload_n hx hb dRows_isClear_7 rfl (lv_at hl 3 rfl) ?_
        refine lv_bipush (v := 64) hx hb dRows_isClear_8 (by decide) ?_
        refine lv_icmp_ge (tgt := 33) hx hb dRows_isClear_10 (by decide) (fun c8 => ?_) (fun c8 => ?_)
        · refine lv_iconst (v := 1) hx hb dRows_isClear_33 (by decide) ?_
          exact hE _ _ _ rfl trivial dRows_isClear_34
        · refine lv_aload_n hx hb dRows_isClear_13 rfl (lv_at hl 0 rfl) ?_
          refine lv_iload_n hx hb dRows_isClear_14 rfl (lv_at hl 1 rfl) ?_
          refine lv_iload_n hx hb dRows_isClear_15 rfl (lv_at hl 3 rfl) ?_
          refine pu_Vi (rest := []) S hC (c_Rows_get l γ Z a M i1 i3) meRows_get qw_f4898d707a ⟨Nat.le_of_ble_eq_true rfl, Nat.le_of_ble_eq_true rfl⟩ (va_recv hC.1 hP (ci := 5) (q0 := 0) rfl rfl) hI rfl hl.1 rfl (Nat.le_of_ble_eq_true rfl) dRows_isClear_16 ⟨Nat.zero_le _, Nat.zero_le _⟩ (fun r9 hr9 => ?_)
          refine pu_Si (rest := []) S hC (s_Logic_isClear l γ (cmp γ (fRows γ a M) Z) r9) meLogic_isClear qw_643b0e6c65 ⟨Nat.le_of_ble_eq_true rfl, Nat.le_of_ble_eq_true rfl⟩ hI rfl hl.1 rfl (Nat.le_of_ble_eq_true rfl) dRows_isClear_19 ⟨Nat.zero_le _, Nat.zero_le _⟩ (fun r10 hr10 => ?_)
          refine lv_if_ne (tgt := 27) hx hb dRows_isClear_22 (by decide) (fun c11 => ?_) (fun c11 => ?_)
          · obtain ⟨v12, ev12⟩ : ∃ y : Int32, y = i3 + 1 := ⟨_, rfl⟩
            refine lv_iinc (v := v12) (lv' := [(3, .int v12), (0, .ref a), (1, .int i1), (2, .int i2)]) hx hb dRows_isClear_27 hl (k := 3) rfl (by rw [ev12]; rfl) (by decide) rfl (fun ls hl => ?_)
            refine lv_goto (tgt := 2) hx hb dRows_isClear_30 (by decide) ?_
            exact ih2 _ (by have q1 : i3.toInt < 2147483647 := (by first | exact (mu_up (k := i3) (by assumption)).2 | assumption); have q2 := mu_lt q1; rw [← ev12] at q2; omega) ls i1 i2 v12 rfl (lv_sub hl [1, 2, 3, 0] rfl)
          · refine lv_iconst (v := 0) hx hb dRows_isClear_25 (by decide) ?_
            exact hE _ _ _ rfl trivial dRows_isClear_26
  refine lv_iconst (v := 0) hx hb dRows_isClear_0 (by decide) ?_
  refine lv_istore_n (lv' := [(3, .int 0), (0, .ref a), (1, .int x1), (2, .int x2)]) hx hb dRows_isClear_1 rfl hl (by decide) rfl (fun ls hl => ?_)
  exact J2 _ ls x1 x2 0 rfl (lv_sub hl [1, 2, 3, 0] rfl)
theorem k5_Rows_isClear (l : Launch) (γ : gE) (A : Nat → Prop) (κ : Nat → Nat) (x1 : Int32) (x2 : Int32)  : PU l yRows_isClear bRows_isClear 4 (some .boolean) 1 22 [.ref (γ.2.2.2 5), .int x1, .int x2] γ (INV γ A κ) (vp_Si (fun v : Int32 => True)) :=
  pu_up 6 (by decide) (by decide) (fun Z => c_Rows_isClear l γ Z (γ.2.2.2 5) (κ 8) x1 x2)
theorem k7_Rows_isClear (l : Launch) (γ : gE) (A : Nat → Prop) (κ : Nat → Nat) (x1 : Int32) (x2 : Int32)  : PU l yRows_isClear bRows_isClear 4 (some .boolean) 1 22 [.ref (γ.2.2.2 7), .int x1, .int x2] γ (INV γ A κ) (vp_Si (fun v : Int32 => True)) :=
  pu_up 8 (by decide) (by decide) (fun Z => c_Rows_isClear l γ Z (γ.2.2.2 7) (κ 9) x1 x2)
theorem k10_Rows_isClear (l : Launch) (γ : gE) (A : Nat → Prop) (κ : Nat → Nat) (x1 : Int32) (x2 : Int32)  : PU l yRows_isClear bRows_isClear 4 (some .boolean) 1 22 [.ref (γ.2.2.2 10), .int x1, .int x2] γ (INV γ A κ) (vp_Si (fun v : Int32 => True)) :=
  pu_up 10 (by decide) (by decide) (fun Z => c_Rows_isClear l γ Z (γ.2.2.2 10) (κ 10) x1 x2)

set_option maxHeartbeats 4000000 in
set_option maxRecDepth 100000 in
theorem c_Rows_bitsOf (l : Launch) (γ : gE) (Z : Nat → Prop) (a M : Nat) (x1 : Int32) (x2 : Int32)  : PU l yRows_bitsOf bRows_bitsOf 6 (some .long) 1 22 [.ref a, .int x1, .int x2] γ (cmp γ (fRows γ a M) Z) (vp_Sl (fun v : Int64 => True)) := by
  refine pu_openJ (by decide) (Nat.le_of_ble_eq_true rfl) ?_
  intro p e s m args below meth c ls Q S hC hI hE hl
  obtain ⟨hx, hb, hml, hown, hW⟩ := id S
  obtain ⟨ws, ⟨b0, g0, rfl, h1, h2⟩, hP, hD⟩ := id hI
  have hP : va_P γ.1 vwCl [(a, .inr (5, [.ref b0])), (b0, .inl (γ.2.2.1, 4 * M, .inr (.inl g0)))] s.heap := hP
  have hl : lv_has ls 6 [(0, .ref a), (1, .int x1), (2, .int x2)] := hl
  have J5 : ∀ (N5 : Nat) (ls : Array Slot)  (i1 : Int32) (i2 : Int32) (j3 : Int64) (i5 : Int32), (2147483647 - i5.toInt).toNat = N5 → lv_has ls 6 [(0, .ref a), (1, .int i1), (2, .int i2), (3, .long j3), (5, .int i5)] → W p l e (bs_rm 1 0 0 22) s m args below meth c s.heap [] 0 0 Q (F0 m 5 ls []) := by
    intro N5
    induction N5 using Nat.strongRecOn with
    | ind N5 ih5 =>
      intro ls  i1 i2 j3 i5  hm5 hl
      have J38 : ∀ (ls : Array Slot)  (i1 : Int32) (i2 : Int32) (j3 : Int64) (i5 : Int32), (i5.toInt < 2147483647 ∧ (2147483647 - i5.toInt).toNat = N5) → lv_has ls 6 [(0, .ref a), (1, .int i1), (2, .int i2), (3, .long j3), (5, .int i5)] → W p l e (bs_rm 1 0 0 22) s m args below meth c s.heap [] 0 0 Q (F0 m 38 ls []) := by
        intro ls  i1 i2 j3 i5 ⟨hf5a, hf5b⟩ hl
        obtain ⟨v9, ev9⟩ : ∃ y : Int32, y = i5 + 1 := ⟨_, rfl⟩
        refine lv_iinc (v := v9) (lv' := [(5, .int v9), (0, .ref a), (1, .int i1), (2, .int i2), (3, .long j3)]) hx hb dRows_bitsOf_38 hl (k := 4) rfl (by rw [ev9]; rfl) (by decide) rfl (fun ls hl => ?_)
        refine lv_goto (tgt := 5) hx hb dRows_bitsOf_41 (by decide) ?_
        exact ih5 _ (by have q1 : i5.toInt < 2147483647 := (by first | exact (mu_up (k := i5) (by assumption)).2 | assumption); have q2 := mu_lt q1; rw [← ev9] at q2; omega) ls i1 i2 j3 v9 rfl (lv_sub hl [1, 2, 3, 4, 0] rfl)
      refine lv_iload hx hb dRows_bitsOf_5 (lv_at hl 4 rfl) ?_
      refine lv_iload_n hx hb dRows_bitsOf_7 rfl (lv_at hl 2 rfl) ?_
      refine lv_icmp_ge (tgt := 44) hx hb dRows_bitsOf_8 (by decide) (fun c10 => ?_) (fun c10 => ?_)
      · refine lv_lload_n hx hb dRows_bitsOf_44 rfl (lv_at hl 3 rfl) ?_
        exact hE _ _ _ trivial dRows_bitsOf_45
      · refine lv_iload hx hb dRows_bitsOf_11 (lv_at hl 4 rfl) ?_
        refine lv_bipush (v := 64) hx hb dRows_bitsOf_13 (by decide) ?_
        refine lv_icmp_ge (tgt := 44) hx hb dRows_bitsOf_15 (by decide) (fun c11 => ?_) (fun c11 => ?_)
        · refine lv_lload_n hx hb dRows_bitsOf_44 rfl (lv_at hl 3 rfl) ?_
          exact hE _ _ _ trivial dRows_bitsOf_45
        · refine lv_aload_n hx hb dRows_bitsOf_18 rfl (lv_at hl 0 rfl) ?_
          refine lv_iload_n hx hb dRows_bitsOf_19 rfl (lv_at hl 1 rfl) ?_
          refine lv_iload hx hb dRows_bitsOf_20 (lv_at hl 4 rfl) ?_
          refine pu_Vi (rest := []) S hC (c_Rows_get l γ Z a M i1 i5) meRows_get qw_f4898d707a ⟨Nat.le_of_ble_eq_true rfl, Nat.le_of_ble_eq_true rfl⟩ (va_recv hC.1 hP (ci := 5) (q0 := 0) rfl rfl) hI rfl hl.1 rfl (Nat.le_of_ble_eq_true rfl) dRows_bitsOf_22 ⟨Nat.zero_le _, Nat.zero_le _⟩ (fun r12 hr12 => ?_)
          refine pu_Si (rest := []) S hC (s_Logic_isHigh l γ (cmp γ (fRows γ a M) Z) r12) meLogic_isHigh qw_71b4d70101 ⟨Nat.le_of_ble_eq_true rfl, Nat.le_of_ble_eq_true rfl⟩ hI rfl hl.1 rfl (Nat.le_of_ble_eq_true rfl) dRows_bitsOf_25 ⟨Nat.zero_le _, Nat.zero_le _⟩ (fun r13 hr13 => ?_)
          refine lv_if_eq (tgt := 38) hx hb dRows_bitsOf_28 (by decide) (fun c14 => ?_) (fun c14 => ?_)
          · exact J38 ls i1 i2 j3 i5 (by first | exact ⟨(mu_up (k := i5) (by assumption)).2, by assumption⟩ | exact ⟨by assumption, by assumption⟩) (lv_sub hl [0, 1, 2, 3, 4] rfl)
          · refine lv_lload_n hx hb dRows_bitsOf_31 rfl (lv_at hl 3 rfl) ?_
            refine lv_lconst (v := 1) hx hb dRows_bitsOf_32 (by decide) ?_
            refine lv_iload hx hb dRows_bitsOf_33 (lv_at hl 4 rfl) ?_
            refine lv_lshl hx hb dRows_bitsOf_35 rfl ?_
            refine lv_topl (fun v15 ev15 => ?_)
            refine lv_lor hx hb dRows_bitsOf_36 ?_
            refine lv_topl (fun v16 ev16 => ?_)
            refine lv_lstore_n (lv' := [(3, .long v16), (0, .ref a), (1, .int i1), (2, .int i2), (5, .int i5)]) hx hb dRows_bitsOf_37 rfl hl (by decide) rfl (fun ls hl => ?_)
            exact J38 ls i1 i2 v16 i5 (by first | exact ⟨(mu_up (k := i5) (by assumption)).2, by assumption⟩ | exact ⟨by assumption, by assumption⟩) (lv_sub hl [1, 2, 3, 0, 4] rfl)
  refine lv_lconst (v := 0) hx hb dRows_bitsOf_0 (by decide) ?_
  refine lv_lstore_n (lv' := [(3, .long 0), (0, .ref a), (1, .int x1), (2, .int x2)]) hx hb dRows_bitsOf_1 rfl hl (by decide) rfl (fun ls hl => ?_)
  refine lv_iconst (v := 0) hx hb dRows_bitsOf_2 (by decide) ?_
  refine lv_istore (lv' := [(5, .int 0), (3, .long 0), (0, .ref a), (1, .int x1), (2, .int x2)]) hx hb dRows_bitsOf_3 hl (by decide) rfl (fun ls hl => ?_)
  exact J5 _ ls x1 x2 0 0 rfl (lv_sub hl [2, 3, 4, 1, 0] rfl)
theorem k5_Rows_bitsOf (l : Launch) (γ : gE) (A : Nat → Prop) (κ : Nat → Nat) (x1 : Int32) (x2 : Int32)  : PU l yRows_bitsOf bRows_bitsOf 6 (some .long) 1 22 [.ref (γ.2.2.2 5), .int x1, .int x2] γ (INV γ A κ) (vp_Sl (fun v : Int64 => True)) :=
  pu_up 6 (by decide) (by decide) (fun Z => c_Rows_bitsOf l γ Z (γ.2.2.2 5) (κ 8) x1 x2)
theorem k7_Rows_bitsOf (l : Launch) (γ : gE) (A : Nat → Prop) (κ : Nat → Nat) (x1 : Int32) (x2 : Int32)  : PU l yRows_bitsOf bRows_bitsOf 6 (some .long) 1 22 [.ref (γ.2.2.2 7), .int x1, .int x2] γ (INV γ A κ) (vp_Sl (fun v : Int64 => True)) :=
  pu_up 8 (by decide) (by decide) (fun Z => c_Rows_bitsOf l γ Z (γ.2.2.2 7) (κ 9) x1 x2)
theorem k10_Rows_bitsOf (l : Launch) (γ : gE) (A : Nat → Prop) (κ : Nat → Nat) (x1 : Int32) (x2 : Int32)  : PU l yRows_bitsOf bRows_bitsOf 6 (some .long) 1 22 [.ref (γ.2.2.2 10), .int x1, .int x2] γ (INV γ A κ) (vp_Sl (fun v : Int64 => True)) :=
  pu_up 10 (by decide) (by decide) (fun Z => c_Rows_bitsOf l γ Z (γ.2.2.2 10) (κ 10) x1 x2)

set_option maxHeartbeats 4000000 in
set_option maxRecDepth 100000 in
theorem k_Looker_isHidden (l : Launch) (γ : gE) (A : Nat → Prop) (κ : Nat → Nat) (x1 : Int32)  : PU l yLooker_isHidden bLooker_isHidden 2 (some .boolean) 0 0 [.ref (γ.2.2.2 8), .int x1] γ (INV γ A κ) (vp_Si (fun v : Int32 => True)) := by
  refine pu_openZ (by decide) (Nat.le_of_ble_eq_true rfl) ?_
  intro p e s m args below meth c ls Q S hC hI hE hl
  obtain ⟨hx, hb, hml, hown, hW⟩ := id S
  obtain ⟨Zk, wk, ⟨bh, fh, vf, va, rfl, hk1, hk2⟩, hPk, hDk⟩ := inv_c hI 1 (by decide) (by decide)
  have hPk : va_P γ.1 vwCl [(γ.2.2.2 0, .inr (0, [.ref (γ.2.2.2 1), .ref (γ.2.2.2 2), .ref (γ.2.2.2 3), .ref (γ.2.2.2 4), .ref (γ.2.2.2 6), .ref (γ.2.2.2 8), .int vf])), (γ.2.2.2 8, .inr (7, [.ref (γ.2.2.2 1), .ref (γ.2.2.2 2), .ref (γ.2.2.2 3), .ref (γ.2.2.2 9), .ref (γ.2.2.2 11), .ref (γ.2.2.2 12), .ref bh, .int va])), (γ.2.2.2 11, .inr (8, [.ref (γ.2.2.2 9)])), (γ.2.2.2 12, .inr (9, [.ref (γ.2.2.2 1), .ref (γ.2.2.2 2), .ref (γ.2.2.2 3), .ref (γ.2.2.2 4), .ref (γ.2.2.2 9)])), (bh, .inl (γ.2.1, κ 15, .inl fh))] s.heap := hPk
  have hl : lv_has ls 2 [(0, .ref (γ.2.2.2 8)), (1, .int x1)] := hl
  have J23 : ∀ (ls : Array Slot)  (i1 : Int32), lv_has ls 2 [(0, .ref (γ.2.2.2 8)), (1, .int i1)] → W p l e (bs_rm 0 0 0 0) s m args below meth c s.heap [] 0 0 Q (F0 m 23 ls []) := by
    intro ls  i1  hl
    refine lv_iconst (v := 1) hx hb dLooker_isHidden_23 (by decide) ?_
    refine lv_goto (tgt := 28) hx hb dLooker_isHidden_24 (by decide) ?_
    exact hE _ _ _ rfl trivial dLooker_isHidden_28
  refine lv_iload_n hx hb dLooker_isHidden_0 rfl (lv_at hl 1 rfl) ?_
  refine lv_if_lt (tgt := 23) hx hb dLooker_isHidden_1 (by decide) (fun c6 => ?_) (fun c6 => ?_)
  · exact J23 ls x1 (lv_sub hl [0, 1] rfl)
  · refine lv_iload_n hx hb dLooker_isHidden_4 rfl (lv_at hl 1 rfl) ?_
    refine lv_aload_n hx hb dLooker_isHidden_5 rfl (lv_at hl 0 rfl) ?_
    refine va_get (D := γ.1) (ci := 7) (v := .ref bh) (C := R_Looker) (T := T_Looker) (N := 8) (Ts := bs_W0) hx hb hW in_Looker hown hC.1 hPk 1 rfl rfl 6 (by decide) (hW _ qw_899a0812ea) (fun _ h9 => h9) rfl dLooker_isHidden_6 ?_
    refine va_alen hx hb hC.1 hPk 4 0 rfl rfl rfl dLooker_isHidden_9 ?_
    refine lv_topi (fun v7 ev7 => ?_)
    have ev7 : v7 = nI (κ 15) := ev7
    refine lv_icmp_ge (tgt := 23) hx hb dLooker_isHidden_10 (by decide) (fun c8 => ?_) (fun c8 => ?_)
    · exact J23 ls x1 (lv_sub hl [0, 1] rfl)
    · refine lv_aload_n hx hb dLooker_isHidden_13 rfl (lv_at hl 0 rfl) ?_
      refine va_get (D := γ.1) (ci := 7) (v := .ref bh) (C := R_Looker) (T := T_Looker) (N := 8) (Ts := bs_W0) hx hb hW in_Looker hown hC.1 hPk 1 rfl rfl 6 (by decide) (hW _ qw_899a0812ea) (fun _ h9 => h9) rfl dLooker_isHidden_14 ?_
      refine lv_iload_n hx hb dLooker_isHidden_17 rfl (lv_at hl 1 rfl) ?_
      refine va_iald hx hb hC.1 hPk 4 0 rfl rfl (by subst_vars; exact in_cmp (by assumption) (by assumption) (by omega)) dLooker_isHidden_18 ?_
      refine lv_topi (fun v9 ev9 => ?_)
      refine lv_iconst (v := 1) hx hb dLooker_isHidden_19 (by decide) ?_
      refine lv_icmp_ne (tgt := 27) hx hb dLooker_isHidden_20 (by decide) (fun c10 => ?_) (fun c10 => ?_)
      · refine lv_iconst (v := 0) hx hb dLooker_isHidden_27 (by decide) ?_
        exact hE _ _ _ rfl trivial dLooker_isHidden_28
      · exact J23 ls x1 (lv_sub hl [0, 1] rfl)

set_option maxHeartbeats 4000000 in
set_option maxRecDepth 100000 in
theorem k_Looker_isOperator (l : Launch) (γ : gE) (A : Nat → Prop) (κ : Nat → Nat) (x1 : Int32) (x2 : Int32) (x3 : Int32)  : PU l yLooker_isOperator bLooker_isOperator 5 (some .boolean) 2 42 [.ref (γ.2.2.2 8), .int x1, .int x2, .int x3] γ (INV γ A κ) (vp_Si (fun v : Int32 => True)) := by
  refine pu_openZ (by decide) (Nat.le_of_ble_eq_true rfl) ?_
  intro p e s m args below meth c ls Q S hC hI hE hl
  obtain ⟨hx, hb, hml, hown, hW⟩ := id S
  have hl : lv_has ls 5 [(0, .ref (γ.2.2.2 8)), (1, .int x1), (2, .int x2), (3, .int x3)] := hl
  refine lv_aload_n hx hb dLooker_isOperator_0 rfl (lv_at hl 0 rfl) ?_
  refine of_get S hC (of_8_0 hI) in_Looker rfl (by decide) qw_22d2793f25 dLooker_isOperator_1 ?_
  refine lv_iload_n hx hb dLooker_isOperator_4 rfl (lv_at hl 1 rfl) ?_
  refine pu_Vi (rest := []) S hC (k1_Trees_valueOf l γ A κ x1) meTrees_valueOf qw_ea9162cf9a ⟨Nat.le_of_ble_eq_true rfl, Nat.le_of_ble_eq_true rfl⟩ (rv_1 hC hI) hI rfl hl.1 rfl (Nat.le_of_ble_eq_true rfl) dLooker_isOperator_5 ⟨Nat.zero_le _, Nat.zero_le _⟩ (fun r6 hr6 => ?_)
  refine lv_istore (lv' := [(4, .int r6), (0, .ref (γ.2.2.2 8)), (1, .int x1), (2, .int x2), (3, .int x3)]) hx hb dLooker_isOperator_8 hl (by decide) rfl (fun ls hl => ?_)
  refine lv_aload_n hx hb dLooker_isOperator_10 rfl (lv_at hl 1 rfl) ?_
  refine of_get S hC (of_8_0 hI) in_Looker rfl (by decide) qw_22d2793f25 dLooker_isOperator_11 ?_
  refine lv_iload_n hx hb dLooker_isOperator_14 rfl (lv_at hl 2 rfl) ?_
  refine pu_Vi (rest := []) S hC (k1_Trees_countOf l γ A κ x1) meTrees_countOf qw_195048702c ⟨Nat.le_of_ble_eq_true rfl, Nat.le_of_ble_eq_true rfl⟩ (rv_1 hC hI) hI rfl hl.1 rfl (Nat.le_of_ble_eq_true rfl) dLooker_isOperator_15 ⟨Nat.zero_le _, Nat.zero_le _⟩ (fun r7 hr7 => ?_)
  refine lv_iload_n hx hb dLooker_isOperator_18 rfl (lv_at hl 3 rfl) ?_
  refine lv_icmp_ne (tgt := 37) hx hb dLooker_isOperator_19 (by decide) (fun c8 => ?_) (fun c8 => ?_)
  · refine lv_iconst (v := 0) hx hb dLooker_isOperator_37 (by decide) ?_
    exact hE _ _ _ rfl trivial dLooker_isOperator_38
  · refine lv_iload hx hb dLooker_isOperator_22 (lv_at hl 0 rfl) ?_
    refine lv_if_lt (tgt := 37) hx hb dLooker_isOperator_24 (by decide) (fun c9 => ?_) (fun c9 => ?_)
    · refine lv_iconst (v := 0) hx hb dLooker_isOperator_37 (by decide) ?_
      exact hE _ _ _ rfl trivial dLooker_isOperator_38
    · refine lv_iload hx hb dLooker_isOperator_27 (lv_at hl 0 rfl) ?_
      refine lv_iload_n hx hb dLooker_isOperator_29 rfl (lv_at hl 4 rfl) ?_
      refine lv_icmp_gt (tgt := 37) hx hb dLooker_isOperator_30 (by decide) (fun c10 => ?_) (fun c10 => ?_)
      · refine lv_iconst (v := 0) hx hb dLooker_isOperator_37 (by decide) ?_
        exact hE _ _ _ rfl trivial dLooker_isOperator_38
      · refine lv_iconst (v := 1) hx hb dLooker_isOperator_33 (by decide) ?_
        refine lv_goto (tgt := 38) hx hb dLooker_isOperator_34 (by decide) ?_
        exact hE _ _ _ rfl trivial dLooker_isOperator_38

set_option maxHeartbeats 4000000 in
set_option maxRecDepth 100000 in
theorem k_Looker_classMisfit (l : Launch) (γ : gE) (A : Nat → Prop) (κ : Nat → Nat) (x1 : Int32) (x2 : Int32)  : PU l yLooker_classMisfit bLooker_classMisfit 5 (some .int) 3 64 [.ref (γ.2.2.2 8), .int x1, .int x2] γ (INV γ A κ) (vp_Si (fun v : Int32 => True)) := by
  refine pu_openI (by decide) (Nat.le_of_ble_eq_true rfl) ?_
  intro p e s m args below meth c ls Q S hC hI hE hl
  obtain ⟨hx, hb, hml, hown, hW⟩ := id S
  have hl : lv_has ls 5 [(0, .ref (γ.2.2.2 8)), (1, .int x1), (2, .int x2)] := hl
  have J51 : ∀ (ls : Array Slot)  (i1 : Int32) (i2 : Int32) (i3 : Int32) (i4 : Int32), lv_has ls 5 [(0, .ref (γ.2.2.2 8)), (1, .int i1), (2, .int i2), (3, .int i3), (4, .int i4)] → W p l e (bs_rm 3 0 0 64) s m args below meth c s.heap [] 0 0 Q (F0 m 51 ls []) := by
    intro ls  i1 i2 i3 i4  hl
    refine lv_iload_n hx hb dLooker_classMisfit_51 rfl (lv_at hl 3 rfl) ?_
    refine lv_iconst (v := 3) hx hb dLooker_classMisfit_52 (by decide) ?_
    refine lv_icmp_ne (tgt := 78) hx hb dLooker_classMisfit_53 (by decide) (fun c12 => ?_) (fun c12 => ?_)
    · refine lv_iconst (v := 0) hx hb dLooker_classMisfit_78 (by decide) ?_
      exact hE _ _ _ trivial dLooker_classMisfit_79
    · refine lv_iload hx hb dLooker_classMisfit_56 (lv_at hl 4 rfl) ?_
      refine lv_if_eq (tgt := 78) hx hb dLooker_classMisfit_58 (by decide) (fun c13 => ?_) (fun c13 => ?_)
      · refine lv_iconst (v := 0) hx hb dLooker_classMisfit_78 (by decide) ?_
        exact hE _ _ _ trivial dLooker_classMisfit_79
      · refine lv_iload hx hb dLooker_classMisfit_61 (lv_at hl 4 rfl) ?_
        refine lv_aload_n hx hb dLooker_classMisfit_63 rfl (lv_at hl 0 rfl) ?_
        refine of_get S hC (of_8_2 hI) in_Looker rfl (by decide) qw_abb87946e7 dLooker_classMisfit_64 ?_
        refine lv_iload_n hx hb dLooker_classMisfit_67 rfl (lv_at hl 2 rfl) ?_
        refine pu_Vi (rest := [.int i4]) S hC (k3_Types_extentOf l γ A κ i2) meTypes_extentOf qw_a6b1bdd3ae ⟨Nat.le_of_ble_eq_true rfl, Nat.le_of_ble_eq_true rfl⟩ (rv_3 hC hI) hI rfl hl.1 rfl (Nat.le_of_ble_eq_true rfl) dLooker_classMisfit_68 ⟨Nat.zero_le _, Nat.zero_le _⟩ (fun r14 hr14 => ?_)
        refine lv_icmp_eq (tgt := 78) hx hb dLooker_classMisfit_71 (by decide) (fun c15 => ?_) (fun c15 => ?_)
        · refine lv_iconst (v := 0) hx hb dLooker_classMisfit_78 (by decide) ?_
          exact hE _ _ _ trivial dLooker_classMisfit_79
        · refine lv_iconst (v := 4) hx hb dLooker_classMisfit_74 (by decide) ?_
          refine lv_goto (tgt := 79) hx hb dLooker_classMisfit_75 (by decide) ?_
          exact hE _ _ _ trivial dLooker_classMisfit_79
  refine lv_aload_n hx hb dLooker_classMisfit_0 rfl (lv_at hl 0 rfl) ?_
  refine of_get S hC (of_8_3 hI) in_Looker rfl (by decide) qw_77aeadf252 dLooker_classMisfit_1 ?_
  refine lv_iload_n hx hb dLooker_classMisfit_4 rfl (lv_at hl 1 rfl) ?_
  refine pu_Vi (rest := []) S hC (k9_Looks_classOf l γ A κ x1) meLooks_classOf qw_f23e8ec7f8 ⟨Nat.le_of_ble_eq_true rfl, Nat.le_of_ble_eq_true rfl⟩ (rv_9 hC hI) hI rfl hl.1 rfl (Nat.le_of_ble_eq_true rfl) dLooker_classMisfit_5 ⟨Nat.zero_le _, Nat.zero_le _⟩ (fun r16 hr16 => ?_)
  refine lv_istore_n (lv' := [(3, .int r16), (0, .ref (γ.2.2.2 8)), (1, .int x1), (2, .int x2)]) hx hb dLooker_classMisfit_8 rfl hl (by decide) rfl (fun ls hl => ?_)
  refine lv_aload_n hx hb dLooker_classMisfit_9 rfl (lv_at hl 1 rfl) ?_
  refine of_get S hC (of_8_3 hI) in_Looker rfl (by decide) qw_77aeadf252 dLooker_classMisfit_10 ?_
  refine lv_iload_n hx hb dLooker_classMisfit_13 rfl (lv_at hl 2 rfl) ?_
  refine pu_Vi (rest := []) S hC (k9_Looks_extentOf l γ A κ x1) meLooks_extentOf qw_a593f61add ⟨Nat.le_of_ble_eq_true rfl, Nat.le_of_ble_eq_true rfl⟩ (rv_9 hC hI) hI rfl hl.1 rfl (Nat.le_of_ble_eq_true rfl) dLooker_classMisfit_14 ⟨Nat.zero_le _, Nat.zero_le _⟩ (fun r17 hr17 => ?_)
  refine lv_istore (lv' := [(4, .int r17), (3, .int r16), (0, .ref (γ.2.2.2 8)), (1, .int x1), (2, .int x2)]) hx hb dLooker_classMisfit_17 hl (by decide) rfl (fun ls hl => ?_)
  refine lv_iload_n hx hb dLooker_classMisfit_19 rfl (lv_at hl 1 rfl) ?_
  refine lv_aload_n hx hb dLooker_classMisfit_20 rfl (lv_at hl 2 rfl) ?_
  refine of_get S hC (of_8_2 hI) in_Looker rfl (by decide) qw_abb87946e7 dLooker_classMisfit_21 ?_
  refine lv_iload_n hx hb dLooker_classMisfit_24 rfl (lv_at hl 4 rfl) ?_
  refine pu_Vi (rest := [.int r16]) S hC (k3_Types_classOf l γ A κ x2) meTypes_classOf qw_80ac4113df ⟨Nat.le_of_ble_eq_true rfl, Nat.le_of_ble_eq_true rfl⟩ (rv_3 hC hI) hI rfl hl.1 rfl (Nat.le_of_ble_eq_true rfl) dLooker_classMisfit_25 ⟨Nat.zero_le _, Nat.zero_le _⟩ (fun r18 hr18 => ?_)
  refine lv_icmp_ne (tgt := 49) hx hb dLooker_classMisfit_28 (by decide) (fun c19 => ?_) (fun c19 => ?_)
  · refine lv_iconst (v := 3) hx hb dLooker_classMisfit_49 (by decide) ?_
    exact hE _ _ _ trivial dLooker_classMisfit_50
  · refine lv_iload_n hx hb dLooker_classMisfit_31 rfl (lv_at hl 1 rfl) ?_
    refine lv_iconst (v := 4) hx hb dLooker_classMisfit_32 (by decide) ?_
    refine lv_icmp_ne (tgt := 51) hx hb dLooker_classMisfit_33 (by decide) (fun c20 => ?_) (fun c20 => ?_)
    · exact J51 ls x1 x2 r16 r17 (lv_sub hl [2, 3, 4, 1, 0] rfl)
    · refine lv_iload hx hb dLooker_classMisfit_36 (lv_at hl 0 rfl) ?_
      refine lv_aload_n hx hb dLooker_classMisfit_38 rfl (lv_at hl 2 rfl) ?_
      refine of_get S hC (of_8_2 hI) in_Looker rfl (by decide) qw_abb87946e7 dLooker_classMisfit_39 ?_
      refine lv_iload_n hx hb dLooker_classMisfit_42 rfl (lv_at hl 4 rfl) ?_
      refine pu_Vi (rest := [.int r17]) S hC (k3_Types_extentOf l γ A κ x2) meTypes_extentOf qw_a6b1bdd3ae ⟨Nat.le_of_ble_eq_true rfl, Nat.le_of_ble_eq_true rfl⟩ (rv_3 hC hI) hI rfl hl.1 rfl (Nat.le_of_ble_eq_true rfl) dLooker_classMisfit_43 ⟨Nat.zero_le _, Nat.zero_le _⟩ (fun r21 hr21 => ?_)
      refine lv_icmp_eq (tgt := 51) hx hb dLooker_classMisfit_46 (by decide) (fun c22 => ?_) (fun c22 => ?_)
      · exact J51 ls x1 x2 r16 r17 (lv_sub hl [2, 3, 4, 1, 0] rfl)
      · refine lv_iconst (v := 3) hx hb dLooker_classMisfit_49 (by decide) ?_
        exact hE _ _ _ trivial dLooker_classMisfit_50

set_option maxHeartbeats 4000000 in
set_option maxRecDepth 100000 in
theorem k_Looker_isOutside (l : Launch) (γ : gE) (A : Nat → Prop) (κ : Nat → Nat) (x1 : Int32) (x2 : Int32)  : PU l yLooker_isOutside bLooker_isOutside 4 (some .boolean) 2 42 [.ref (γ.2.2.2 8), .int x1, .int x2] γ (INV γ A κ) (vp_Si (fun v : Int32 => True)) := by
  refine pu_openZ (by decide) (Nat.le_of_ble_eq_true rfl) ?_
  intro p e s m args below meth c ls Q S hC hI hE hl
  obtain ⟨hx, hb, hml, hown, hW⟩ := id S
  have hl : lv_has ls 4 [(0, .ref (γ.2.2.2 8)), (1, .int x1), (2, .int x2)] := hl
  have J56 : ∀ (ls : Array Slot)  (i1 : Int32) (i2 : Int32) (i3 : Int32), lv_has ls 4 [(0, .ref (γ.2.2.2 8)), (1, .int i1), (2, .int i2), (3, .int i3)] → W p l e (bs_rm 2 0 0 42) s m args below meth c s.heap [] 0 0 Q (F0 m 56 ls []) := by
    intro ls  i1 i2 i3  hl
    refine lv_iconst (v := 1) hx hb dLooker_isOutside_56 (by decide) ?_
    refine lv_goto (tgt := 61) hx hb dLooker_isOutside_57 (by decide) ?_
    exact hE _ _ _ rfl trivial dLooker_isOutside_61
  refine lv_aload_n hx hb dLooker_isOutside_0 rfl (lv_at hl 0 rfl) ?_
  refine of_get S hC (of_8_3 hI) in_Looker rfl (by decide) qw_77aeadf252 dLooker_isOutside_1 ?_
  refine lv_iload_n hx hb dLooker_isOutside_4 rfl (lv_at hl 1 rfl) ?_
  refine pu_Vi (rest := []) S hC (k9_Looks_numberOf l γ A κ x1) meLooks_numberOf qw_7e695d47da ⟨Nat.le_of_ble_eq_true rfl, Nat.le_of_ble_eq_true rfl⟩ (rv_9 hC hI) hI rfl hl.1 rfl (Nat.le_of_ble_eq_true rfl) dLooker_isOutside_5 ⟨Nat.zero_le _, Nat.zero_le _⟩ (fun r10 hr10 => ?_)
  refine lv_istore_n (lv' := [(3, .int r10), (0, .ref (γ.2.2.2 8)), (1, .int x1), (2, .int x2)]) hx hb dLooker_isOutside_8 rfl hl (by decide) rfl (fun ls hl => ?_)
  refine lv_aload_n hx hb dLooker_isOutside_9 rfl (lv_at hl 1 rfl) ?_
  refine of_get S hC (of_8_3 hI) in_Looker rfl (by decide) qw_77aeadf252 dLooker_isOutside_10 ?_
  refine lv_iload_n hx hb dLooker_isOutside_13 rfl (lv_at hl 2 rfl) ?_
  refine pu_Vi (rest := []) S hC (k9_Looks_classOf l γ A κ x1) meLooks_classOf qw_f23e8ec7f8 ⟨Nat.le_of_ble_eq_true rfl, Nat.le_of_ble_eq_true rfl⟩ (rv_9 hC hI) hI rfl hl.1 rfl (Nat.le_of_ble_eq_true rfl) dLooker_isOutside_14 ⟨Nat.zero_le _, Nat.zero_le _⟩ (fun r11 hr11 => ?_)
  refine lv_iconst (v := 2) hx hb dLooker_isOutside_17 (by decide) ?_
  refine lv_icmp_ne (tgt := 60) hx hb dLooker_isOutside_18 (by decide) (fun c12 => ?_) (fun c12 => ?_)
  · refine lv_iconst (v := 0) hx hb dLooker_isOutside_60 (by decide) ?_
    exact hE _ _ _ rfl trivial dLooker_isOutside_61
  · refine lv_aload_n hx hb dLooker_isOutside_21 rfl (lv_at hl 1 rfl) ?_
    refine of_get S hC (of_8_3 hI) in_Looker rfl (by decide) qw_77aeadf252 dLooker_isOutside_22 ?_
    refine lv_iload_n hx hb dLooker_isOutside_25 rfl (lv_at hl 2 rfl) ?_
    refine pu_Vi (rest := []) S hC (k9_Looks_isFixed l γ A κ x1) meLooks_isFixed qw_3ab14e380a ⟨Nat.le_of_ble_eq_true rfl, Nat.le_of_ble_eq_true rfl⟩ (rv_9 hC hI) hI rfl hl.1 rfl (Nat.le_of_ble_eq_true rfl) dLooker_isOutside_26 ⟨Nat.zero_le _, Nat.zero_le _⟩ (fun r13 hr13 => ?_)
    refine lv_if_eq (tgt := 60) hx hb dLooker_isOutside_29 (by decide) (fun c14 => ?_) (fun c14 => ?_)
    · refine lv_iconst (v := 0) hx hb dLooker_isOutside_60 (by decide) ?_
      exact hE _ _ _ rfl trivial dLooker_isOutside_61
    · refine lv_iload_n hx hb dLooker_isOutside_32 rfl (lv_at hl 0 rfl) ?_
      refine lv_aload_n hx hb dLooker_isOutside_33 rfl (lv_at hl 1 rfl) ?_
      refine of_get S hC (of_8_2 hI) in_Looker rfl (by decide) qw_abb87946e7 dLooker_isOutside_34 ?_
      refine lv_iload_n hx hb dLooker_isOutside_37 rfl (lv_at hl 3 rfl) ?_
      refine pu_Vi (rest := [.int r10]) S hC (k3_Types_leftOf l γ A κ x2) meTypes_leftOf qw_6a2da56b19 ⟨Nat.le_of_ble_eq_true rfl, Nat.le_of_ble_eq_true rfl⟩ (rv_3 hC hI) hI rfl hl.1 rfl (Nat.le_of_ble_eq_true rfl) dLooker_isOutside_38 ⟨Nat.zero_le _, Nat.zero_le _⟩ (fun r15 hr15 => ?_)
      refine lv_icmp_lt (tgt := 56) hx hb dLooker_isOutside_41 (by decide) (fun c16 => ?_) (fun c16 => ?_)
      · exact J56 ls x1 x2 r10 (lv_sub hl [1, 2, 3, 0] rfl)
      · refine lv_iload_n hx hb dLooker_isOutside_44 rfl (lv_at hl 0 rfl) ?_
        refine lv_aload_n hx hb dLooker_isOutside_45 rfl (lv_at hl 1 rfl) ?_
        refine of_get S hC (of_8_2 hI) in_Looker rfl (by decide) qw_abb87946e7 dLooker_isOutside_46 ?_
        refine lv_iload_n hx hb dLooker_isOutside_49 rfl (lv_at hl 3 rfl) ?_
        refine pu_Vi (rest := [.int r10]) S hC (k3_Types_rightOf l γ A κ x2) meTypes_rightOf qw_860591b8df ⟨Nat.le_of_ble_eq_true rfl, Nat.le_of_ble_eq_true rfl⟩ (rv_3 hC hI) hI rfl hl.1 rfl (Nat.le_of_ble_eq_true rfl) dLooker_isOutside_50 ⟨Nat.zero_le _, Nat.zero_le _⟩ (fun r17 hr17 => ?_)
        refine lv_icmp_le (tgt := 60) hx hb dLooker_isOutside_53 (by decide) (fun c18 => ?_) (fun c18 => ?_)
        · refine lv_iconst (v := 0) hx hb dLooker_isOutside_60 (by decide) ?_
          exact hE _ _ _ rfl trivial dLooker_isOutside_61
        · exact J56 ls x1 x2 r10 (lv_sub hl [1, 2, 3, 0] rfl)
