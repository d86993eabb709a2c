theorem qw_b544f0cdd0 : (Cond.methodLink R_Looker 195 yLooker_elementsOf) ∈ bs_W0 := bs_in (in_tables_1_4 (List.mem_of_getElem? (i := 217) rfl)) rfl
theorem qw_62eac39618 : (Cond.constantLong R_Looker 199 64) ∈ bs_W0 := bs_in (in_tables_1_4 (List.mem_of_getElem? (i := 220) rfl)) rfl
theorem qw_5a22fbae04 : (Cond.methodLink R_Operators 144 yjMath_floorMod) ∈ bs_W0 := bs_in (in_tables_1_4 (List.mem_of_getElem? (i := 17) rfl)) rfl
theorem qw_adbe8dbe65 : (Cond.fieldLink R_Trees 24 R_Trees "size" "I") ∈ bs_W0 := bs_in (in_tables_1_1 (List.mem_of_getElem? (i := 42) rfl)) rfl
theorem qw_171adcdf9f : (Cond.fieldLink R_Names 33 R_Names "size" "I") ∈ bs_W0 := bs_in (in_tables_1_1 (List.mem_of_getElem? (i := 106) rfl)) rfl
theorem qw_f9da65449d : (Cond.fieldLink R_Types 24 R_Types "size" "I") ∈ bs_W0 := bs_in (in_tables_1_1 (List.mem_of_getElem? (i := 145) rfl)) rfl
theorem qw_1a9a6fdaf2 : (Cond.fieldLink R_Objects 30 R_Objects "size" "I") ∈ bs_W0 := bs_in (in_tables_1_1 (List.mem_of_getElem? (i := 181) rfl)) rfl
theorem qw_ac7df03aa7 : (Cond.fieldLink R_Looks 9 R_Looks "classes" "[I") ∈ bs_W0 := bs_in (in_tables_1_1 (List.mem_of_getElem? (i := 202) rfl)) rfl
theorem qw_05e9c8a29d : (Cond.fieldLink R_Rows 17 R_Rows "words" "[J") ∈ bs_W0 := bs_in (in_tables_1_1 (List.mem_of_getElem? (i := 171) rfl)) rfl
theorem qw_42d433c8d4 : (Cond.methodLink R_Trees 31 yTrees_has) ∈ bs_W0 := bs_in (in_tables_1_2 (List.mem_of_getElem? (i := 195) rfl)) rfl
theorem qw_ffd9ddfb57 : (Cond.fieldLink R_Trees 9 R_Trees "kinds" "[I") ∈ bs_W0 := bs_in (in_tables_1_1 (List.mem_of_getElem? (i := 38) rfl)) rfl
theorem qw_fdd50f5077 : (Cond.fieldLink R_Trees 15 R_Trees "values" "[I") ∈ bs_W0 := bs_in (in_tables_1_1 (List.mem_of_getElem? (i := 39) rfl)) rfl
theorem qw_8f9013a759 : (Cond.methodLink R_Names 56 yNames_has) ∈ bs_W0 := bs_in (in_tables_1_3 (List.mem_of_getElem? (i := 77) rfl)) rfl
theorem qw_5903ecb25d : (Cond.fieldLink R_Names 15 R_Names "sorts" "[I") ∈ bs_W0 := bs_in (in_tables_1_1 (List.mem_of_getElem? (i := 100) rfl)) rfl
theorem qw_ee1ba38ad0 : (Cond.fieldLink R_Names 18 R_Names "numbers" "[I") ∈ bs_W0 := bs_in (in_tables_1_1 (List.mem_of_getElem? (i := 101) rfl)) rfl
theorem qw_1a22e5f505 : (Cond.fieldLink R_Names 21 R_Names "parts" "[I") ∈ bs_W0 := bs_in (in_tables_1_1 (List.mem_of_getElem? (i := 102) rfl)) rfl
set_option maxHeartbeats 4000000 in
set_option maxRecDepth 100000 in
theorem s_TypeBook_isName (l : Launch) (γ : gE) (P : Heap → Prop) (x0 : Int32)  : PU l yTypeBook_isName bTypeBook_isName 1 (some .boolean) 0 0 [.int x0] γ P (vp_Si (fun v : Int32 => (v = 1 ∧ GNm x0) ∨ (v = 0 ∧ ¬ GNm x0))) := by
  refine pu_openZ (by decide) (Nat.le_of_ble_eq_true rfl) ?_
  intro p e s m args below meth c ls Q S hC hI hE hl
  obtain ⟨hx, hb, hml, hown, hW⟩ := id S
  have hl : lv_has ls 1 [(0, .int x0)] := hl
  refine lv_iload_n hx hb dTypeBook_isName_0 rfl (lv_at hl 0 rfl) ?_
  refine lv_if_lt (tgt := 15) hx hb dTypeBook_isName_1 (by decide) (fun c3 => ?_) (fun c3 => ?_)
  · refine lv_iconst (v := 0) hx hb dTypeBook_isName_15 (by decide) ?_
    exact hE _ _ _ rfl (by first | exact Or.inl ⟨rfl, by assumption, by assumption⟩ | exact Or.inr ⟨rfl, fun h9 => h9.1 (by assumption)⟩ | exact Or.inr ⟨rfl, fun h9 => h9.2 (by assumption)⟩) dTypeBook_isName_16
  · refine lv_iload_n hx hb dTypeBook_isName_4 rfl (lv_at hl 0 rfl) ?_
    refine lv_sipush (v := 9999) hx hb dTypeBook_isName_5 (by decide) ?_
    refine lv_icmp_gt (tgt := 15) hx hb dTypeBook_isName_8 (by decide) (fun c4 => ?_) (fun c4 => ?_)
    · refine lv_iconst (v := 0) hx hb dTypeBook_isName_15 (by decide) ?_
      exact hE _ _ _ rfl (by first | exact Or.inl ⟨rfl, by assumption, by assumption⟩ | exact Or.inr ⟨rfl, fun h9 => h9.1 (by assumption)⟩ | exact Or.inr ⟨rfl, fun h9 => h9.2 (by assumption)⟩) dTypeBook_isName_16
    · refine lv_iconst (v := 1) hx hb dTypeBook_isName_11 (by decide) ?_
      refine lv_goto (tgt := 16) hx hb dTypeBook_isName_12 (by decide) ?_
      exact hE _ _ _ rfl (by first | exact Or.inl ⟨rfl, by assumption, by assumption⟩ | exact Or.inr ⟨rfl, fun h9 => h9.1 (by assumption)⟩ | exact Or.inr ⟨rfl, fun h9 => h9.2 (by assumption)⟩) dTypeBook_isName_16

set_option maxHeartbeats 4000000 in
set_option maxRecDepth 100000 in
theorem s_Looker_earlier (l : Launch) (γ : gE) (P : Heap → Prop) (x0 : Int32) (x1 : Int32)  : PU l yLooker_earlier bLooker_earlier 2 (some .int) 0 0 [.int x0, .int x1] γ P (vp_Si (fun v : Int32 => True)) := by
  refine pu_openI (by decide) (Nat.le_of_ble_eq_true rfl) ?_
  intro p e s m args below meth c ls Q S hC hI hE hl
  obtain ⟨hx, hb, hml, hown, hW⟩ := id S
  have hl : lv_has ls 2 [(0, .int x0), (1, .int x1)] := hl
  have J8 : ∀ (ls : Array Slot)  (i0 : Int32) (i1 : Int32), lv_has ls 2 [(0, .int i0), (1, .int i1)] → W p l e (bs_rm 0 0 0 0) s m args below meth c s.heap [] 0 0 Q (F0 m 8 ls []) := by
    intro ls  i0 i1  hl
    refine lv_iload_n hx hb dLooker_earlier_8 rfl (lv_at hl 0 rfl) ?_
    refine lv_if_ne (tgt := 16) hx hb dLooker_earlier_9 (by decide) (fun c7 => ?_) (fun c7 => ?_)
    · refine lv_iload_n hx hb dLooker_earlier_16 rfl (lv_at hl 0 rfl) ?_
      exact hE _ _ _ trivial dLooker_earlier_17
    · refine lv_iload_n hx hb dLooker_earlier_12 rfl (lv_at hl 1 rfl) ?_
      refine lv_goto (tgt := 17) hx hb dLooker_earlier_13 (by decide) ?_
      exact hE _ _ _ trivial dLooker_earlier_17
  refine lv_iload_n hx hb dLooker_earlier_0 rfl (lv_at hl 0 rfl) ?_
  refine lv_if_eq (tgt := 8) hx hb dLooker_earlier_1 (by decide) (fun c8 => ?_) (fun c8 => ?_)
  · exact J8 ls x0 x1 (lv_sub hl [0, 1] rfl)
  · refine lv_iload_n hx hb dLooker_earlier_4 rfl (lv_at hl 1 rfl) ?_
    refine lv_if_ne (tgt := 18) hx hb dLooker_earlier_5 (by decide) (fun c9 => ?_) (fun c9 => ?_)
    · refine lv_iload_n hx hb dLooker_earlier_18 rfl (lv_at hl 0 rfl) ?_
      refine lv_bipush (v := 11) hx hb dLooker_earlier_19 (by decide) ?_
      refine lv_irem hx hb dLooker_earlier_21 (by decide) ?_
      refine lv_topi (fun v10 ev10 => ?_)
      refine lv_iload_n hx hb dLooker_earlier_22 rfl (lv_at hl 1 rfl) ?_
      refine lv_bipush (v := 11) hx hb dLooker_earlier_23 (by decide) ?_
      refine lv_irem hx hb dLooker_earlier_25 (by decide) ?_
      refine lv_topi (fun v11 ev11 => ?_)
      refine lv_icmp_gt (tgt := 33) hx hb dLooker_earlier_26 (by decide) (fun c12 => ?_) (fun c12 => ?_)
      · refine lv_iload_n hx hb dLooker_earlier_33 rfl (lv_at hl 1 rfl) ?_
        exact hE _ _ _ trivial dLooker_earlier_34
      · refine lv_iload_n hx hb dLooker_earlier_29 rfl (lv_at hl 0 rfl) ?_
        refine lv_goto (tgt := 34) hx hb dLooker_earlier_30 (by decide) ?_
        exact hE _ _ _ trivial dLooker_earlier_34
    · exact J8 ls x0 x1 (lv_sub hl [0, 1] rfl)

set_option maxHeartbeats 4000000 in
set_option maxRecDepth 100000 in
theorem s_Looker_elementsOf (l : Launch) (γ : gE) (P : Heap → Prop) (x0 : Int32) (x1 : Int64) (x3 : Int64)  : PU l yLooker_elementsOf bLooker_elementsOf 5 (some .long) 0 0 [.int x0, .long x1, .long x3] γ P (vp_Sl (fun v : Int64 => True)) := by
  refine pu_openJ (by decide) (Nat.le_of_ble_eq_true rfl) ?_
  intro p e s m args below meth c ls Q S hC hI hE hl
  obtain ⟨hx, hb, hml, hown, hW⟩ := id S
  have hl : lv_has ls 5 [(0, .int x0), (1, .long x1), (3, .long x3)] := hl
  refine lv_iload_n hx hb dLooker_elementsOf_0 rfl (lv_at hl 0 rfl) ?_
  refine lv_bipush (v := 12) hx hb dLooker_elementsOf_1 (by decide) ?_
  refine lv_icmp_ne (tgt := 14) hx hb dLooker_elementsOf_3 (by decide) (fun c6 => ?_) (fun c6 => ?_)
  · refine lv_lload_n hx hb dLooker_elementsOf_14 rfl (lv_at hl 1 rfl) ?_
    refine lv_lload_n hx hb dLooker_elementsOf_15 rfl (lv_at hl 2 rfl) ?_
    refine lv_lsub hx hb dLooker_elementsOf_16 ?_
    refine lv_topl (fun v7 ev7 => ?_)
    refine lv_lconst (v := 1) hx hb dLooker_elementsOf_17 (by decide) ?_
    refine lv_ladd hx hb dLooker_elementsOf_18 ?_
    refine lv_topl (fun v8 ev8 => ?_)
    exact hE _ _ _ trivial dLooker_elementsOf_19
  · refine lv_lload_n hx hb dLooker_elementsOf_6 rfl (lv_at hl 2 rfl) ?_
    refine lv_lload_n hx hb dLooker_elementsOf_7 rfl (lv_at hl 1 rfl) ?_
    refine lv_lsub hx hb dLooker_elementsOf_8 ?_
    refine lv_topl (fun v9 ev9 => ?_)
    refine lv_lconst (v := 1) hx hb dLooker_elementsOf_9 (by decide) ?_
    refine lv_ladd hx hb dLooker_elementsOf_10 ?_
    refine lv_topl (fun v10 ev10 => ?_)
    refine lv_goto (tgt := 19) hx hb dLooker_elementsOf_11 (by decide) ?_
    exact hE _ _ _ trivial dLooker_elementsOf_19

set_option maxHeartbeats 4000000 in
set_option maxRecDepth 100000 in
theorem s_Looker_boundsFault (l : Launch) (γ : gE) (P : Heap → Prop) (x0 : Int32) (x1 : Int32) (x2 : Int32)  : PU l yLooker_boundsFault bLooker_boundsFault 5 (some .int) 1 24 [.int x0, .int x1, .int x2] γ P (vp_Si (fun v : Int32 => True)) := by
  refine pu_openI (by decide) (Nat.le_of_ble_eq_true rfl) ?_
  intro p e s m args below meth c ls Q S hC hI hE hl
  obtain ⟨hx, hb, hml, hown, hW⟩ := id S
  have hl : lv_has ls 5 [(0, .int x0), (1, .int x1), (2, .int x2)] := hl
  have J51 : ∀ (ls : Array Slot)  (i0 : Int32) (i1 : Int32) (i2 : Int32) (j3 : Int64), lv_has ls 5 [(0, .int i0), (1, .int i1), (2, .int i2), (3, .long j3)] → W p l e (bs_rm 1 0 0 24) s m args below meth c s.heap [] 0 0 Q (F0 m 51 ls []) := by
    intro ls  i0 i1 i2 j3  hl
    refine lv_bipush (v := 6) hx hb dLooker_boundsFault_51 (by decide) ?_
    refine lv_goto (tgt := 57) hx hb dLooker_boundsFault_53 (by decide) ?_
    exact hE _ _ _ trivial dLooker_boundsFault_57
  refine lv_iload_n hx hb dLooker_boundsFault_0 rfl (lv_at hl 0 rfl) ?_
  refine lv_bipush (v := 11) hx hb dLooker_boundsFault_1 (by decide) ?_
  refine lv_icmp_ne (tgt := 18) hx hb dLooker_boundsFault_3 (by decide) (fun c12 => ?_) (fun c12 => ?_)
  · refine lv_iload_n hx hb dLooker_boundsFault_18 rfl (lv_at hl 0 rfl) ?_
    refine lv_iload_n hx hb dLooker_boundsFault_19 rfl (lv_at hl 1 rfl) ?_
    refine lv_i2l hx hb dLooker_boundsFault_20 rfl ?_
    refine lv_topl (fun v13 ev13 => ?_)
    refine lv_iload_n hx hb dLooker_boundsFault_21 rfl (lv_at hl 2 rfl) ?_
    refine lv_i2l hx hb dLooker_boundsFault_22 rfl ?_
    refine lv_topl (fun v14 ev14 => ?_)
    refine pu_Sl (rest := []) S hC (s_Looker_elementsOf l γ P x0 v13 v14) meLooker_elementsOf qw_b544f0cdd0 ⟨Nat.le_of_ble_eq_true rfl, Nat.le_of_ble_eq_true rfl⟩ hI rfl hl.1 rfl (Nat.le_of_ble_eq_true rfl) dLooker_boundsFault_23 ⟨Nat.zero_le _, Nat.zero_le _⟩ (fun r15 hr15 => ?_)
    refine lv_lstore_n (lv' := [(3, .long r15), (0, .int x0), (1, .int x1), (2, .int x2)]) hx hb dLooker_boundsFault_26 rfl hl (by decide) rfl (fun ls hl => ?_)
    refine lv_lload_n hx hb dLooker_boundsFault_27 rfl (lv_at hl 0 rfl) ?_
    refine lv_ldc2 (v := 64) hx hb hown (hW _ qw_62eac39618) dLooker_boundsFault_28 ?_
    refine W.lcmp hx hb dLooker_boundsFault_31 ?_
    refine lv_topi (fun v16 ev16 => ?_)
    refine lv_if_le (tgt := 37) hx hb dLooker_boundsFault_32 (by decide) (fun c17 => ?_) (fun c17 => ?_)
    · refine lv_iload_n hx hb dLooker_boundsFault_37 rfl (lv_at hl 2 rfl) ?_
      refine lv_if_lt (tgt := 51) hx hb dLooker_boundsFault_38 (by decide) (fun c18 => ?_) (fun c18 => ?_)
      · exact J51 ls x0 x1 x2 r15 (lv_sub hl [1, 2, 3, 0] rfl)
      · refine lv_iload_n hx hb dLooker_boundsFault_41 rfl (lv_at hl 3 rfl) ?_
        refine lv_if_lt (tgt := 51) hx hb dLooker_boundsFault_42 (by decide) (fun c19 => ?_) (fun c19 => ?_)
        · exact J51 ls x0 x1 x2 r15 (lv_sub hl [1, 2, 3, 0] rfl)
        · refine lv_lload_n hx hb dLooker_boundsFault_45 rfl (lv_at hl 0 rfl) ?_
          refine lv_lconst (v := 1) hx hb dLooker_boundsFault_46 (by decide) ?_
          refine W.lcmp hx hb dLooker_boundsFault_47 ?_
          refine lv_topi (fun v20 ev20 => ?_)
          refine lv_if_ge (tgt := 56) hx hb dLooker_boundsFault_48 (by decide) (fun c21 => ?_) (fun c21 => ?_)
          · refine lv_iconst (v := 0) hx hb dLooker_boundsFault_56 (by decide) ?_
            exact hE _ _ _ trivial dLooker_boundsFault_57
          · exact J51 ls x0 x1 x2 r15 (lv_sub hl [1, 2, 3, 0] rfl)
    · refine lv_iconst (v := 4) hx hb dLooker_boundsFault_35 (by decide) ?_
      exact hE _ _ _ trivial dLooker_boundsFault_36
  · refine lv_iload_n hx hb dLooker_boundsFault_6 rfl (lv_at hl 1 rfl) ?_
    refine lv_iload_n hx hb dLooker_boundsFault_7 rfl (lv_at hl 2 rfl) ?_
    refine lv_icmp_le (tgt := 16) hx hb dLooker_boundsFault_8 (by decide) (fun c22 => ?_) (fun c22 => ?_)
    · refine lv_iconst (v := 0) hx hb dLooker_boundsFault_16 (by decide) ?_
      exact hE _ _ _ trivial dLooker_boundsFault_17
    · refine lv_bipush (v := 8) hx hb dLooker_boundsFault_11 (by decide) ?_
      refine lv_goto (tgt := 17) hx hb dLooker_boundsFault_13 (by decide) ?_
      exact hE _ _ _ trivial dLooker_boundsFault_17

set_option maxHeartbeats 4000000 in
set_option maxRecDepth 100000 in
theorem s_Operators_divided (l : Launch) (γ : gE) (P : Heap → Prop) (x0 : Int32) (x1 : Int64) (x3 : Int64)  : PU l yOperators_divided bOperators_divided 5 (some .long) 1 25 [.int x0, .long x1, .long x3] γ P (vp_Sl (fun v : Int64 => True)) := by
  refine pu_openJ (by decide) (Nat.le_of_ble_eq_true rfl) ?_
  intro p e s m args below meth c ls Q S hC hI hE hl
  obtain ⟨hx, hb, hml, hown, hW⟩ := id S
  have hl : lv_has ls 5 [(0, .int x0), (1, .long x1), (3, .long x3)] := hl
  refine lv_lload_n hx hb dOperators_divided_0 rfl (lv_at hl 2 rfl) ?_
  refine lv_lconst (v := 0) hx hb dOperators_divided_1 (by decide) ?_
  refine W.lcmp hx hb dOperators_divided_2 ?_
  refine lv_topi (fun v8 ev8 => ?_)
  refine lv_if_ne (tgt := 8) hx hb dOperators_divided_3 (by decide) (fun c9 => ?_) (fun c9 => ?_)
  · refine lv_iload_n hx hb dOperators_divided_8 rfl (lv_at hl 0 rfl) ?_
    refine lv_bipush (v := 16) hx hb dOperators_divided_9 (by decide) ?_
    refine lv_icmp_ne (tgt := 20) hx hb dOperators_divided_11 (by decide) (fun c10 => ?_) (fun c10 => ?_)
    · refine lv_iload_n hx hb dOperators_divided_20 rfl (lv_at hl 0 rfl) ?_
      refine lv_bipush (v := 17) hx hb dOperators_divided_21 (by decide) ?_
      refine lv_icmp_ne (tgt := 34) hx hb dOperators_divided_23 (by decide) (fun c11 => ?_) (fun c11 => ?_)
      · refine lv_lload_n hx hb dOperators_divided_34 rfl (lv_at hl 1 rfl) ?_
        refine lv_lload_n hx hb dOperators_divided_35 rfl (lv_at hl 2 rfl) ?_
        refine lv_lrem hx hb dOperators_divided_36 (lc_nz (by assumption) (by assumption)) ?_
        refine lv_topl (fun v12 ev12 => ?_)
        exact hE _ _ _ trivial dOperators_divided_37
      · refine lv_lload_n hx hb dOperators_divided_26 rfl (lv_at hl 1 rfl) ?_
        refine lv_lload_n hx hb dOperators_divided_27 rfl (lv_at hl 2 rfl) ?_
        refine pu_Sl (rest := []) S hC (s_jMath_floorMod l γ P x1 x3 (lc_nz (by assumption) (by assumption))) mejMath_floorMod qw_5a22fbae04 ⟨Nat.le_of_ble_eq_true rfl, Nat.le_of_ble_eq_true rfl⟩ hI rfl hl.1 rfl (Nat.le_of_ble_eq_true rfl) dOperators_divided_28 ⟨Nat.zero_le _, Nat.zero_le _⟩ (fun r13 hr13 => ?_)
        refine lv_goto (tgt := 37) hx hb dOperators_divided_31 (by decide) ?_
        exact hE _ _ _ trivial dOperators_divided_37
    · refine lv_lload_n hx hb dOperators_divided_14 rfl (lv_at hl 1 rfl) ?_
      refine lv_lload_n hx hb dOperators_divided_15 rfl (lv_at hl 2 rfl) ?_
      refine lv_ldiv hx hb dOperators_divided_16 (lc_nz (by assumption) (by assumption)) ?_
      refine lv_topl (fun v14 ev14 => ?_)
      refine lv_goto (tgt := 37) hx hb dOperators_divided_17 (by decide) ?_
      exact hE _ _ _ trivial dOperators_divided_37
  · refine lv_lconst (v := 0) hx hb dOperators_divided_6 (by decide) ?_
    exact hE _ _ _ trivial dOperators_divided_7

set_option maxHeartbeats 4000000 in
set_option maxRecDepth 100000 in
theorem c_Trees_has (l : Launch) (γ : gE) (Z : Nat → Prop) (a N rt L : Nat) (x1 : Int32)  : PU l yTrees_has bTrees_has 2 (some .boolean) 0 0 [.ref a, .int x1] γ (cmp γ (fTrees γ a N rt L) Z) (vp_Si (fun v : Int32 => v = 0 ∨ ∃ j, j < N ∧ x1 = nI j)) := by
  refine pu_openZ (by decide) (Nat.le_of_ble_eq_true rfl) ?_
  intro p e s m args below meth c ls Q S hC hI hE hl
  obtain ⟨hx, hb, hml, hown, hW⟩ := id S
  obtain ⟨ws, ⟨b0, b1, b2, b3, f0, f1, f2, f3, rfl, h1, h2, h3, h4, h5, h6⟩, hP, hD⟩ := id hI
  have hP : va_P γ.1 vwCl [(a, .inr (1, [.ref b0, .ref b1, .ref b2, .ref b3, .int (nI N), .int (nI rt)])), (b0, .inl (γ.2.1, L, .inl f0)), (b1, .inl (γ.2.1, L, .inl f1)), (b2, .inl (γ.2.1, L, .inl f2)), (b3, .inl (γ.2.1, L, .inl f3))] s.heap := hP
  have hl : lv_has ls 2 [(0, .ref a), (1, .int x1)] := hl
  refine lv_iload_n hx hb dTrees_has_0 rfl (lv_at hl 1 rfl) ?_
  refine lv_if_lt (tgt := 16) hx hb dTrees_has_1 (by decide) (fun c4 => ?_) (fun c4 => ?_)
  · refine lv_iconst (v := 0) hx hb dTrees_has_16 (by decide) ?_
    exact hE _ _ _ rfl (by subst_vars; first | exact Or.inl rfl | exact Or.inr (has_ok (by assumption) (by assumption) (by omega))) dTrees_has_17
  · refine lv_iload_n hx hb dTrees_has_4 rfl (lv_at hl 1 rfl) ?_
    refine lv_aload_n hx hb dTrees_has_5 rfl (lv_at hl 0 rfl) ?_
    refine va_get (D := γ.1) (ci := 1) (v := .int (nI N)) (C := R_Trees) (T := T_Trees) (N := 6) (Ts := bs_W0) hx hb hW in_Trees hown hC.1 hP 0 rfl rfl 4 (by decide) (hW _ qw_adbe8dbe65) (fun _ h9 => h9) rfl dTrees_has_6 ?_
    refine lv_topi (fun v5 ev5 => ?_)
    refine lv_icmp_ge (tgt := 16) hx hb dTrees_has_9 (by decide) (fun c6 => ?_) (fun c6 => ?_)
    · refine lv_iconst (v := 0) hx hb dTrees_has_16 (by decide) ?_
      exact hE _ _ _ rfl (by subst_vars; first | exact Or.inl rfl | exact Or.inr (has_ok (by assumption) (by assumption) (by omega))) dTrees_has_17
    · refine lv_iconst (v := 1) hx hb dTrees_has_12 (by decide) ?_
      refine lv_goto (tgt := 17) hx hb dTrees_has_13 (by decide) ?_
      exact hE _ _ _ rfl (by subst_vars; first | exact Or.inl rfl | exact Or.inr (has_ok (by assumption) (by assumption) (by omega))) dTrees_has_17
theorem k1_Trees_has (l : Launch) (γ : gE) (A : Nat → Prop) (κ : Nat → Nat) (x1 : Int32)  : PU l yTrees_has bTrees_has 2 (some .boolean) 0 0 [.ref (γ.2.2.2 1), .int x1] γ (INV γ A κ) (vp_Si (fun v : Int32 => v = 0 ∨ ∃ j, j < (κ 0) ∧ x1 = nI j)) :=
  pu_up 2 (by decide) (by decide) (fun Z => c_Trees_has l γ Z (γ.2.2.2 1) (κ 0) (κ 1) (κ 11) x1)

set_option maxHeartbeats 4000000 in
set_option maxRecDepth 100000 in
theorem c_Names_has (l : Launch) (γ : gE) (Z : Nat → Prop) (a N sc L : Nat) (x1 : Int32)  : PU l yNames_has bNames_has 2 (some .boolean) 0 0 [.ref a, .int x1] γ (cmp γ (fNames γ a N sc L) Z) (vp_Si (fun v : Int32 => v = 0 ∨ ∃ j, j < N ∧ x1 = nI j)) := by
  refine pu_openZ (by decide) (Nat.le_of_ble_eq_true rfl) ?_
  intro p e s m args below meth c ls Q S hC hI hE hl
  obtain ⟨hx, hb, hml, hown, hW⟩ := id S
  obtain ⟨ws, ⟨b0, b1, b2, b3, b4, b5, b6, f0, f1, f2, f3, f4, f5, f6, rfl, h1, h2, h3, h4, h5, h6⟩, hP, hD⟩ := id hI
  have hP : va_P γ.1 vwCl [(a, .inr (2, [.ref b0, .ref b1, .ref b2, .ref b3, .ref b4, .ref b5, .ref b6, .int (nI N), .int (nI sc)])), (b0, .inl (γ.2.1, L, .inl f0)), (b1, .inl (γ.2.1, L, .inl f1)), (b2, .inl (γ.2.1, L, .inl f2)), (b3, .inl (γ.2.1, L, .inl f3)), (b4, .inl (γ.2.1, L, .inl f4)), (b5, .inl (γ.2.1, 256, .inl f5)), (b6, .inl (γ.2.1, 32, .inl f6))] s.heap := hP
  have hl : lv_has ls 2 [(0, .ref a), (1, .int x1)] := hl
  refine lv_iload_n hx hb dNames_has_0 rfl (lv_at hl 1 rfl) ?_
  refine lv_if_lt (tgt := 16) hx hb dNames_has_1 (by decide) (fun c4 => ?_) (fun c4 => ?_)
  · refine lv_iconst (v := 0) hx hb dNames_has_16 (by decide) ?_
    exact hE _ _ _ rfl (by subst_vars; first | exact Or.inl rfl | exact Or.inr (has_ok (by assumption) (by assumption) (by omega))) dNames_has_17
  · refine lv_iload_n hx hb dNames_has_4 rfl (lv_at hl 1 rfl) ?_
    refine lv_aload_n hx hb dNames_has_5 rfl (lv_at hl 0 rfl) ?_
    refine va_get (D := γ.1) (ci := 2) (v := .int (nI N)) (C := R_Names) (T := T_Names) (N := 9) (Ts := bs_W0) hx hb hW in_Names hown hC.1 hP 0 rfl rfl 7 (by decide) (hW _ qw_171adcdf9f) (fun _ h9 => h9) rfl dNames_has_6 ?_
    refine lv_topi (fun v5 ev5 => ?_)
    refine lv_icmp_ge (tgt := 16) hx hb dNames_has_9 (by decide) (fun c6 => ?_) (fun c6 => ?_)
    · refine lv_iconst (v := 0) hx hb dNames_has_16 (by decide) ?_
      exact hE _ _ _ rfl (by subst_vars; first | exact Or.inl rfl | exact Or.inr (has_ok (by assumption) (by assumption) (by omega))) dNames_has_17
    · refine lv_iconst (v := 1) hx hb dNames_has_12 (by decide) ?_
      refine lv_goto (tgt := 17) hx hb dNames_has_13 (by decide) ?_
      exact hE _ _ _ rfl (by subst_vars; first | exact Or.inl rfl | exact Or.inr (has_ok (by assumption) (by assumption) (by omega))) dNames_has_17
theorem k2_Names_has (l : Launch) (γ : gE) (A : Nat → Prop) (κ : Nat → Nat) (x1 : Int32)  : PU l yNames_has bNames_has 2 (some .boolean) 0 0 [.ref (γ.2.2.2 2), .int x1] γ (INV γ A κ) (vp_Si (fun v : Int32 => v = 0 ∨ ∃ j, j < (κ 2) ∧ x1 = nI j)) :=
  pu_up 3 (by decide) (by decide) (fun Z => c_Names_has l γ Z (γ.2.2.2 2) (κ 2) (κ 3) (κ 12) x1)

set_option maxHeartbeats 4000000 in
set_option maxRecDepth 100000 in
theorem c_Types_has (l : Launch) (γ : gE) (Z : Nat → Prop) (a N L : Nat) (x1 : Int32)  : PU l yTypes_has bTypes_has 2 (some .boolean) 0 0 [.ref a, .int x1] γ (cmp γ (fTypes γ a N L) Z) (vp_Si (fun v : Int32 => v = 0 ∨ ∃ j, j < N ∧ x1 = nI j)) := by
  refine pu_openZ (by decide) (Nat.le_of_ble_eq_true rfl) ?_
  intro p e s m args below meth c ls Q S hC hI hE hl
  obtain ⟨hx, hb, hml, hown, hW⟩ := id S
  obtain ⟨ws, ⟨b0, b1, b2, b3, f0, f1, f2, f3, rfl, h1, h2, h3⟩, hP, hD⟩ := id hI
  have hP : va_P γ.1 vwCl [(a, .inr (3, [.ref b0, .ref b1, .ref b2, .ref b3, .int (nI N)])), (b0, .inl (γ.2.1, L, .inl f0)), (b1, .inl (γ.2.1, L, .inl f1)), (b2, .inl (γ.2.1, L, .inl f2)), (b3, .inl (γ.2.1, L, .inl f3))] s.heap := hP
  have hl : lv_has ls 2 [(0, .ref a), (1, .int x1)] := hl
  refine lv_iload_n hx hb dTypes_has_0 rfl (lv_at hl 1 rfl) ?_
  refine lv_if_lt (tgt := 16) hx hb dTypes_has_1 (by decide) (fun c4 => ?_) (fun c4 => ?_)
  · refine lv_iconst (v := 0) hx hb dTypes_has_16 (by decide) ?_
    exact hE _ _ _ rfl (by subst_vars; first | exact Or.inl rfl | exact Or.inr (has_ok (by assumption) (by assumption) (by omega))) dTypes_has_17
  · refine lv_iload_n hx hb dTypes_has_4 rfl (lv_at hl 1 rfl) ?_
    refine lv_aload_n hx hb dTypes_has_5 rfl (lv_at hl 0 rfl) ?_
    refine va_get (D := γ.1) (ci := 3) (v := .int (nI N)) (C := R_Types) (T := T_Types) (N := 5) (Ts := bs_W0) hx hb hW in_Types hown hC.1 hP 0 rfl rfl 4 (by decide) (hW _ qw_f9da65449d) (fun _ h9 => h9) rfl dTypes_has_6 ?_
    refine lv_topi (fun v5 ev5 => ?_)
    refine lv_icmp_ge (tgt := 16) hx hb dTypes_has_9 (by decide) (fun c6 => ?_) (fun c6 => ?_)
    · refine lv_iconst (v := 0) hx hb dTypes_has_16 (by decide) ?_
      exact hE _ _ _ rfl (by subst_vars; first | exact Or.inl rfl | exact Or.inr (has_ok (by assumption) (by assumption) (by omega))) dTypes_has_17
    · refine lv_iconst (v := 1) hx hb dTypes_has_12 (by decide) ?_
      refine lv_goto (tgt := 17) hx hb dTypes_has_13 (by decide) ?_
      exact hE _ _ _ rfl (by subst_vars; first | exact Or.inl rfl | exact Or.inr (has_ok (by assumption) (by assumption) (by omega))) dTypes_has_17
theorem k3_Types_has (l : Launch) (γ : gE) (A : Nat → Prop) (κ : Nat → Nat) (x1 : Int32)  : PU l yTypes_has bTypes_has 2 (some .boolean) 0 0 [.ref (γ.2.2.2 3), .int x1] γ (INV γ A κ) (vp_Si (fun v : Int32 => v = 0 ∨ ∃ j, j < (κ 4) ∧ x1 = nI j)) :=
  pu_up 4 (by decide) (by decide) (fun Z => c_Types_has l γ Z (γ.2.2.2 3) (κ 4) (κ 13) x1)

set_option maxHeartbeats 4000000 in
set_option maxRecDepth 100000 in
theorem c_Objects_has (l : Launch) (γ : gE) (Z : Nat → Prop) (a rw N L : Nat) (x1 : Int32)  : PU l yObjects_has bObjects_has 2 (some .boolean) 0 0 [.ref a, .int x1] γ (cmp γ (fObjects γ a rw N L) Z) (vp_Si (fun v : Int32 => v = 0 ∨ ∃ j, j < N ∧ x1 = nI j)) := by
  refine pu_openZ (by decide) (Nat.le_of_ble_eq_true rfl) ?_
  intro p e s m args below meth c ls Q S hC hI hE hl
  obtain ⟨hx, hb, hml, hown, hW⟩ := id S
  obtain ⟨ws, ⟨b0, b1, b2, f0, f1, f2, rfl, h1, h2, h3⟩, hP, hD⟩ := id hI
  have hP : va_P γ.1 vwCl [(a, .inr (4, [.ref b0, .ref b1, .ref b2, .ref rw, .int (nI N)])), (b0, .inl (γ.2.1, L, .inl f0)), (b1, .inl (γ.2.1, L, .inl f1)), (b2, .inl (γ.2.1, L, .inl f2))] s.heap := hP
  have hl : lv_has ls 2 [(0, .ref a), (1, .int x1)] := hl
  refine lv_iload_n hx hb dObjects_has_0 rfl (lv_at hl 1 rfl) ?_
  refine lv_if_lt (tgt := 16) hx hb dObjects_has_1 (by decide) (fun c4 => ?_) (fun c4 => ?_)
  · refine lv_iconst (v := 0) hx hb dObjects_has_16 (by decide) ?_
    exact hE _ _ _ rfl (by subst_vars; first | exact Or.inl rfl | exact Or.inr (has_ok (by assumption) (by assumption) (by omega))) dObjects_has_17
  · refine lv_iload_n hx hb dObjects_has_4 rfl (lv_at hl 1 rfl) ?_
    refine lv_aload_n hx hb dObjects_has_5 rfl (lv_at hl 0 rfl) ?_
    refine va_get (D := γ.1) (ci := 4) (v := .int (nI N)) (C := R_Objects) (T := T_Objects) (N := 5) (Ts := bs_W0) hx hb hW in_Objects hown hC.1 hP 0 rfl rfl 4 (by decide) (hW _ qw_1a9a6fdaf2) (fun _ h9 => h9) rfl dObjects_has_6 ?_
    refine lv_topi (fun v5 ev5 => ?_)
    refine lv_icmp_ge (tgt := 16) hx hb dObjects_has_9 (by decide) (fun c6 => ?_) (fun c6 => ?_)
    · refine lv_iconst (v := 0) hx hb dObjects_has_16 (by decide) ?_
      exact hE _ _ _ rfl (by subst_vars; first | exact Or.inl rfl | exact Or.inr (has_ok (by assumption) (by assumption) (by omega))) dObjects_has_17
    · refine lv_iconst (v := 1) hx hb dObjects_has_12 (by decide) ?_
      refine lv_goto (tgt := 17) hx hb dObjects_has_13 (by decide) ?_
      exact hE _ _ _ rfl (by subst_vars; first | exact Or.inl rfl | exact Or.inr (has_ok (by assumption) (by assumption) (by omega))) dObjects_has_17
theorem k4_Objects_has (l : Launch) (γ : gE) (A : Nat → Prop) (κ : Nat → Nat) (x1 : Int32)  : PU l yObjects_has bObjects_has 2 (some .boolean) 0 0 [.ref (γ.2.2.2 4), .int x1] γ (INV γ A κ) (vp_Si (fun v : Int32 => v = 0 ∨ ∃ j, j < (κ 5) ∧ x1 = nI j)) :=
  pu_up 5 (by decide) (by decide) (fun Z => c_Objects_has l γ Z (γ.2.2.2 4) (γ.2.2.2 5) (κ 5) (κ 14) x1)

set_option maxHeartbeats 4000000 in
set_option maxRecDepth 100000 in
theorem c_Looks_has (l : Launch) (γ : gE) (Z : Nat → Prop) (a rw L : Nat) (x1 : Int32)  : PU l yLooks_has bLooks_has 2 (some .boolean) 0 0 [.ref a, .int x1] γ (cmp γ (fLooks γ a rw L) Z) (vp_Si (fun v : Int32 => v = 0 ∨ ∃ j, j < L ∧ x1 = nI j)) := by
  refine pu_openZ (by decide) (Nat.le_of_ble_eq_true rfl) ?_
  intro p e s m args below meth c ls Q S hC hI hE hl
  obtain ⟨hx, hb, hml, hown, hW⟩ := id S
  obtain ⟨ws, ⟨b0, b1, b2, b3, b4, f0, f1, f2, f3, f4, rfl, h1, h2⟩, hP, hD⟩ := id hI
  have hP : va_P γ.1 vwCl [(a, .inr (6, [.ref b0, .ref b1, .ref b2, .ref b3, .ref b4, .ref rw])), (b0, .inl (γ.2.1, L, .inl f0)), (b1, .inl (γ.2.1, L, .inl f1)), (b2, .inl (γ.2.1, L, .inl f2)), (b3, .inl (γ.2.1, L, .inl f3)), (b4, .inl (γ.2.1, L, .inl f4))] s.heap := hP
  have hl : lv_has ls 2 [(0, .ref a), (1, .int x1)] := hl
  refine lv_iload_n hx hb dLooks_has_0 rfl (lv_at hl 1 rfl) ?_
  refine lv_if_lt (tgt := 17) hx hb dLooks_has_1 (by decide) (fun c4 => ?_) (fun c4 => ?_)
  · refine lv_iconst (v := 0) hx hb dLooks_has_17 (by decide) ?_
    exact hE _ _ _ rfl (by subst_vars; first | exact Or.inl rfl | exact Or.inr (has_ok (by assumption) (by assumption) (by omega))) dLooks_has_18
  · refine lv_iload_n hx hb dLooks_has_4 rfl (lv_at hl 1 rfl) ?_
    refine lv_aload_n hx hb dLooks_has_5 rfl (lv_at hl 0 rfl) ?_
    refine va_get (D := γ.1) (ci := 6) (v := .ref b0) (C := R_Looks) (T := T_Looks) (N := 6) (Ts := bs_W0) hx hb hW in_Looks hown hC.1 hP 0 rfl rfl 0 (by decide) (hW _ qw_ac7df03aa7) (fun _ h9 => h9) rfl dLooks_has_6 ?_
    refine va_alen hx hb hC.1 hP 1 0 rfl rfl rfl dLooks_has_9 ?_
    refine lv_topi (fun v5 ev5 => ?_)
    have ev5 : v5 = nI (L) := ev5
    refine lv_icmp_ge (tgt := 17) hx hb dLooks_has_10 (by decide) (fun c6 => ?_) (fun c6 => ?_)
    · refine lv_iconst (v := 0) hx hb dLooks_has_17 (by decide) ?_
      exact hE _ _ _ rfl (by subst_vars; first | exact Or.inl rfl | exact Or.inr (has_ok (by assumption) (by assumption) (by omega))) dLooks_has_18
    · refine lv_iconst (v := 1) hx hb dLooks_has_13 (by decide) ?_
      refine lv_goto (tgt := 18) hx hb dLooks_has_14 (by decide) ?_
      exact hE _ _ _ rfl (by subst_vars; first | exact Or.inl rfl | exact Or.inr (has_ok (by assumption) (by assumption) (by omega))) dLooks_has_18
theorem k6_Looks_has (l : Launch) (γ : gE) (A : Nat → Prop) (κ : Nat → Nat) (x1 : Int32)  : PU l yLooks_has bLooks_has 2 (some .boolean) 0 0 [.ref (γ.2.2.2 6), .int x1] γ (INV γ A κ) (vp_Si (fun v : Int32 => v = 0 ∨ ∃ j, j < (κ 6) ∧ x1 = nI j)) :=
  pu_up 7 (by decide) (by decide) (fun Z => c_Looks_has l γ Z (γ.2.2.2 6) (γ.2.2.2 7) (κ 6) x1)
theorem k9_Looks_has (l : Launch) (γ : gE) (A : Nat → Prop) (κ : Nat → Nat) (x1 : Int32)  : PU l yLooks_has bLooks_has 2 (some .boolean) 0 0 [.ref (γ.2.2.2 9), .int x1] γ (INV γ A κ) (vp_Si (fun v : Int32 => v = 0 ∨ ∃ j, j < (κ 7) ∧ x1 = nI j)) :=
  pu_up 9 (by decide) (by decide) (fun Z => c_Looks_has l γ Z (γ.2.2.2 9) (γ.2.2.2 10) (κ 7) x1)

set_option maxHeartbeats 4000000 in
set_option maxRecDepth 100000 in
theorem c_Rows_has (l : Launch) (γ : gE) (Z : Nat → Prop) (a M : Nat) (x1 : Int32)  : PU l yRows_has bRows_has 2 (some .boolean) 0 0 [.ref a, .int x1] γ (cmp γ (fRows γ a M) Z) (vp_Si (fun v : Int32 => v = 0 ∨ ∃ j, j < M ∧ x1 = nI j)) := by
  refine pu_openZ (by decide) (Nat.le_of_ble_eq_true rfl) ?_
  intro p e s m args below meth c ls Q S hC hI hE hl
  obtain ⟨hx, hb, hml, hown, hW⟩ := id S
  obtain ⟨ws, ⟨b0, g0, rfl, h1, h2⟩, hP, hD⟩ := id hI
  have hP : va_P γ.1 vwCl [(a, .inr (5, [.ref b0])), (b0, .inl (γ.2.2.1, 4 * M, .inr (.inl g0)))] s.heap := hP
  have hl : lv_has ls 2 [(0, .ref a), (1, .int x1)] := hl
  refine lv_iload_n hx hb dRows_has_0 rfl (lv_at hl 1 rfl) ?_
  refine lv_if_lt (tgt := 19) hx hb dRows_has_1 (by decide) (fun c5 => ?_) (fun c5 => ?_)
  · refine lv_iconst (v := 0) hx hb dRows_has_19 (by decide) ?_
    exact hE _ _ _ rfl (by subst_vars; first | exact Or.inl rfl | exact Or.inr (has_ok (by assumption) (by rw [← rows_q (by omega)]; assumption) (by omega))) dRows_has_20
  · refine lv_iload_n hx hb dRows_has_4 rfl (lv_at hl 1 rfl) ?_
    refine lv_aload_n hx hb dRows_has_5 rfl (lv_at hl 0 rfl) ?_
    refine va_get (D := γ.1) (ci := 5) (v := .ref b0) (C := R_Rows) (T := T_Rows) (N := 1) (Ts := bs_W0) hx hb hW in_Rows hown hC.1 hP 0 rfl rfl 0 (by decide) (hW _ qw_05e9c8a29d) (fun _ h9 => h9) rfl dRows_has_6 ?_
    refine va_alen hx hb hC.1 hP 1 1 rfl rfl rfl dRows_has_9 ?_
    refine lv_topi (fun v6 ev6 => ?_)
    have ev6 : v6 = nI (4 * M) := ev6
    refine lv_iconst (v := 4) hx hb dRows_has_10 (by decide) ?_
    refine lv_idiv hx hb dRows_has_11 (by decide) ?_
    refine lv_topi (fun v7 ev7 => ?_)
    refine lv_icmp_ge (tgt := 19) hx hb dRows_has_12 (by decide) (fun c8 => ?_) (fun c8 => ?_)
    · refine lv_iconst (v := 0) hx hb dRows_has_19 (by decide) ?_
      exact hE _ _ _ rfl (by subst_vars; first | exact Or.inl rfl | exact Or.inr (has_ok (by assumption) (by rw [← rows_q (by omega)]; assumption) (by omega))) dRows_has_20
    · refine lv_iconst (v := 1) hx hb dRows_has_15 (by decide) ?_
      refine lv_goto (tgt := 20) hx hb dRows_has_16 (by decide) ?_
      exact hE _ _ _ rfl (by subst_vars; first | exact Or.inl rfl | exact Or.inr (has_ok (by assumption) (by rw [← rows_q (by omega)]; assumption) (by omega))) dRows_has_20
theorem k5_Rows_has (l : Launch) (γ : gE) (A : Nat → Prop) (κ : Nat → Nat) (x1 : Int32)  : PU l yRows_has bRows_has 2 (some .boolean) 0 0 [.ref (γ.2.2.2 5), .int x1] γ (INV γ A κ) (vp_Si (fun v : Int32 => v = 0 ∨ ∃ j, j < (κ 8) ∧ x1 = nI j)) :=
  pu_up 6 (by decide) (by decide) (fun Z => c_Rows_has l γ Z (γ.2.2.2 5) (κ 8) x1)
theorem k7_Rows_has (l : Launch) (γ : gE) (A : Nat → Prop) (κ : Nat → Nat) (x1 : Int32)  : PU l yRows_has bRows_has 2 (some .boolean) 0 0 [.ref (γ.2.2.2 7), .int x1] γ (INV γ A κ) (vp_Si (fun v : Int32 => v = 0 ∨ ∃ j, j < (κ 9) ∧ x1 = nI j)) :=
  pu_up 8 (by decide) (by decide) (fun Z => c_Rows_has l γ Z (γ.2.2.2 7) (κ 9) x1)
theorem k10_Rows_has (l : Launch) (γ : gE) (A : Nat → Prop) (κ : Nat → Nat) (x1 : Int32)  : PU l yRows_has bRows_has 2 (some .boolean) 0 0 [.ref (γ.2.2.2 10), .int x1] γ (INV γ A κ) (vp_Si (fun v : Int32 => v = 0 ∨ ∃ j, j < (κ 10) ∧ x1 = nI j)) :=
  pu_up 10 (by decide) (by decide) (fun Z => c_Rows_has l γ Z (γ.2.2.2 10) (κ 10) x1)

set_option maxHeartbeats 4000000 in
set_option maxRecDepth 100000 in
theorem c_Trees_kindOf (l : Launch) (γ : gE) (Z : Nat → Prop) (a N rt L : Nat) (x1 : Int32)  : PU l yTrees_kindOf bTrees_kindOf 2 (some .int) 1 21 [.ref a, .int x1] γ (cmp γ (fTrees γ a N rt L) Z) (vp_Si (fun v : Int32 => True)) := by
  refine pu_openI (by decide) (Nat.le_of_ble_eq_true rfl) ?_
  intro p e s m args below meth c ls Q S hC hI hE hl
  obtain ⟨hx, hb, hml, hown, hW⟩ := id S
  obtain ⟨ws, ⟨b0, b1, b2, b3, f0, f1, f2, f3, rfl, h1, h2, h3, h4, h5, h6⟩, hP, hD⟩ := id hI
  have hP : va_P γ.1 vwCl [(a, .inr (1, [.ref b0, .ref b1, .ref b2, .ref b3, .int (nI N), .int (nI rt)])), (b0, .inl (γ.2.1, L, .inl f0)), (b1, .inl (γ.2.1, L, .inl f1)), (b2, .inl (γ.2.1, L, .inl f2)), (b3, .inl (γ.2.1, L, .inl f3))] s.heap := hP
  have hl : lv_has ls 2 [(0, .ref a), (1, .int x1)] := hl
  refine lv_aload_n hx hb dTrees_kindOf_0 rfl (lv_at hl 0 rfl) ?_
  refine lv_iload_n hx hb dTrees_kindOf_1 rfl (lv_at hl 1 rfl) ?_
  refine pu_Vi (rest := []) S hC (c_Trees_has l γ Z a N rt L x1) meTrees_has qw_42d433c8d4 ⟨Nat.le_of_ble_eq_true rfl, Nat.le_of_ble_eq_true rfl⟩ (va_recv hC.1 hP (ci := 1) (q0 := 0) rfl rfl) hI rfl hl.1 rfl (Nat.le_of_ble_eq_true rfl) dTrees_kindOf_2 ⟨Nat.zero_le _, Nat.zero_le _⟩ (fun r4 hr4 => ?_)
  refine lv_if_eq (tgt := 17) hx hb dTrees_kindOf_5 (by decide) (fun c5 => ?_) (fun c5 => ?_)
  · refine lv_iconst (v := (-1)) hx hb dTrees_kindOf_17 (by decide) ?_
    exact hE _ _ _ trivial dTrees_kindOf_18
  · refine lv_aload_n hx hb dTrees_kindOf_8 rfl (lv_at hl 0 rfl) ?_
    refine va_get (D := γ.1) (ci := 1) (v := .ref b0) (C := R_Trees) (T := T_Trees) (N := 6) (Ts := bs_W0) hx hb hW in_Trees hown hC.1 hP 0 rfl rfl 0 (by decide) (hW _ qw_ffd9ddfb57) (fun _ h9 => h9) rfl dTrees_kindOf_9 ?_
    refine lv_iload_n hx hb dTrees_kindOf_12 rfl (lv_at hl 1 rfl) ?_
    refine va_iald hx hb hC.1 hP 1 0 rfl rfl (in_has (by assumption) (by assumption) (by omega) (by omega)) dTrees_kindOf_13 ?_
    refine lv_topi (fun v6 ev6 => ?_)
    refine lv_goto (tgt := 18) hx hb dTrees_kindOf_14 (by decide) ?_
    exact hE _ _ _ trivial dTrees_kindOf_18
theorem k1_Trees_kindOf (l : Launch) (γ : gE) (A : Nat → Prop) (κ : Nat → Nat) (x1 : Int32)  : PU l yTrees_kindOf bTrees_kindOf 2 (some .int) 1 21 [.ref (γ.2.2.2 1), .int x1] γ (INV γ A κ) (vp_Si (fun v : Int32 => True)) :=
  pu_up 2 (by decide) (by decide) (fun Z => c_Trees_kindOf l γ Z (γ.2.2.2 1) (κ 0) (κ 1) (κ 11) x1)

set_option maxHeartbeats 4000000 in
set_option maxRecDepth 100000 in
theorem c_Trees_valueOf (l : Launch) (γ : gE) (Z : Nat → Prop) (a N rt L : Nat) (x1 : Int32)  : PU l yTrees_valueOf bTrees_valueOf 2 (some .int) 1 21 [.ref a, .int x1] γ (cmp γ (fTrees γ a N rt L) Z) (vp_Si (fun v : Int32 => True)) := by
  refine pu_openI (by decide) (Nat.le_of_ble_eq_true rfl) ?_
  intro p e s m args below meth c ls Q S hC hI hE hl
  obtain ⟨hx, hb, hml, hown, hW⟩ := id S
  obtain ⟨ws, ⟨b0, b1, b2, b3, f0, f1, f2, f3, rfl, h1, h2, h3, h4, h5, h6⟩, hP, hD⟩ := id hI
  have hP : va_P γ.1 vwCl [(a, .inr (1, [.ref b0, .ref b1, .ref b2, .ref b3, .int (nI N), .int (nI rt)])), (b0, .inl (γ.2.1, L, .inl f0)), (b1, .inl (γ.2.1, L, .inl f1)), (b2, .inl (γ.2.1, L, .inl f2)), (b3, .inl (γ.2.1, L, .inl f3))] s.heap := hP
  have hl : lv_has ls 2 [(0, .ref a), (1, .int x1)] := hl
  refine lv_aload_n hx hb dTrees_valueOf_0 rfl (lv_at hl 0 rfl) ?_
  refine lv_iload_n hx hb dTrees_valueOf_1 rfl (lv_at hl 1 rfl) ?_
  refine pu_Vi (rest := []) S hC (c_Trees_has l γ Z a N rt L x1) meTrees_has qw_42d433c8d4 ⟨Nat.le_of_ble_eq_true rfl, Nat.le_of_ble_eq_true rfl⟩ (va_recv hC.1 hP (ci := 1) (q0 := 0) rfl rfl) hI rfl hl.1 rfl (Nat.le_of_ble_eq_true rfl) dTrees_valueOf_2 ⟨Nat.zero_le _, Nat.zero_le _⟩ (fun r4 hr4 => ?_)
  refine lv_if_eq (tgt := 17) hx hb dTrees_valueOf_5 (by decide) (fun c5 => ?_) (fun c5 => ?_)
  · refine lv_iconst (v := (-1)) hx hb dTrees_valueOf_17 (by decide) ?_
    exact hE _ _ _ trivial dTrees_valueOf_18
  · refine lv_aload_n hx hb dTrees_valueOf_8 rfl (lv_at hl 0 rfl) ?_
    refine va_get (D := γ.1) (ci := 1) (v := .ref b1) (C := R_Trees) (T := T_Trees) (N := 6) (Ts := bs_W0) hx hb hW in_Trees hown hC.1 hP 0 rfl rfl 1 (by decide) (hW _ qw_fdd50f5077) (fun _ h9 => h9) rfl dTrees_valueOf_9 ?_
    refine lv_iload_n hx hb dTrees_valueOf_12 rfl (lv_at hl 1 rfl) ?_
    refine va_iald hx hb hC.1 hP 2 0 rfl rfl (in_has (by assumption) (by assumption) (by omega) (by omega)) dTrees_valueOf_13 ?_
    refine lv_topi (fun v6 ev6 => ?_)
    refine lv_goto (tgt := 18) hx hb dTrees_valueOf_14 (by decide) ?_
    exact hE _ _ _ trivial dTrees_valueOf_18
theorem k1_Trees_valueOf (l : Launch) (γ : gE) (A : Nat → Prop) (κ : Nat → Nat) (x1 : Int32)  : PU l yTrees_valueOf bTrees_valueOf 2 (some .int) 1 21 [.ref (γ.2.2.2 1), .int x1] γ (INV γ A κ) (vp_Si (fun v : Int32 => True)) :=
  pu_up 2 (by decide) (by decide) (fun Z => c_Trees_valueOf l γ Z (γ.2.2.2 1) (κ 0) (κ 1) (κ 11) x1)

set_option maxHeartbeats 4000000 in
set_option maxRecDepth 100000 in
theorem c_Names_sortOf (l : Launch) (γ : gE) (Z : Nat → Prop) (a N sc L : Nat) (x1 : Int32)  : PU l yNames_sortOf bNames_sortOf 2 (some .int) 1 21 [.ref a, .int x1] γ (cmp γ (fNames γ a N sc L) Z) (vp_Si (fun v : Int32 => True)) := by
  refine pu_openI (by decide) (Nat.le_of_ble_eq_true rfl) ?_
  intro p e s m args below meth c ls Q S hC hI hE hl
  obtain ⟨hx, hb, hml, hown, hW⟩ := id S
  obtain ⟨ws, ⟨b0, b1, b2, b3, b4, b5, b6, f0, f1, f2, f3, f4, f5, f6, rfl, h1, h2, h3, h4, h5, h6⟩, hP, hD⟩ := id hI
  have hP : va_P γ.1 vwCl [(a, .inr (2, [.ref b0, .ref b1, .ref b2, .ref b3, .ref b4, .ref b5, .ref b6, .int (nI N), .int (nI sc)])), (b0, .inl (γ.2.1, L, .inl f0)), (b1, .inl (γ.2.1, L, .inl f1)), (b2, .inl (γ.2.1, L, .inl f2)), (b3, .inl (γ.2.1, L, .inl f3)), (b4, .inl (γ.2.1, L, .inl f4)), (b5, .inl (γ.2.1, 256, .inl f5)), (b6, .inl (γ.2.1, 32, .inl f6))] s.heap := hP
  have hl : lv_has ls 2 [(0, .ref a), (1, .int x1)] := hl
  refine lv_aload_n hx hb dNames_sortOf_0 rfl (lv_at hl 0 rfl) ?_
  refine lv_iload_n hx hb dNames_sortOf_1 rfl (lv_at hl 1 rfl) ?_
  refine pu_Vi (rest := []) S hC (c_Names_has l γ Z a N sc L x1) meNames_has qw_8f9013a759 ⟨Nat.le_of_ble_eq_true rfl, Nat.le_of_ble_eq_true rfl⟩ (va_recv hC.1 hP (ci := 2) (q0 := 0) rfl rfl) hI rfl hl.1 rfl (Nat.le_of_ble_eq_true rfl) dNames_sortOf_2 ⟨Nat.zero_le _, Nat.zero_le _⟩ (fun r4 hr4 => ?_)
  refine lv_if_eq (tgt := 17) hx hb dNames_sortOf_5 (by decide) (fun c5 => ?_) (fun c5 => ?_)
  · refine lv_iconst (v := (-1)) hx hb dNames_sortOf_17 (by decide) ?_
    exact hE _ _ _ trivial dNames_sortOf_18
  · refine lv_aload_n hx hb dNames_sortOf_8 rfl (lv_at hl 0 rfl) ?_
    refine va_get (D := γ.1) (ci := 2) (v := .ref b1) (C := R_Names) (T := T_Names) (N := 9) (Ts := bs_W0) hx hb hW in_Names hown hC.1 hP 0 rfl rfl 1 (by decide) (hW _ qw_5903ecb25d) (fun _ h9 => h9) rfl dNames_sortOf_9 ?_
    refine lv_iload_n hx hb dNames_sortOf_12 rfl (lv_at hl 1 rfl) ?_
    refine va_iald hx hb hC.1 hP 2 0 rfl rfl (in_has (by assumption) (by assumption) (by omega) (by omega)) dNames_sortOf_13 ?_
    refine lv_topi (fun v6 ev6 => ?_)
    refine lv_goto (tgt := 18) hx hb dNames_sortOf_14 (by decide) ?_
    exact hE _ _ _ trivial dNames_sortOf_18
theorem k2_Names_sortOf (l : Launch) (γ : gE) (A : Nat → Prop) (κ : Nat → Nat) (x1 : Int32)  : PU l yNames_sortOf bNames_sortOf 2 (some .int) 1 21 [.ref (γ.2.2.2 2), .int x1] γ (INV γ A κ) (vp_Si (fun v : Int32 => True)) :=
  pu_up 3 (by decide) (by decide) (fun Z => c_Names_sortOf l γ Z (γ.2.2.2 2) (κ 2) (κ 3) (κ 12) x1)

set_option maxHeartbeats 4000000 in
set_option maxRecDepth 100000 in
theorem c_Names_numberOf (l : Launch) (γ : gE) (Z : Nat → Prop) (a N sc L : Nat) (x1 : Int32)  : PU l yNames_numberOf bNames_numberOf 2 (some .int) 1 21 [.ref a, .int x1] γ (cmp γ (fNames γ a N sc L) Z) (vp_Si (fun v : Int32 => True)) := by
  refine pu_openI (by decide) (Nat.le_of_ble_eq_true rfl) ?_
  intro p e s m args below meth c ls Q S hC hI hE hl
  obtain ⟨hx, hb, hml, hown, hW⟩ := id S
  obtain ⟨ws, ⟨b0, b1, b2, b3, b4, b5, b6, f0, f1, f2, f3, f4, f5, f6, rfl, h1, h2, h3, h4, h5, h6⟩, hP, hD⟩ := id hI
  have hP : va_P γ.1 vwCl [(a, .inr (2, [.ref b0, .ref b1, .ref b2, .ref b3, .ref b4, .ref b5, .ref b6, .int (nI N), .int (nI sc)])), (b0, .inl (γ.2.1, L, .inl f0)), (b1, .inl (γ.2.1, L, .inl f1)), (b2, .inl (γ.2.1, L, .inl f2)), (b3, .inl (γ.2.1, L, .inl f3)), (b4, .inl (γ.2.1, L, .inl f4)), (b5, .inl (γ.2.1, 256, .inl f5)), (b6, .inl (γ.2.1, 32, .inl f6))] s.heap := hP
  have hl : lv_has ls 2 [(0, .ref a), (1, .int x1)] := hl
  refine lv_aload_n hx hb dNames_numberOf_0 rfl (lv_at hl 0 rfl) ?_
  refine lv_iload_n hx hb dNames_numberOf_1 rfl (lv_at hl 1 rfl) ?_
  refine pu_Vi (rest := []) S hC (c_Names_has l γ Z a N sc L x1) meNames_has qw_8f9013a759 ⟨Nat.le_of_ble_eq_true rfl, Nat.le_of_ble_eq_true rfl⟩ (va_recv hC.1 hP (ci := 2) (q0 := 0) rfl rfl) hI rfl hl.1 rfl (Nat.le_of_ble_eq_true rfl) dNames_numberOf_2 ⟨Nat.zero_le _, Nat.zero_le _⟩ (fun r4 hr4 => ?_)
  refine lv_if_eq (tgt := 17) hx hb dNames_numberOf_5 (by decide) (fun c5 => ?_) (fun c5 => ?_)
  · refine lv_iconst (v := (-1)) hx hb dNames_numberOf_17 (by decide) ?_
    exact hE _ _ _ trivial dNames_numberOf_18
  · refine lv_aload_n hx hb dNames_numberOf_8 rfl (lv_at hl 0 rfl) ?_
    refine va_get (D := γ.1) (ci := 2) (v := .ref b2) (C := R_Names) (T := T_Names) (N := 9) (Ts := bs_W0) hx hb hW in_Names hown hC.1 hP 0 rfl rfl 2 (by decide) (hW _ qw_ee1ba38ad0) (fun _ h9 => h9) rfl dNames_numberOf_9 ?_
    refine lv_iload_n hx hb dNames_numberOf_12 rfl (lv_at hl 1 rfl) ?_
    refine va_iald hx hb hC.1 hP 3 0 rfl rfl (in_has (by assumption) (by assumption) (by omega) (by omega)) dNames_numberOf_13 ?_
    refine lv_topi (fun v6 ev6 => ?_)
    refine lv_goto (tgt := 18) hx hb dNames_numberOf_14 (by decide) ?_
    exact hE _ _ _ trivial dNames_numberOf_18
theorem k2_Names_numberOf (l : Launch) (γ : gE) (A : Nat → Prop) (κ : Nat → Nat) (x1 : Int32)  : PU l yNames_numberOf bNames_numberOf 2 (some .int) 1 21 [.ref (γ.2.2.2 2), .int x1] γ (INV γ A κ) (vp_Si (fun v : Int32 => True)) :=
  pu_up 3 (by decide) (by decide) (fun Z => c_Names_numberOf l γ Z (γ.2.2.2 2) (κ 2) (κ 3) (κ 12) x1)

set_option maxHeartbeats 4000000 in
set_option maxRecDepth 100000 in
theorem c_Names_partOf (l : Launch) (γ : gE) (Z : Nat → Prop) (a N sc L : Nat) (x1 : Int32)  : PU l yNames_partOf bNames_partOf 2 (some .int) 1 21 [.ref a, .int x1] γ (cmp γ (fNames γ a N sc L) Z) (vp_Si (fun v : Int32 => True)) := by
  refine pu_openI (by decide) (Nat.le_of_ble_eq_true rfl) ?_
  intro p e s m args below meth c ls Q S hC hI hE hl
  obtain ⟨hx, hb, hml, hown, hW⟩ := id S
  obtain ⟨ws, ⟨b0, b1, b2, b3, b4, b5, b6, f0, f1, f2, f3, f4, f5, f6, rfl, h1, h2, h3, h4, h5, h6⟩, hP, hD⟩ := id hI
  have hP : va_P γ.1 vwCl [(a, .inr (2, [.ref b0, .ref b1, .ref b2, .ref b3, .ref b4, .ref b5, .ref b6, .int (nI N), .int (nI sc)])), (b0, .inl (γ.2.1, L, .inl f0)), (b1, .inl (γ.2.1, L, .inl f1)), (b2, .inl (γ.2.1, L, .inl f2)), (b3, .inl (γ.2.1, L, .inl f3)), (b4, .inl (γ.2.1, L, .inl f4)), (b5, .inl (γ.2.1, 256, .inl f5)), (b6, .inl (γ.2.1, 32, .inl f6))] s.heap := hP
  have hl : lv_has ls 2 [(0, .ref a), (1, .int x1)] := hl
  refine lv_aload_n hx hb dNames_partOf_0 rfl (lv_at hl 0 rfl) ?_
  refine lv_iload_n hx hb dNames_partOf_1 rfl (lv_at hl 1 rfl) ?_
  refine pu_Vi (rest := []) S hC (c_Names_has l γ Z a N sc L x1) meNames_has qw_8f9013a759 ⟨Nat.le_of_ble_eq_true rfl, Nat.le_of_ble_eq_true rfl⟩ (va_recv hC.1 hP (ci := 2) (q0 := 0) rfl rfl) hI rfl hl.1 rfl (Nat.le_of_ble_eq_true rfl) dNames_partOf_2 ⟨Nat.zero_le _, Nat.zero_le _⟩ (fun r4 hr4 => ?_)
  refine lv_if_eq (tgt := 17) hx hb dNames_partOf_5 (by decide) (fun c5 => ?_) (fun c5 => ?_)
  · refine lv_iconst (v := (-1)) hx hb dNames_partOf_17 (by decide) ?_
    exact hE _ _ _ trivial dNames_partOf_18
  · refine lv_aload_n hx hb dNames_partOf_8 rfl (lv_at hl 0 rfl) ?_
    refine va_get (D := γ.1) (ci := 2) (v := .ref b3) (C := R_Names) (T := T_Names) (N := 9) (Ts := bs_W0) hx hb hW in_Names hown hC.1 hP 0 rfl rfl 3 (by decide) (hW _ qw_1a22e5f505) (fun _ h9 => h9) rfl dNames_partOf_9 ?_
    refine lv_iload_n hx hb dNames_partOf_12 rfl (lv_at hl 1 rfl) ?_
    refine va_iald hx hb hC.1 hP 4 0 rfl rfl (in_has (by assumption) (by assumption) (by omega) (by omega)) dNames_partOf_13 ?_
    refine lv_topi (fun v6 ev6 => ?_)
    refine lv_goto (tgt := 18) hx hb dNames_partOf_14 (by decide) ?_
    exact hE _ _ _ trivial dNames_partOf_18
theorem k2_Names_partOf (l : Launch) (γ : gE) (A : Nat → Prop) (κ : Nat → Nat) (x1 : Int32)  : PU l yNames_partOf bNames_partOf 2 (some .int) 1 21 [.ref (γ.2.2.2 2), .int x1] γ (INV γ A κ) (vp_Si (fun v : Int32 => True)) :=
  pu_up 3 (by decide) (by decide) (fun Z => c_Names_partOf l γ Z (γ.2.2.2 2) (κ 2) (κ 3) (κ 12) x1)
