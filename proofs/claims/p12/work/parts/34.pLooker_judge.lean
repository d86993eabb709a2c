theorem qw_a0a252684f : (Cond.fieldLink R_Looker 31 R_Looker "at" "I") ∈ bs_W0 := bs_in (in_tables_1_2 (List.mem_of_getElem? (i := 33) rfl)) rfl
theorem qw_8a98d268f4 : (Cond.methodLink R_Looker 90 yLooker_classMisfit) ∈ bs_W0 := bs_in (in_tables_1_5 (List.mem_of_getElem? (i := 67) rfl)) rfl
theorem qw_43e62466e9 : (Cond.methodLink R_Looker 94 yLooker_earlier) ∈ bs_W0 := bs_in (in_tables_1_5 (List.mem_of_getElem? (i := 74) rfl)) rfl
theorem qw_37965fb84c : (Cond.methodLink R_Looker 97 yLooker_isOutside) ∈ bs_W0 := bs_in (in_tables_1_5 (List.mem_of_getElem? (i := 77) rfl)) rfl
theorem qw_213d2bb2ac : (Cond.fieldLink R_Looker 39 R_Looker "names" "LTypeBook$Names;") ∈ bs_W0 := bs_in (in_tables_1_2 (List.mem_of_getElem? (i := 27) rfl)) rfl
theorem qw_a4a7b18094 : (Cond.methodLink R_Looker 187 yNames_find) ∈ bs_W0 := bs_in (in_tables_1_4 (List.mem_of_getElem? (i := 209) rfl)) rfl
theorem qw_655d915bbc : (Cond.methodLink R_Looker 192 yNames_sortOf) ∈ bs_W0 := bs_in (in_tables_1_4 (List.mem_of_getElem? (i := 210) rfl)) rfl
theorem qw_f48a4a6aed : (Cond.methodLink R_Looker 80 yTrees_kindOf) ∈ bs_W0 := bs_in (in_tables_1_3 (List.mem_of_getElem? (i := 48) rfl)) rfl
theorem qw_63f3ae9b1e : (Cond.methodLink R_Looker 181 yLooker_namedTypeFault) ∈ bs_W0 := bs_in (in_tables_1_4 (List.mem_of_getElem? (i := 205) rfl)) rfl
theorem qw_844ff72d87 : (Cond.methodLink R_Looker 144 yTrees_leftOfTwo) ∈ bs_W0 := bs_in (in_tables_1_3 (List.mem_of_getElem? (i := 226) rfl)) rfl
theorem qw_dd79a0a1bc : (Cond.methodLink R_Looker 184 yLooker_boundsFault) ∈ bs_W0 := bs_in (in_tables_1_4 (List.mem_of_getElem? (i := 214) rfl)) rfl
theorem qw_108db87eb2 : (Cond.methodLink R_Looker 201 yNames_numberOf) ∈ bs_W0 := bs_in (in_tables_1_5 (List.mem_of_getElem? (i := 9) rfl)) rfl
theorem qw_9bfdade5f5 : (Cond.fieldLink R_Meanings 23 R_Meanings "objects" "LTypeBook$Objects;") ∈ bs_W0 := bs_in (in_tables_1_2 (List.mem_of_getElem? (i := 13) rfl)) rfl
theorem qw_2c7313498c : (Cond.methodLink R_Meanings 103 yObjects_whatOf) ∈ bs_W0 := bs_in (in_tables_1_3 (List.mem_of_getElem? (i := 125) rfl)) rfl
theorem qw_e2a2dba4a9 : (Cond.fieldLink R_Meanings 19 R_Meanings "types" "LTypeBook$Types;") ∈ bs_W0 := bs_in (in_tables_1_2 (List.mem_of_getElem? (i := 12) rfl)) rfl
theorem qw_bc7306873f : (Cond.methodLink R_Meanings 62 yObjects_typeOfObject) ∈ bs_W0 := bs_in (in_tables_1_3 (List.mem_of_getElem? (i := 93) rfl)) rfl
theorem qw_ac19273b21 : (Cond.methodLink R_Meanings 67 yTypes_classOf) ∈ bs_W0 := bs_in (in_tables_1_3 (List.mem_of_getElem? (i := 101) rfl)) rfl
theorem qw_2a07109efc : (Cond.fieldLink R_Meanings 15 R_Meanings "names" "LTypeBook$Names;") ∈ bs_W0 := bs_in (in_tables_1_2 (List.mem_of_getElem? (i := 11) rfl)) rfl
theorem qw_c54cffb97e : (Cond.fieldLink R_Meanings 9 R_Meanings "trees" "LTypeBook$Trees;") ∈ bs_W0 := bs_in (in_tables_1_2 (List.mem_of_getElem? (i := 10) rfl)) rfl
theorem qw_b5139988c8 : (Cond.methodLink R_Meanings 37 yTrees_valueOf) ∈ bs_W0 := bs_in (in_tables_1_3 (List.mem_of_getElem? (i := 69) rfl)) rfl
theorem qw_941b68ccbe : (Cond.methodLink R_Meanings 40 yNames_find) ∈ bs_W0 := bs_in (in_tables_1_3 (List.mem_of_getElem? (i := 73) rfl)) rfl
theorem qw_79c9b178a8 : (Cond.methodLink R_Meanings 48 yNames_sortOf) ∈ bs_W0 := bs_in (in_tables_1_3 (List.mem_of_getElem? (i := 85) rfl)) rfl
theorem qw_f03e5d487b : (Cond.methodLink R_Meanings 45 yNames_numberOf) ∈ bs_W0 := bs_in (in_tables_1_3 (List.mem_of_getElem? (i := 81) rfl)) rfl
theorem qw_33e16e4dc6 : (Cond.methodLink R_Meanings 184 yTypes_leftOf) ∈ bs_W0 := bs_in (in_tables_1_4 (List.mem_of_getElem? (i := 189) rfl)) rfl
theorem qw_8bca252105 : (Cond.methodLink R_Meanings 187 yTypes_rightOf) ∈ bs_W0 := bs_in (in_tables_1_4 (List.mem_of_getElem? (i := 193) rfl)) rfl
theorem qw_432ed99f40 : (Cond.methodLink R_Meanings 190 Lib.Math.max.name) ∈ bs_W0 := bs_in (in_tables_1_4 (List.mem_of_getElem? (i := 194) rfl)) rfl
theorem qw_7cc87a9f9b : (Cond.static Lib.Math.max.name) ∈ bs_W0 := bs_in (in_tables_1_1 (List.mem_of_getElem? (i := 81) rfl)) rfl
theorem qw_6b973c1ba4 : (Cond.code Lib.Math.max.name Lib.Math.max.code 2 (some .int)) ∈ bs_W0 := bs_in (in_tables_1_1 (List.mem_of_getElem? (i := 82) rfl)) rfl
theorem qw_883a959cdb : (Cond.methodLink R_Meanings 195 Lib.Math.min.name) ∈ bs_W0 := bs_in (in_tables_1_4 (List.mem_of_getElem? (i := 195) rfl)) rfl
theorem qw_1a05fe5770 : (Cond.static Lib.Math.min.name) ∈ bs_W0 := bs_in (in_tables_1_1 (List.mem_of_getElem? (i := 94) rfl)) rfl
theorem qw_5e99ca5e66 : (Cond.code Lib.Math.min.name Lib.Math.min.code 2 (some .int)) ∈ bs_W0 := bs_in (in_tables_1_1 (List.mem_of_getElem? (i := 95) rfl)) rfl
theorem qw_fae60a97b0 : (Cond.methodLink R_Meanings 198 yTypes_countOf) ∈ bs_W0 := bs_in (in_tables_1_4 (List.mem_of_getElem? (i := 196) rfl)) rfl
theorem qw_46160f6e07 : (Cond.fieldLink R_Operators 9 R_Operators "seen" "LTypeBook$Looks;") ∈ bs_W0 := bs_in (in_tables_1_2 (List.mem_of_getElem? (i := 0) rfl)) rfl
theorem qw_2e1b0e0eff : (Cond.methodLink R_Operators 15 yLooks_classOf) ∈ bs_W0 := bs_in (in_tables_1_3 (List.mem_of_getElem? (i := 189) rfl)) rfl
theorem qw_b0051a6c7a : (Cond.methodLink R_Operators 21 yLooks_extentOf) ∈ bs_W0 := bs_in (in_tables_1_3 (List.mem_of_getElem? (i := 193) rfl)) rfl
theorem qw_c3b3c98375 : (Cond.methodLink R_Operators 101 yOperators_widthOf) ∈ bs_W0 := bs_in (in_tables_1_4 (List.mem_of_getElem? (i := 6) rfl)) rfl
set_option maxHeartbeats 4000000 in
set_option maxRecDepth 100000 in
theorem k_Looker_judge (l : Launch) (γ : gE) (A : Nat → Prop) (κ : Nat → Nat) (x1 : Int32) (x2 : Int32) (x3 : Int32) (x4 : Int32)  : PU l yLooker_judge bLooker_judge 6 (some .int) 4 88 [.ref (γ.2.2.2 8), .int x1, .int x2, .int x3, .int x4] γ (INV γ A κ) (vp_Si (fun v : Int32 => True)) := by
  refine pu_openI (by decide) (Nat.le_of_ble_eq_true rfl) ?_
  intro p e s m args below meth c ls Q S hC hI hE hl
  obtain ⟨hx, hb, hml, hown, hW⟩ := id S
  have hl : lv_has ls 6 [(0, .ref (γ.2.2.2 8)), (1, .int x1), (2, .int x2), (3, .int x3), (4, .int x4)] := hl
  have J82 : ∀ (ls : Array Slot)  (i1 : Int32) (i2 : Int32) (i3 : Int32) (i4 : Int32) (i5 : Int32), lv_has ls 6 [(0, .ref (γ.2.2.2 8)), (1, .int i1), (2, .int i2), (3, .int i3), (4, .int i4), (5, .int i5)] → W p l e (bs_rm 4 0 0 88) s m args below meth c s.heap [] 0 0 Q (F0 m 82 ls []) := by
    intro ls  i1 i2 i3 i4 i5  hl
    refine lv_iload_n hx hb dLooker_judge_82 rfl (lv_at hl 1 rfl) ?_
    refine lv_iload hx hb dLooker_judge_83 (lv_at hl 5 rfl) ?_
    refine pu_Si (rest := []) S hC (s_Looker_earlier l γ (INV γ A κ) i1 i5) meLooker_earlier qw_43e62466e9 ⟨Nat.le_of_ble_eq_true rfl, Nat.le_of_ble_eq_true rfl⟩ hI rfl hl.1 rfl (Nat.le_of_ble_eq_true rfl) dLooker_judge_85 ⟨Nat.zero_le _, Nat.zero_le _⟩ (fun r16 hr16 => ?_)
    exact hE _ _ _ trivial dLooker_judge_88
  have J55 : ∀ (ls : Array Slot)  (i1 : Int32) (i2 : Int32) (i3 : Int32) (i4 : Int32) (i5 : Int32), lv_has ls 6 [(0, .ref (γ.2.2.2 8)), (1, .int i1), (2, .int i2), (3, .int i3), (4, .int i4), (5, .int i5)] → W p l e (bs_rm 4 0 0 88) s m args below meth c s.heap [] 0 0 Q (F0 m 55 ls []) := by
    intro ls  i1 i2 i3 i4 i5  hl
    refine lv_iload_n hx hb dLooker_judge_55 rfl (lv_at hl 3 rfl) ?_
    refine lv_iconst (v := (-1)) hx hb dLooker_judge_56 (by decide) ?_
    refine lv_icmp_eq (tgt := 82) hx hb dLooker_judge_57 (by decide) (fun c17 => ?_) (fun c17 => ?_)
    · exact J82 ls i1 i2 i3 i4 i5 (lv_sub hl [0, 1, 2, 3, 4, 5] rfl)
    · refine lv_iload_n hx hb dLooker_judge_60 rfl (lv_at hl 1 rfl) ?_
      refine lv_if_ne (tgt := 82) hx hb dLooker_judge_61 (by decide) (fun c18 => ?_) (fun c18 => ?_)
      · exact J82 ls i1 i2 i3 i4 i5 (lv_sub hl [0, 1, 2, 3, 4, 5] rfl)
      · refine lv_aload_n hx hb dLooker_judge_64 rfl (lv_at hl 0 rfl) ?_
        refine lv_iload_n hx hb dLooker_judge_65 rfl (lv_at hl 2 rfl) ?_
        refine lv_iload_n hx hb dLooker_judge_66 rfl (lv_at hl 3 rfl) ?_
        refine pu_Vi (rest := []) S hC (k_Looker_isOutside l γ A κ i2 i3) meLooker_isOutside qw_37965fb84c ⟨Nat.le_of_ble_eq_true rfl, Nat.le_of_ble_eq_true rfl⟩ (rv_8 hC hI) hI rfl hl.1 rfl (Nat.le_of_ble_eq_true rfl) dLooker_judge_67 ⟨Nat.zero_le _, Nat.zero_le _⟩ (fun r19 hr19 => ?_)
        refine lv_if_eq (tgt := 82) hx hb dLooker_judge_70 (by decide) (fun c20 => ?_) (fun c20 => ?_)
        · exact J82 ls i1 i2 i3 i4 i5 (lv_sub hl [0, 1, 2, 3, 4, 5] rfl)
        · refine lv_iload hx hb dLooker_judge_73 (lv_at hl 5 rfl) ?_
          refine lv_bipush (v := 8) hx hb dLooker_judge_75 (by decide) ?_
          refine pu_Si (rest := []) S hC (s_Looker_earlier l γ (INV γ A κ) i5 8) meLooker_earlier qw_43e62466e9 ⟨Nat.le_of_ble_eq_true rfl, Nat.le_of_ble_eq_true rfl⟩ hI rfl hl.1 rfl (Nat.le_of_ble_eq_true rfl) dLooker_judge_77 ⟨Nat.zero_le _, Nat.zero_le _⟩ (fun r21 hr21 => ?_)
          refine lv_istore (lv' := [(5, .int r21), (0, .ref (γ.2.2.2 8)), (1, .int i1), (2, .int i2), (3, .int i3), (4, .int i4)]) hx hb dLooker_judge_80 hl (by decide) rfl (fun ls hl => ?_)
          exact J82 ls i1 i2 i3 i4 r21 (lv_sub hl [1, 2, 3, 4, 5, 0] rfl)
  have J35 : ∀ (ls : Array Slot)  (i1 : Int32) (i2 : Int32) (i3 : Int32) (i4 : Int32) (t0 : Int32), lv_has ls 6 [(0, .ref (γ.2.2.2 8)), (1, .int i1), (2, .int i2), (3, .int i3), (4, .int i4)] → W p l e (bs_rm 4 0 0 88) s m args below meth c s.heap [] 0 0 Q (F0 m 35 ls [.int t0]) := by
    intro ls  i1 i2 i3 i4 t0  hl
    refine lv_istore (lv' := [(5, .int t0), (0, .ref (γ.2.2.2 8)), (1, .int i1), (2, .int i2), (3, .int i3), (4, .int i4)]) hx hb dLooker_judge_35 hl (by decide) rfl (fun ls hl => ?_)
    refine lv_iload_n hx hb dLooker_judge_37 rfl (lv_at hl 4 rfl) ?_
    refine lv_iconst (v := (-1)) hx hb dLooker_judge_38 (by decide) ?_
    refine lv_icmp_eq (tgt := 55) hx hb dLooker_judge_39 (by decide) (fun c22 => ?_) (fun c22 => ?_)
    · exact J55 ls i1 i2 i3 i4 t0 (lv_sub hl [1, 2, 3, 4, 5, 0] rfl)
    · refine lv_aload_n hx hb dLooker_judge_42 rfl (lv_at hl 1 rfl) ?_
      refine lv_iload_n hx hb dLooker_judge_43 rfl (lv_at hl 3 rfl) ?_
      refine lv_iload_n hx hb dLooker_judge_44 rfl (lv_at hl 4 rfl) ?_
      refine pu_Vi (rest := []) S hC (k_Looker_classMisfit l γ A κ i2 i3) meLooker_classMisfit qw_8a98d268f4 ⟨Nat.le_of_ble_eq_true rfl, Nat.le_of_ble_eq_true rfl⟩ (rv_8 hC hI) hI rfl hl.1 rfl (Nat.le_of_ble_eq_true rfl) dLooker_judge_45 ⟨Nat.zero_le _, Nat.zero_le _⟩ (fun r23 hr23 => ?_)
      refine lv_iload hx hb dLooker_judge_48 (lv_at hl 0 rfl) ?_
      refine pu_Si (rest := []) S hC (s_Looker_earlier l γ (INV γ A κ) r23 t0) meLooker_earlier qw_43e62466e9 ⟨Nat.le_of_ble_eq_true rfl, Nat.le_of_ble_eq_true rfl⟩ hI rfl hl.1 rfl (Nat.le_of_ble_eq_true rfl) dLooker_judge_50 ⟨Nat.zero_le _, Nat.zero_le _⟩ (fun r24 hr24 => ?_)
      refine lv_istore (lv' := [(5, .int r24), (0, .ref (γ.2.2.2 8)), (1, .int i1), (2, .int i2), (3, .int i3), (4, .int i4)]) hx hb dLooker_judge_53 hl (by decide) rfl (fun ls hl => ?_)
      exact J55 ls i1 i2 i3 i4 r24 (lv_sub hl [1, 2, 3, 4, 5, 0] rfl)
  have J34 : ∀ (ls : Array Slot)  (i1 : Int32) (i2 : Int32) (i3 : Int32) (i4 : Int32), lv_has ls 6 [(0, .ref (γ.2.2.2 8)), (1, .int i1), (2, .int i2), (3, .int i3), (4, .int i4)] → W p l e (bs_rm 4 0 0 88) s m args below meth c s.heap [] 0 0 Q (F0 m 34 ls []) := by
    intro ls  i1 i2 i3 i4  hl
    refine lv_iconst (v := 0) hx hb dLooker_judge_34 (by decide) ?_
    exact J35 ls i1 i2 i3 i4 0 (lv_sub hl [0, 1, 2, 3, 4] rfl)
  have J14 : ∀ (ls : Array Slot)  (i1 : Int32) (i2 : Int32) (i3 : Int32) (i4 : Int32), lv_has ls 6 [(0, .ref (γ.2.2.2 8)), (1, .int i1), (2, .int i2), (3, .int i3), (4, .int i4)] → W p l e (bs_rm 4 0 0 88) s m args below meth c s.heap [] 0 0 Q (F0 m 14 ls []) := by
    intro ls  i1 i2 i3 i4  hl
    refine lv_iload hx hb dLooker_judge_14 (lv_at hl 4 rfl) ?_
    refine lv_if_eq (tgt := 34) hx hb dLooker_judge_16 (by decide) (fun c25 => ?_) (fun c25 => ?_)
    · exact J34 ls i1 i2 i3 i4 (lv_sub hl [0, 1, 2, 3, 4] rfl)
    · refine lv_aload_n hx hb dLooker_judge_19 rfl (lv_at hl 0 rfl) ?_
      refine of_get S hC (of_8_3 hI) in_Looker rfl (by decide) qw_77aeadf252 dLooker_judge_20 ?_
      refine lv_iload_n hx hb dLooker_judge_23 rfl (lv_at hl 2 rfl) ?_
      refine pu_Vi (rest := []) S hC (k9_Looks_isFixed l γ A κ i2) meLooks_isFixed qw_3ab14e380a ⟨Nat.le_of_ble_eq_true rfl, Nat.le_of_ble_eq_true rfl⟩ (rv_9 hC hI) hI rfl hl.1 rfl (Nat.le_of_ble_eq_true rfl) dLooker_judge_24 ⟨Nat.zero_le _, Nat.zero_le _⟩ (fun r26 hr26 => ?_)
      refine lv_if_ne (tgt := 34) hx hb dLooker_judge_27 (by decide) (fun c27 => ?_) (fun c27 => ?_)
      · exact J34 ls i1 i2 i3 i4 (lv_sub hl [0, 1, 2, 3, 4] rfl)
      · refine lv_iconst (v := 5) hx hb dLooker_judge_30 (by decide) ?_
        refine lv_goto (tgt := 35) hx hb dLooker_judge_31 (by decide) ?_
        exact J35 ls i1 i2 i3 i4 5 (lv_sub hl [0, 1, 2, 3, 4] rfl)
  refine lv_iload_n hx hb dLooker_judge_0 rfl (lv_at hl 1 rfl) ?_
  refine lv_if_eq (tgt := 14) hx hb dLooker_judge_1 (by decide) (fun c28 => ?_) (fun c28 => ?_)
  · exact J14 ls x1 x2 x3 x4 (lv_sub hl [0, 1, 2, 3, 4] rfl)
  · refine lv_aload_n hx hb dLooker_judge_4 rfl (lv_at hl 0 rfl) ?_
    obtain ⟨v29, hOv29⟩ := of_8_7 hI
    refine of_get S hC hOv29 in_Looker rfl (by decide) qw_a0a252684f dLooker_judge_5 ?_
    refine lv_iload_n hx hb dLooker_judge_8 rfl (lv_at hl 2 rfl) ?_
    refine lv_icmp_eq (tgt := 14) hx hb dLooker_judge_9 (by decide) (fun c30 => ?_) (fun c30 => ?_)
    · exact J14 ls x1 x2 x3 x4 (lv_sub hl [0, 1, 2, 3, 4] rfl)
    · refine lv_iload_n hx hb dLooker_judge_12 rfl (lv_at hl 1 rfl) ?_
      exact hE _ _ _ trivial dLooker_judge_13

set_option maxHeartbeats 4000000 in
set_option maxRecDepth 100000 in
theorem k_Looker_namedTypeFault (l : Launch) (γ : gE) (A : Nat → Prop) (κ : Nat → Nat) (x1 : Int32)  : PU l yLooker_namedTypeFault bLooker_namedTypeFault 3 (some .int) 2 44 [.ref (γ.2.2.2 8), .int x1] γ (INV γ A κ) (vp_Si (fun v : Int32 => True)) := by
  refine pu_openI (by decide) (Nat.le_of_ble_eq_true rfl) ?_
  intro p e s m args below meth c ls Q S hC hI hE hl
  obtain ⟨hx, hb, hml, hown, hW⟩ := id S
  have hl : lv_has ls 3 [(0, .ref (γ.2.2.2 8)), (1, .int x1)] := hl
  refine lv_aload_n hx hb dLooker_namedTypeFault_0 rfl (lv_at hl 0 rfl) ?_
  refine of_get S hC (of_8_0 hI) in_Looker rfl (by decide) qw_22d2793f25 dLooker_namedTypeFault_1 ?_
  refine lv_iload_n hx hb dLooker_namedTypeFault_4 rfl (lv_at hl 1 rfl) ?_
  refine pu_Vi (rest := []) S hC (k1_Trees_countOf l γ A κ x1) meTrees_countOf qw_195048702c ⟨Nat.le_of_ble_eq_true rfl, Nat.le_of_ble_eq_true rfl⟩ (rv_1 hC hI) hI rfl hl.1 rfl (Nat.le_of_ble_eq_true rfl) dLooker_namedTypeFault_5 ⟨Nat.zero_le _, Nat.zero_le _⟩ (fun r8 hr8 => ?_)
  refine lv_if_eq (tgt := 14) hx hb dLooker_namedTypeFault_8 (by decide) (fun c9 => ?_) (fun c9 => ?_)
  · refine lv_aload_n hx hb dLooker_namedTypeFault_14 rfl (lv_at hl 0 rfl) ?_
    refine of_get S hC (of_8_1 hI) in_Looker rfl (by decide) qw_213d2bb2ac dLooker_namedTypeFault_15 ?_
    refine lv_aload_n hx hb dLooker_namedTypeFault_18 rfl (lv_at hl 0 rfl) ?_
    refine of_get S hC (of_8_0 hI) in_Looker rfl (by decide) qw_22d2793f25 dLooker_namedTypeFault_19 ?_
    refine lv_iload_n hx hb dLooker_namedTypeFault_22 rfl (lv_at hl 1 rfl) ?_
    refine pu_Vi (rest := [.ref (γ.2.2.2 2)]) S hC (k1_Trees_valueOf l γ A κ x1) meTrees_valueOf qw_ea9162cf9a ⟨Nat.le_of_ble_eq_true rfl, Nat.le_of_ble_eq_true rfl⟩ (rv_1 hC hI) hI rfl hl.1 rfl (Nat.le_of_ble_eq_true rfl) dLooker_namedTypeFault_23 ⟨Nat.zero_le _, Nat.zero_le _⟩ (fun r10 hr10 => ?_)
    refine pu_Vi (rest := []) S hC (k2_Names_find l γ A κ r10) meNames_find qw_a4a7b18094 ⟨Nat.le_of_ble_eq_true rfl, Nat.le_of_ble_eq_true rfl⟩ (rv_2 hC hI) hI rfl hl.1 rfl (Nat.le_of_ble_eq_true rfl) dLooker_namedTypeFault_26 ⟨Nat.zero_le _, Nat.zero_le _⟩ (fun r11 hr11 => ?_)
    refine lv_istore_n (lv' := [(2, .int r11), (0, .ref (γ.2.2.2 8)), (1, .int x1)]) hx hb dLooker_namedTypeFault_29 rfl hl (by decide) rfl (fun ls hl => ?_)
    refine lv_iload_n hx hb dLooker_namedTypeFault_30 rfl (lv_at hl 0 rfl) ?_
    refine lv_iconst (v := (-1)) hx hb dLooker_namedTypeFault_31 (by decide) ?_
    refine lv_icmp_ne (tgt := 39) hx hb dLooker_namedTypeFault_32 (by decide) (fun c12 => ?_) (fun c12 => ?_)
    · refine lv_aload_n hx hb dLooker_namedTypeFault_39 rfl (lv_at hl 1 rfl) ?_
      refine of_get S hC (of_8_1 hI) in_Looker rfl (by decide) qw_213d2bb2ac dLooker_namedTypeFault_40 ?_
      refine lv_iload_n hx hb dLooker_namedTypeFault_43 rfl (lv_at hl 0 rfl) ?_
      refine pu_Vi (rest := []) S hC (k2_Names_sortOf l γ A κ r11) meNames_sortOf qw_655d915bbc ⟨Nat.le_of_ble_eq_true rfl, Nat.le_of_ble_eq_true rfl⟩ (rv_2 hC hI) hI rfl hl.1 rfl (Nat.le_of_ble_eq_true rfl) dLooker_namedTypeFault_44 ⟨Nat.zero_le _, Nat.zero_le _⟩ (fun r13 hr13 => ?_)
      refine lv_iconst (v := 1) hx hb dLooker_namedTypeFault_47 (by decide) ?_
      refine lv_icmp_ne (tgt := 55) hx hb dLooker_namedTypeFault_48 (by decide) (fun c14 => ?_) (fun c14 => ?_)
      · refine lv_iconst (v := 2) hx hb dLooker_namedTypeFault_55 (by decide) ?_
        exact hE _ _ _ trivial dLooker_namedTypeFault_56
      · refine lv_iconst (v := 0) hx hb dLooker_namedTypeFault_51 (by decide) ?_
        refine lv_goto (tgt := 56) hx hb dLooker_namedTypeFault_52 (by decide) ?_
        exact hE _ _ _ trivial dLooker_namedTypeFault_56
    · refine lv_iconst (v := 1) hx hb dLooker_namedTypeFault_35 (by decide) ?_
      refine lv_goto (tgt := 56) hx hb dLooker_namedTypeFault_36 (by decide) ?_
      exact hE _ _ _ trivial dLooker_namedTypeFault_56
  · refine lv_bipush (v := 11) hx hb dLooker_namedTypeFault_11 (by decide) ?_
    exact hE _ _ _ trivial dLooker_namedTypeFault_13

set_option maxHeartbeats 4000000 in
set_option maxRecDepth 100000 in
theorem k_Looker_typeFault (l : Launch) (γ : gE) (A : Nat → Prop) (κ : Nat → Nat) (x1 : Int32)  : PU l yLooker_typeFault bLooker_typeFault 5 (some .int) 3 66 [.ref (γ.2.2.2 8), .int x1] γ (INV γ A κ) (vp_Si (fun v : Int32 => True)) := by
  refine pu_openI (by decide) (Nat.le_of_ble_eq_true rfl) ?_
  intro p e s m args below meth c ls Q S hC hI hE hl
  obtain ⟨hx, hb, hml, hown, hW⟩ := id S
  have hl : lv_has ls 5 [(0, .ref (γ.2.2.2 8)), (1, .int x1)] := hl
  have J67 : ∀ (ls : Array Slot)  (i1 : Int32) (i2 : Int32) (t0 : Int32) (t1 : Int32), lv_has ls 5 [(0, .ref (γ.2.2.2 8)), (1, .int i1), (2, .int i2)] → W p l e (bs_rm 3 0 0 66) s m args below meth c s.heap [] 0 0 Q (F0 m 67 ls [.int t0, .int t1]) := by
    intro ls  i1 i2 t0 t1  hl
    refine lv_icmp_eq (tgt := 72) hx hb dLooker_typeFault_67 (by decide) (fun c24 => ?_) (fun c24 => ?_)
    · refine lv_aload_n hx hb dLooker_typeFault_72 rfl (lv_at hl 0 rfl) ?_
      refine of_get S hC (of_8_0 hI) in_Looker rfl (by decide) qw_22d2793f25 dLooker_typeFault_73 ?_
      refine lv_iload_n hx hb dLooker_typeFault_76 rfl (lv_at hl 1 rfl) ?_
      refine pu_Vi (rest := []) S hC (k1_Trees_leftOfTwo l γ A κ i1) meTrees_leftOfTwo qw_844ff72d87 ⟨Nat.le_of_ble_eq_true rfl, Nat.le_of_ble_eq_true rfl⟩ (rv_1 hC hI) hI rfl hl.1 rfl (Nat.le_of_ble_eq_true rfl) dLooker_typeFault_77 ⟨Nat.zero_le _, Nat.zero_le _⟩ (fun r25 hr25 => ?_)
      refine lv_istore_n (lv' := [(3, .int r25), (0, .ref (γ.2.2.2 8)), (1, .int i1), (2, .int i2)]) hx hb dLooker_typeFault_80 rfl hl (by decide) rfl (fun ls hl => ?_)
      refine lv_iload_n hx hb dLooker_typeFault_81 rfl (lv_at hl 2 rfl) ?_
      refine lv_iconst (v := 1) hx hb dLooker_typeFault_82 (by decide) ?_
      refine lv_isub hx hb dLooker_typeFault_83 ?_
      refine lv_topi (fun v26 ev26 => ?_)
      refine lv_istore (lv' := [(4, .int v26), (3, .int r25), (0, .ref (γ.2.2.2 8)), (1, .int i1), (2, .int i2)]) hx hb dLooker_typeFault_84 hl (by decide) rfl (fun ls hl => ?_)
      refine lv_aload_n hx hb dLooker_typeFault_86 rfl (lv_at hl 2 rfl) ?_
      refine of_get S hC (of_8_3 hI) in_Looker rfl (by decide) qw_77aeadf252 dLooker_typeFault_87 ?_
      refine lv_iload_n hx hb dLooker_typeFault_90 rfl (lv_at hl 1 rfl) ?_
      refine pu_Vi (rest := []) S hC (k9_Looks_classOf l γ A κ r25) meLooks_classOf qw_f23e8ec7f8 ⟨Nat.le_of_ble_eq_true rfl, Nat.le_of_ble_eq_true rfl⟩ (rv_9 hC hI) hI rfl hl.1 rfl (Nat.le_of_ble_eq_true rfl) dLooker_typeFault_91 ⟨Nat.zero_le _, Nat.zero_le _⟩ (fun r27 hr27 => ?_)
      refine lv_iconst (v := 2) hx hb dLooker_typeFault_94 (by decide) ?_
      refine lv_icmp_ne (tgt := 111) hx hb dLooker_typeFault_95 (by decide) (fun c28 => ?_) (fun c28 => ?_)
      · refine lv_iconst (v := 3) hx hb dLooker_typeFault_111 (by decide) ?_
        exact hE _ _ _ trivial dLooker_typeFault_112
      · refine lv_aload_n hx hb dLooker_typeFault_98 rfl (lv_at hl 2 rfl) ?_
        refine of_get S hC (of_8_3 hI) in_Looker rfl (by decide) qw_77aeadf252 dLooker_typeFault_99 ?_
        refine lv_iload hx hb dLooker_typeFault_102 (lv_at hl 0 rfl) ?_
        refine pu_Vi (rest := []) S hC (k9_Looks_classOf l γ A κ v26) meLooks_classOf qw_f23e8ec7f8 ⟨Nat.le_of_ble_eq_true rfl, Nat.le_of_ble_eq_true rfl⟩ (rv_9 hC hI) hI rfl hl.1 rfl (Nat.le_of_ble_eq_true rfl) dLooker_typeFault_104 ⟨Nat.zero_le _, Nat.zero_le _⟩ (fun r29 hr29 => ?_)
        refine lv_iconst (v := 2) hx hb dLooker_typeFault_107 (by decide) ?_
        refine lv_icmp_eq (tgt := 113) hx hb dLooker_typeFault_108 (by decide) (fun c30 => ?_) (fun c30 => ?_)
        · refine lv_aload_n hx hb dLooker_typeFault_113 rfl (lv_at hl 2 rfl) ?_
          refine of_get S hC (of_8_3 hI) in_Looker rfl (by decide) qw_77aeadf252 dLooker_typeFault_114 ?_
          refine lv_iload_n hx hb dLooker_typeFault_117 rfl (lv_at hl 1 rfl) ?_
          refine pu_Vi (rest := []) S hC (k9_Looks_isFixed l γ A κ r25) meLooks_isFixed qw_3ab14e380a ⟨Nat.le_of_ble_eq_true rfl, Nat.le_of_ble_eq_true rfl⟩ (rv_9 hC hI) hI rfl hl.1 rfl (Nat.le_of_ble_eq_true rfl) dLooker_typeFault_118 ⟨Nat.zero_le _, Nat.zero_le _⟩ (fun r31 hr31 => ?_)
          refine lv_if_eq (tgt := 136) hx hb dLooker_typeFault_121 (by decide) (fun c32 => ?_) (fun c32 => ?_)
          · refine lv_iconst (v := 5) hx hb dLooker_typeFault_136 (by decide) ?_
            exact hE _ _ _ trivial dLooker_typeFault_137
          · refine lv_aload_n hx hb dLooker_typeFault_124 rfl (lv_at hl 2 rfl) ?_
            refine of_get S hC (of_8_3 hI) in_Looker rfl (by decide) qw_77aeadf252 dLooker_typeFault_125 ?_
            refine lv_iload hx hb dLooker_typeFault_128 (lv_at hl 0 rfl) ?_
            refine pu_Vi (rest := []) S hC (k9_Looks_isFixed l γ A κ v26) meLooks_isFixed qw_3ab14e380a ⟨Nat.le_of_ble_eq_true rfl, Nat.le_of_ble_eq_true rfl⟩ (rv_9 hC hI) hI rfl hl.1 rfl (Nat.le_of_ble_eq_true rfl) dLooker_typeFault_130 ⟨Nat.zero_le _, Nat.zero_le _⟩ (fun r33 hr33 => ?_)
            refine lv_if_ne (tgt := 138) hx hb dLooker_typeFault_133 (by decide) (fun c34 => ?_) (fun c34 => ?_)
            · refine lv_iload_n hx hb dLooker_typeFault_138 rfl (lv_at hl 4 rfl) ?_
              refine lv_aload_n hx hb dLooker_typeFault_139 rfl (lv_at hl 2 rfl) ?_
              refine of_get S hC (of_8_3 hI) in_Looker rfl (by decide) qw_77aeadf252 dLooker_typeFault_140 ?_
              refine lv_iload_n hx hb dLooker_typeFault_143 rfl (lv_at hl 1 rfl) ?_
              refine pu_Vi (rest := [.int i2]) S hC (k9_Looks_numberOf l γ A κ r25) meLooks_numberOf qw_7e695d47da ⟨Nat.le_of_ble_eq_true rfl, Nat.le_of_ble_eq_true rfl⟩ (rv_9 hC hI) hI rfl hl.1 rfl (Nat.le_of_ble_eq_true rfl) dLooker_typeFault_144 ⟨Nat.zero_le _, Nat.zero_le _⟩ (fun r35 hr35 => ?_)
              refine lv_aload_n hx hb dLooker_typeFault_147 rfl (lv_at hl 2 rfl) ?_
              refine of_get S hC (of_8_3 hI) in_Looker rfl (by decide) qw_77aeadf252 dLooker_typeFault_148 ?_
              refine lv_iload hx hb dLooker_typeFault_151 (lv_at hl 0 rfl) ?_
              refine pu_Vi (rest := [.int r35, .int i2]) S hC (k9_Looks_numberOf l γ A κ v26) meLooks_numberOf qw_7e695d47da ⟨Nat.le_of_ble_eq_true rfl, Nat.le_of_ble_eq_true rfl⟩ (rv_9 hC hI) hI rfl hl.1 rfl (Nat.le_of_ble_eq_true rfl) dLooker_typeFault_153 ⟨Nat.zero_le _, Nat.zero_le _⟩ (fun r36 hr36 => ?_)
              refine pu_Si (rest := []) S hC (s_Looker_boundsFault l γ (INV γ A κ) i2 r35 r36) meLooker_boundsFault qw_dd79a0a1bc ⟨Nat.le_of_ble_eq_true rfl, Nat.le_of_ble_eq_true rfl⟩ hI rfl hl.1 rfl (Nat.le_of_ble_eq_true rfl) dLooker_typeFault_156 ⟨Nat.zero_le _, Nat.zero_le _⟩ (fun r37 hr37 => ?_)
              exact hE _ _ _ trivial dLooker_typeFault_159
            · refine lv_iconst (v := 5) hx hb dLooker_typeFault_136 (by decide) ?_
              exact hE _ _ _ trivial dLooker_typeFault_137
        · refine lv_iconst (v := 3) hx hb dLooker_typeFault_111 (by decide) ?_
          exact hE _ _ _ trivial dLooker_typeFault_112
    · refine lv_iconst (v := 2) hx hb dLooker_typeFault_70 (by decide) ?_
      exact hE _ _ _ trivial dLooker_typeFault_71
  refine lv_aload_n hx hb dLooker_typeFault_0 rfl (lv_at hl 0 rfl) ?_
  refine of_get S hC (of_8_0 hI) in_Looker rfl (by decide) qw_22d2793f25 dLooker_typeFault_1 ?_
  refine lv_iload_n hx hb dLooker_typeFault_4 rfl (lv_at hl 1 rfl) ?_
  refine pu_Vi (rest := []) S hC (k1_Trees_kindOf l γ A κ x1) meTrees_kindOf qw_f48a4a6aed ⟨Nat.le_of_ble_eq_true rfl, Nat.le_of_ble_eq_true rfl⟩ (rv_1 hC hI) hI rfl hl.1 rfl (Nat.le_of_ble_eq_true rfl) dLooker_typeFault_5 ⟨Nat.zero_le _, Nat.zero_le _⟩ (fun r38 hr38 => ?_)
  refine lv_istore_n (lv' := [(2, .int r38), (0, .ref (γ.2.2.2 8)), (1, .int x1)]) hx hb dLooker_typeFault_8 rfl hl (by decide) rfl (fun ls hl => ?_)
  refine lv_iload_n hx hb dLooker_typeFault_9 rfl (lv_at hl 0 rfl) ?_
  refine lv_bipush (v := 10) hx hb dLooker_typeFault_10 (by decide) ?_
  refine lv_icmp_ne (tgt := 21) hx hb dLooker_typeFault_12 (by decide) (fun c39 => ?_) (fun c39 => ?_)
  · refine lv_iload_n hx hb dLooker_typeFault_21 rfl (lv_at hl 0 rfl) ?_
    refine lv_bipush (v := 11) hx hb dLooker_typeFault_22 (by decide) ?_
    refine lv_icmp_lt (tgt := 45) hx hb dLooker_typeFault_24 (by decide) (fun c40 => ?_) (fun c40 => ?_)
    · refine lv_bipush (v := 11) hx hb dLooker_typeFault_45 (by decide) ?_
      exact hE _ _ _ trivial dLooker_typeFault_47
    · refine lv_iload_n hx hb dLooker_typeFault_27 rfl (lv_at hl 0 rfl) ?_
      refine lv_bipush (v := 13) hx hb dLooker_typeFault_28 (by decide) ?_
      refine lv_icmp_gt (tgt := 45) hx hb dLooker_typeFault_30 (by decide) (fun c41 => ?_) (fun c41 => ?_)
      · refine lv_bipush (v := 11) hx hb dLooker_typeFault_45 (by decide) ?_
        exact hE _ _ _ trivial dLooker_typeFault_47
      · refine lv_aload_n hx hb dLooker_typeFault_33 rfl (lv_at hl 1 rfl) ?_
        refine of_get S hC (of_8_0 hI) in_Looker rfl (by decide) qw_22d2793f25 dLooker_typeFault_34 ?_
        refine lv_iload_n hx hb dLooker_typeFault_37 rfl (lv_at hl 2 rfl) ?_
        refine pu_Vi (rest := []) S hC (k1_Trees_countOf l γ A κ x1) meTrees_countOf qw_195048702c ⟨Nat.le_of_ble_eq_true rfl, Nat.le_of_ble_eq_true rfl⟩ (rv_1 hC hI) hI rfl hl.1 rfl (Nat.le_of_ble_eq_true rfl) dLooker_typeFault_38 ⟨Nat.zero_le _, Nat.zero_le _⟩ (fun r42 hr42 => ?_)
        refine lv_iconst (v := 2) hx hb dLooker_typeFault_41 (by decide) ?_
        refine lv_icmp_eq (tgt := 48) hx hb dLooker_typeFault_42 (by decide) (fun c43 => ?_) (fun c43 => ?_)
        · refine lv_aload_n hx hb dLooker_typeFault_48 rfl (lv_at hl 1 rfl) ?_
          refine of_get S hC (of_8_0 hI) in_Looker rfl (by decide) qw_22d2793f25 dLooker_typeFault_49 ?_
          refine lv_iload_n hx hb dLooker_typeFault_52 rfl (lv_at hl 2 rfl) ?_
          refine pu_Vi (rest := []) S hC (k1_Trees_valueOf l γ A κ x1) meTrees_valueOf qw_ea9162cf9a ⟨Nat.le_of_ble_eq_true rfl, Nat.le_of_ble_eq_true rfl⟩ (rv_1 hC hI) hI rfl hl.1 rfl (Nat.le_of_ble_eq_true rfl) dLooker_typeFault_53 ⟨Nat.zero_le _, Nat.zero_le _⟩ (fun r44 hr44 => ?_)
          refine lv_iload_n hx hb dLooker_typeFault_56 rfl (lv_at hl 0 rfl) ?_
          refine lv_bipush (v := 11) hx hb dLooker_typeFault_57 (by decide) ?_
          refine lv_icmp_ne (tgt := 66) hx hb dLooker_typeFault_59 (by decide) (fun c45 => ?_) (fun c45 => ?_)
          · refine lv_iconst (v := 5) hx hb dLooker_typeFault_66 (by decide) ?_
            exact J67 ls x1 r38 5 r44 (lv_sub hl [1, 2, 0] rfl)
          · refine lv_iconst (v := 0) hx hb dLooker_typeFault_62 (by decide) ?_
            refine lv_goto (tgt := 67) hx hb dLooker_typeFault_63 (by decide) ?_
            exact J67 ls x1 r38 0 r44 (lv_sub hl [1, 2, 0] rfl)
        · refine lv_bipush (v := 11) hx hb dLooker_typeFault_45 (by decide) ?_
          exact hE _ _ _ trivial dLooker_typeFault_47
  · refine lv_aload_n hx hb dLooker_typeFault_15 rfl (lv_at hl 1 rfl) ?_
    refine lv_iload_n hx hb dLooker_typeFault_16 rfl (lv_at hl 2 rfl) ?_
    refine pu_Vi (rest := []) S hC (k_Looker_namedTypeFault l γ A κ x1) meLooker_namedTypeFault qw_63f3ae9b1e ⟨Nat.le_of_ble_eq_true rfl, Nat.le_of_ble_eq_true rfl⟩ (rv_8 hC hI) hI rfl hl.1 rfl (Nat.le_of_ble_eq_true rfl) dLooker_typeFault_17 ⟨Nat.zero_le _, Nat.zero_le _⟩ (fun r46 hr46 => ?_)
    exact hE _ _ _ trivial dLooker_typeFault_20

set_option maxHeartbeats 4000000 in
set_option maxRecDepth 100000 in
theorem k_Looker_namedType (l : Launch) (γ : gE) (A : Nat → Prop) (κ : Nat → Nat) (x1 : Int32)  : PU l yLooker_namedType bLooker_namedType 2 (some .int) 2 44 [.ref (γ.2.2.2 8), .int x1] γ (INV γ A κ) (vp_Si (fun v : Int32 => True)) := by
  refine pu_openI (by decide) (Nat.le_of_ble_eq_true rfl) ?_
  intro p e s m args below meth c ls Q S hC hI hE hl
  obtain ⟨hx, hb, hml, hown, hW⟩ := id S
  have hl : lv_has ls 2 [(0, .ref (γ.2.2.2 8)), (1, .int x1)] := hl
  refine lv_aload_n hx hb dLooker_namedType_0 rfl (lv_at hl 0 rfl) ?_
  refine of_get S hC (of_8_1 hI) in_Looker rfl (by decide) qw_213d2bb2ac dLooker_namedType_1 ?_
  refine lv_aload_n hx hb dLooker_namedType_4 rfl (lv_at hl 0 rfl) ?_
  refine of_get S hC (of_8_1 hI) in_Looker rfl (by decide) qw_213d2bb2ac dLooker_namedType_5 ?_
  refine lv_aload_n hx hb dLooker_namedType_8 rfl (lv_at hl 0 rfl) ?_
  refine of_get S hC (of_8_0 hI) in_Looker rfl (by decide) qw_22d2793f25 dLooker_namedType_9 ?_
  refine lv_iload_n hx hb dLooker_namedType_12 rfl (lv_at hl 1 rfl) ?_
  refine pu_Vi (rest := [.ref (γ.2.2.2 2), .ref (γ.2.2.2 2)]) S hC (k1_Trees_valueOf l γ A κ x1) meTrees_valueOf qw_ea9162cf9a ⟨Nat.le_of_ble_eq_true rfl, Nat.le_of_ble_eq_true rfl⟩ (rv_1 hC hI) hI rfl hl.1 rfl (Nat.le_of_ble_eq_true rfl) dLooker_namedType_13 ⟨Nat.zero_le _, Nat.zero_le _⟩ (fun r4 hr4 => ?_)
  refine pu_Vi (rest := [.ref (γ.2.2.2 2)]) S hC (k2_Names_find l γ A κ r4) meNames_find qw_a4a7b18094 ⟨Nat.le_of_ble_eq_true rfl, Nat.le_of_ble_eq_true rfl⟩ (rv_2 hC hI) hI rfl hl.1 rfl (Nat.le_of_ble_eq_true rfl) dLooker_namedType_16 ⟨Nat.zero_le _, Nat.zero_le _⟩ (fun r5 hr5 => ?_)
  refine pu_Vi (rest := []) S hC (k2_Names_numberOf l γ A κ r5) meNames_numberOf qw_108db87eb2 ⟨Nat.le_of_ble_eq_true rfl, Nat.le_of_ble_eq_true rfl⟩ (rv_2 hC hI) hI rfl hl.1 rfl (Nat.le_of_ble_eq_true rfl) dLooker_namedType_19 ⟨Nat.zero_le _, Nat.zero_le _⟩ (fun r6 hr6 => ?_)
  exact hE _ _ _ trivial dLooker_namedType_22

set_option maxHeartbeats 4000000 in
set_option maxRecDepth 100000 in
theorem k_Meanings_isConstant (l : Launch) (γ : gE) (A : Nat → Prop) (κ : Nat → Nat) (x1 : Int32)  : PU l yMeanings_isConstant bMeanings_isConstant 2 (some .boolean) 2 42 [.ref (γ.2.2.2 12), .int x1] γ (INV γ A κ) (vp_Si (fun v : Int32 => True)) := by
  refine pu_openZ (by decide) (Nat.le_of_ble_eq_true rfl) ?_
  intro p e s m args below meth c ls Q S hC hI hE hl
  obtain ⟨hx, hb, hml, hown, hW⟩ := id S
  have hl : lv_has ls 2 [(0, .ref (γ.2.2.2 12)), (1, .int x1)] := hl
  refine lv_aload_n hx hb dMeanings_isConstant_0 rfl (lv_at hl 0 rfl) ?_
  refine of_get S hC (of_12_3 hI) in_Meanings rfl (by decide) qw_9bfdade5f5 dMeanings_isConstant_1 ?_
  refine lv_iload_n hx hb dMeanings_isConstant_4 rfl (lv_at hl 1 rfl) ?_
  refine pu_Vi (rest := []) S hC (k4_Objects_whatOf l γ A κ x1) meObjects_whatOf qw_2c7313498c ⟨Nat.le_of_ble_eq_true rfl, Nat.le_of_ble_eq_true rfl⟩ (rv_4 hC hI) hI rfl hl.1 rfl (Nat.le_of_ble_eq_true rfl) dMeanings_isConstant_5 ⟨Nat.zero_le _, Nat.zero_le _⟩ (fun r3 hr3 => ?_)
  refine lv_if_ne (tgt := 15) hx hb dMeanings_isConstant_8 (by decide) (fun c4 => ?_) (fun c4 => ?_)
  · refine lv_iconst (v := 0) hx hb dMeanings_isConstant_15 (by decide) ?_
    exact hE _ _ _ rfl trivial dMeanings_isConstant_16
  · refine lv_iconst (v := 1) hx hb dMeanings_isConstant_11 (by decide) ?_
    refine lv_goto (tgt := 16) hx hb dMeanings_isConstant_12 (by decide) ?_
    exact hE _ _ _ rfl trivial dMeanings_isConstant_16

set_option maxHeartbeats 4000000 in
set_option maxRecDepth 100000 in
theorem k_Meanings_isRow (l : Launch) (γ : gE) (A : Nat → Prop) (κ : Nat → Nat) (x1 : Int32)  : PU l yMeanings_isRow bMeanings_isRow 2 (some .boolean) 2 42 [.ref (γ.2.2.2 12), .int x1] γ (INV γ A κ) (vp_Si (fun v : Int32 => True)) := by
  refine pu_openZ (by decide) (Nat.le_of_ble_eq_true rfl) ?_
  intro p e s m args below meth c ls Q S hC hI hE hl
  obtain ⟨hx, hb, hml, hown, hW⟩ := id S
  have hl : lv_has ls 2 [(0, .ref (γ.2.2.2 12)), (1, .int x1)] := hl
  refine lv_aload_n hx hb dMeanings_isRow_0 rfl (lv_at hl 0 rfl) ?_
  refine of_get S hC (of_12_2 hI) in_Meanings rfl (by decide) qw_e2a2dba4a9 dMeanings_isRow_1 ?_
  refine lv_aload_n hx hb dMeanings_isRow_4 rfl (lv_at hl 0 rfl) ?_
  refine of_get S hC (of_12_3 hI) in_Meanings rfl (by decide) qw_9bfdade5f5 dMeanings_isRow_5 ?_
  refine lv_iload_n hx hb dMeanings_isRow_8 rfl (lv_at hl 1 rfl) ?_
  refine pu_Vi (rest := [.ref (γ.2.2.2 3)]) S hC (k4_Objects_typeOfObject l γ A κ x1) meObjects_typeOfObject qw_bc7306873f ⟨Nat.le_of_ble_eq_true rfl, Nat.le_of_ble_eq_true rfl⟩ (rv_4 hC hI) hI rfl hl.1 rfl (Nat.le_of_ble_eq_true rfl) dMeanings_isRow_9 ⟨Nat.zero_le _, Nat.zero_le _⟩ (fun r4 hr4 => ?_)
  refine pu_Vi (rest := []) S hC (k3_Types_classOf l γ A κ r4) meTypes_classOf qw_ac19273b21 ⟨Nat.le_of_ble_eq_true rfl, Nat.le_of_ble_eq_true rfl⟩ (rv_3 hC hI) hI rfl hl.1 rfl (Nat.le_of_ble_eq_true rfl) dMeanings_isRow_12 ⟨Nat.zero_le _, Nat.zero_le _⟩ (fun r5 hr5 => ?_)
  refine lv_iconst (v := 3) hx hb dMeanings_isRow_15 (by decide) ?_
  refine lv_icmp_ne (tgt := 23) hx hb dMeanings_isRow_16 (by decide) (fun c6 => ?_) (fun c6 => ?_)
  · refine lv_iconst (v := 0) hx hb dMeanings_isRow_23 (by decide) ?_
    exact hE _ _ _ rfl trivial dMeanings_isRow_24
  · refine lv_iconst (v := 1) hx hb dMeanings_isRow_19 (by decide) ?_
    refine lv_goto (tgt := 24) hx hb dMeanings_isRow_20 (by decide) ?_
    exact hE _ _ _ rfl trivial dMeanings_isRow_24

set_option maxHeartbeats 4000000 in
set_option maxRecDepth 100000 in
theorem k_Meanings_objectAt (l : Launch) (γ : gE) (A : Nat → Prop) (κ : Nat → Nat) (x1 : Int32)  : PU l yMeanings_objectAt bMeanings_objectAt 3 (some .int) 2 44 [.ref (γ.2.2.2 12), .int x1] γ (INV γ A κ) (vp_Si (fun v : Int32 => True)) := by
  refine pu_openI (by decide) (Nat.le_of_ble_eq_true rfl) ?_
  intro p e s m args below meth c ls Q S hC hI hE hl
  obtain ⟨hx, hb, hml, hown, hW⟩ := id S
  have hl : lv_has ls 3 [(0, .ref (γ.2.2.2 12)), (1, .int x1)] := hl
  refine lv_aload_n hx hb dMeanings_objectAt_0 rfl (lv_at hl 0 rfl) ?_
  refine of_get S hC (of_12_1 hI) in_Meanings rfl (by decide) qw_2a07109efc dMeanings_objectAt_1 ?_
  refine lv_aload_n hx hb dMeanings_objectAt_4 rfl (lv_at hl 0 rfl) ?_
  refine of_get S hC (of_12_0 hI) in_Meanings rfl (by decide) qw_c54cffb97e dMeanings_objectAt_5 ?_
  refine lv_iload_n hx hb dMeanings_objectAt_8 rfl (lv_at hl 1 rfl) ?_
  refine pu_Vi (rest := [.ref (γ.2.2.2 2)]) S hC (k1_Trees_valueOf l γ A κ x1) meTrees_valueOf qw_b5139988c8 ⟨Nat.le_of_ble_eq_true rfl, Nat.le_of_ble_eq_true rfl⟩ (rv_1 hC hI) hI rfl hl.1 rfl (Nat.le_of_ble_eq_true rfl) dMeanings_objectAt_9 ⟨Nat.zero_le _, Nat.zero_le _⟩ (fun r6 hr6 => ?_)
  refine pu_Vi (rest := []) S hC (k2_Names_find l γ A κ r6) meNames_find qw_941b68ccbe ⟨Nat.le_of_ble_eq_true rfl, Nat.le_of_ble_eq_true rfl⟩ (rv_2 hC hI) hI rfl hl.1 rfl (Nat.le_of_ble_eq_true rfl) dMeanings_objectAt_12 ⟨Nat.zero_le _, Nat.zero_le _⟩ (fun r7 hr7 => ?_)
  refine lv_istore_n (lv' := [(2, .int r7), (0, .ref (γ.2.2.2 12)), (1, .int x1)]) hx hb dMeanings_objectAt_15 rfl hl (by decide) rfl (fun ls hl => ?_)
  refine lv_aload_n hx hb dMeanings_objectAt_16 rfl (lv_at hl 1 rfl) ?_
  refine of_get S hC (of_12_1 hI) in_Meanings rfl (by decide) qw_2a07109efc dMeanings_objectAt_17 ?_
  refine lv_iload_n hx hb dMeanings_objectAt_20 rfl (lv_at hl 0 rfl) ?_
  refine pu_Vi (rest := []) S hC (k2_Names_sortOf l γ A κ r7) meNames_sortOf qw_79c9b178a8 ⟨Nat.le_of_ble_eq_true rfl, Nat.le_of_ble_eq_true rfl⟩ (rv_2 hC hI) hI rfl hl.1 rfl (Nat.le_of_ble_eq_true rfl) dMeanings_objectAt_21 ⟨Nat.zero_le _, Nat.zero_le _⟩ (fun r8 hr8 => ?_)
  refine lv_iconst (v := 2) hx hb dMeanings_objectAt_24 (by decide) ?_
  refine lv_icmp_ne (tgt := 39) hx hb dMeanings_objectAt_25 (by decide) (fun c9 => ?_) (fun c9 => ?_)
  · refine lv_iconst (v := (-1)) hx hb dMeanings_objectAt_39 (by decide) ?_
    exact hE _ _ _ trivial dMeanings_objectAt_40
  · refine lv_aload_n hx hb dMeanings_objectAt_28 rfl (lv_at hl 1 rfl) ?_
    refine of_get S hC (of_12_1 hI) in_Meanings rfl (by decide) qw_2a07109efc dMeanings_objectAt_29 ?_
    refine lv_iload_n hx hb dMeanings_objectAt_32 rfl (lv_at hl 0 rfl) ?_
    refine pu_Vi (rest := []) S hC (k2_Names_numberOf l γ A κ r7) meNames_numberOf qw_f03e5d487b ⟨Nat.le_of_ble_eq_true rfl, Nat.le_of_ble_eq_true rfl⟩ (rv_2 hC hI) hI rfl hl.1 rfl (Nat.le_of_ble_eq_true rfl) dMeanings_objectAt_33 ⟨Nat.zero_le _, Nat.zero_le _⟩ (fun r10 hr10 => ?_)
    refine lv_goto (tgt := 40) hx hb dMeanings_objectAt_36 (by decide) ?_
    exact hE _ _ _ trivial dMeanings_objectAt_40

set_option maxHeartbeats 4000000 in
set_option maxRecDepth 100000 in
theorem k_Meanings_isUnknown (l : Launch) (γ : gE) (A : Nat → Prop) (κ : Nat → Nat) (x1 : Int32)  : PU l yMeanings_isUnknown bMeanings_isUnknown 2 (some .boolean) 2 44 [.ref (γ.2.2.2 12), .int x1] γ (INV γ A κ) (vp_Si (fun v : Int32 => True)) := by
  refine pu_openZ (by decide) (Nat.le_of_ble_eq_true rfl) ?_
  intro p e s m args below meth c ls Q S hC hI hE hl
  obtain ⟨hx, hb, hml, hown, hW⟩ := id S
  have hl : lv_has ls 2 [(0, .ref (γ.2.2.2 12)), (1, .int x1)] := hl
  refine lv_aload_n hx hb dMeanings_isUnknown_0 rfl (lv_at hl 0 rfl) ?_
  refine of_get S hC (of_12_1 hI) in_Meanings rfl (by decide) qw_2a07109efc dMeanings_isUnknown_1 ?_
  refine lv_aload_n hx hb dMeanings_isUnknown_4 rfl (lv_at hl 0 rfl) ?_
  refine of_get S hC (of_12_0 hI) in_Meanings rfl (by decide) qw_c54cffb97e dMeanings_isUnknown_5 ?_
  refine lv_iload_n hx hb dMeanings_isUnknown_8 rfl (lv_at hl 1 rfl) ?_
  refine pu_Vi (rest := [.ref (γ.2.2.2 2)]) S hC (k1_Trees_valueOf l γ A κ x1) meTrees_valueOf qw_b5139988c8 ⟨Nat.le_of_ble_eq_true rfl, Nat.le_of_ble_eq_true rfl⟩ (rv_1 hC hI) hI rfl hl.1 rfl (Nat.le_of_ble_eq_true rfl) dMeanings_isUnknown_9 ⟨Nat.zero_le _, Nat.zero_le _⟩ (fun r4 hr4 => ?_)
  refine pu_Vi (rest := []) S hC (k2_Names_find l γ A κ r4) meNames_find qw_941b68ccbe ⟨Nat.le_of_ble_eq_true rfl, Nat.le_of_ble_eq_true rfl⟩ (rv_2 hC hI) hI rfl hl.1 rfl (Nat.le_of_ble_eq_true rfl) dMeanings_isUnknown_12 ⟨Nat.zero_le _, Nat.zero_le _⟩ (fun r5 hr5 => ?_)
  refine lv_iconst (v := (-1)) hx hb dMeanings_isUnknown_15 (by decide) ?_
  refine lv_icmp_ne (tgt := 23) hx hb dMeanings_isUnknown_16 (by decide) (fun c6 => ?_) (fun c6 => ?_)
  · refine lv_iconst (v := 0) hx hb dMeanings_isUnknown_23 (by decide) ?_
    exact hE _ _ _ rfl trivial dMeanings_isUnknown_24
  · refine lv_iconst (v := 1) hx hb dMeanings_isUnknown_19 (by decide) ?_
    refine lv_goto (tgt := 24) hx hb dMeanings_isUnknown_20 (by decide) ?_
    exact hE _ _ _ rfl trivial dMeanings_isUnknown_24

set_option maxHeartbeats 4000000 in
set_option maxRecDepth 100000 in
theorem k_Meanings_boundOf (l : Launch) (γ : gE) (A : Nat → Prop) (κ : Nat → Nat) (x1 : Int32) (x2 : Int32)  : PU l yMeanings_boundOf bMeanings_boundOf 5 (some .int) 2 42 [.ref (γ.2.2.2 12), .int x1, .int x2] γ (INV γ A κ) (vp_Si (fun v : Int32 => True)) := by
  refine pu_openI (by decide) (Nat.le_of_ble_eq_true rfl) ?_
  intro p e s m args below meth c ls Q S hC hI hE hl
  obtain ⟨hx, hb, hml, hown, hW⟩ := id S
  have hl : lv_has ls 5 [(0, .ref (γ.2.2.2 12)), (1, .int x1), (2, .int x2)] := hl
  refine lv_aload_n hx hb dMeanings_boundOf_0 rfl (lv_at hl 0 rfl) ?_
  refine of_get S hC (of_12_2 hI) in_Meanings rfl (by decide) qw_e2a2dba4a9 dMeanings_boundOf_1 ?_
  refine lv_iload_n hx hb dMeanings_boundOf_4 rfl (lv_at hl 2 rfl) ?_
  refine pu_Vi (rest := []) S hC (k3_Types_leftOf l γ A κ x2) meTypes_leftOf qw_33e16e4dc6 ⟨Nat.le_of_ble_eq_true rfl, Nat.le_of_ble_eq_true rfl⟩ (rv_3 hC hI) hI rfl hl.1 rfl (Nat.le_of_ble_eq_true rfl) dMeanings_boundOf_5 ⟨Nat.zero_le _, Nat.zero_le _⟩ (fun r10 hr10 => ?_)
  refine lv_istore_n (lv' := [(3, .int r10), (0, .ref (γ.2.2.2 12)), (1, .int x1), (2, .int x2)]) hx hb dMeanings_boundOf_8 rfl hl (by decide) rfl (fun ls hl => ?_)
  refine lv_aload_n hx hb dMeanings_boundOf_9 rfl (lv_at hl 1 rfl) ?_
  refine of_get S hC (of_12_2 hI) in_Meanings rfl (by decide) qw_e2a2dba4a9 dMeanings_boundOf_10 ?_
  refine lv_iload_n hx hb dMeanings_boundOf_13 rfl (lv_at hl 3 rfl) ?_
  refine pu_Vi (rest := []) S hC (k3_Types_rightOf l γ A κ x2) meTypes_rightOf qw_8bca252105 ⟨Nat.le_of_ble_eq_true rfl, Nat.le_of_ble_eq_true rfl⟩ (rv_3 hC hI) hI rfl hl.1 rfl (Nat.le_of_ble_eq_true rfl) dMeanings_boundOf_14 ⟨Nat.zero_le _, Nat.zero_le _⟩ (fun r11 hr11 => ?_)
  refine lv_istore (lv' := [(4, .int r11), (3, .int r10), (0, .ref (γ.2.2.2 12)), (1, .int x1), (2, .int x2)]) hx hb dMeanings_boundOf_17 hl (by decide) rfl (fun ls hl => ?_)
  refine lv_iload_n hx hb dMeanings_boundOf_19 rfl (lv_at hl 3 rfl) ?_
  by_cases k12 : x1 = 19
  · subst k12
    refine lv_tableIn (tgt := 52) hx hb dMeanings_boundOf_20 (by decide) (by decide) rfl (by decide) ?_
    refine lv_iload_n hx hb dMeanings_boundOf_52 rfl (lv_at hl 1 rfl) ?_
    exact hE _ _ _ trivial dMeanings_boundOf_53
  by_cases k13 : x1 = 20
  · subst k13
    refine lv_tableIn (tgt := 54) hx hb dMeanings_boundOf_20 (by decide) (by decide) rfl (by decide) ?_
    refine lv_iload hx hb dMeanings_boundOf_54 (lv_at hl 0 rfl) ?_
    exact hE _ _ _ trivial dMeanings_boundOf_56
  by_cases k14 : x1 = 21
  · subst k14
    refine lv_tableIn (tgt := 57) hx hb dMeanings_boundOf_20 (by decide) (by decide) rfl (by decide) ?_
    refine lv_iload_n hx hb dMeanings_boundOf_57 rfl (lv_at hl 1 rfl) ?_
    refine lv_iload hx hb dMeanings_boundOf_58 (lv_at hl 0 rfl) ?_
    refine va_mmax (rest := []) hx hb (hml.trans hl.1.symm) hown (hW _ qw_432ed99f40) (hW _ qw_7cc87a9f9b) (hW _ qw_0001fcaade) (hW _ qw_6b973c1ba4) (Nat.le_of_ble_eq_true rfl) (Nat.le_of_ble_eq_true rfl) (Nat.zero_le _) (Nat.zero_le _) dMeanings_boundOf_60 ?_
    refine lv_topi (fun v15 ev15 => ?_)
    exact hE _ _ _ trivial dMeanings_boundOf_63
  by_cases k16 : x1 = 22
  · subst k16
    refine lv_tableIn (tgt := 64) hx hb dMeanings_boundOf_20 (by decide) (by decide) rfl (by decide) ?_
    refine lv_iload_n hx hb dMeanings_boundOf_64 rfl (lv_at hl 1 rfl) ?_
    refine lv_iload hx hb dMeanings_boundOf_65 (lv_at hl 0 rfl) ?_
    refine va_mmin (rest := []) hx hb (hml.trans hl.1.symm) hown (hW _ qw_883a959cdb) (hW _ qw_1a05fe5770) (hW _ qw_0001fcaade) (hW _ qw_5e99ca5e66) (Nat.le_of_ble_eq_true rfl) (Nat.le_of_ble_eq_true rfl) (Nat.zero_le _) (Nat.zero_le _) dMeanings_boundOf_67 ?_
    refine lv_topi (fun v17 ev17 => ?_)
    exact hE _ _ _ trivial dMeanings_boundOf_70
  refine lv_tableOut (tgt := 71) hx hb dMeanings_boundOf_20 (by have qk12 := lv_neT (a := 19) k12 (by decide); have qk13 := lv_neT (a := 20) k13 (by decide); have qk14 := lv_neT (a := 21) k14 (by decide); have qk16 := lv_neT (a := 22) k16 (by decide); omega) (by decide) ?_
  refine lv_aload_n hx hb dMeanings_boundOf_71 rfl (lv_at hl 2 rfl) ?_
  refine of_get S hC (of_12_2 hI) in_Meanings rfl (by decide) qw_e2a2dba4a9 dMeanings_boundOf_72 ?_
  refine lv_iload_n hx hb dMeanings_boundOf_75 rfl (lv_at hl 4 rfl) ?_
  refine pu_Vi (rest := []) S hC (k3_Types_countOf l γ A κ x2) meTypes_countOf qw_fae60a97b0 ⟨Nat.le_of_ble_eq_true rfl, Nat.le_of_ble_eq_true rfl⟩ (rv_3 hC hI) hI rfl hl.1 rfl (Nat.le_of_ble_eq_true rfl) dMeanings_boundOf_76 ⟨Nat.zero_le _, Nat.zero_le _⟩ (fun r18 hr18 => ?_)
  exact hE _ _ _ trivial dMeanings_boundOf_79

set_option maxHeartbeats 4000000 in
set_option maxRecDepth 100000 in
theorem k_Operators_areOfOneClass (l : Launch) (γ : gE) (A : Nat → Prop) (κ : Nat → Nat) (x1 : Int32) (x2 : Int32)  : PU l yOperators_areOfOneClass bOperators_areOfOneClass 4 (some .boolean) 2 42 [.ref (γ.2.2.2 11), .int x1, .int x2] γ (INV γ A κ) (vp_Si (fun v : Int32 => True)) := by
  refine pu_openZ (by decide) (Nat.le_of_ble_eq_true rfl) ?_
  intro p e s m args below meth c ls Q S hC hI hE hl
  obtain ⟨hx, hb, hml, hown, hW⟩ := id S
  have hl : lv_has ls 4 [(0, .ref (γ.2.2.2 11)), (1, .int x1), (2, .int x2)] := hl
  have J45 : ∀ (ls : Array Slot)  (i1 : Int32) (i2 : Int32) (i3 : Int32), lv_has ls 4 [(0, .ref (γ.2.2.2 11)), (1, .int i1), (2, .int i2), (3, .int i3)] → W p l e (bs_rm 2 0 0 42) s m args below meth c s.heap [] 0 0 Q (F0 m 45 ls []) := by
    intro ls  i1 i2 i3  hl
    refine lv_iconst (v := 1) hx hb dOperators_areOfOneClass_45 (by decide) ?_
    refine lv_goto (tgt := 50) hx hb dOperators_areOfOneClass_46 (by decide) ?_
    exact hE _ _ _ rfl trivial dOperators_areOfOneClass_50
  refine lv_aload_n hx hb dOperators_areOfOneClass_0 rfl (lv_at hl 0 rfl) ?_
  refine of_get S hC (of_11_0 hI) in_Operators rfl (by decide) qw_46160f6e07 dOperators_areOfOneClass_1 ?_
  refine lv_iload_n hx hb dOperators_areOfOneClass_4 rfl (lv_at hl 1 rfl) ?_
  refine pu_Vi (rest := []) S hC (k9_Looks_classOf l γ A κ x1) meLooks_classOf qw_2e1b0e0eff ⟨Nat.le_of_ble_eq_true rfl, Nat.le_of_ble_eq_true rfl⟩ (rv_9 hC hI) hI rfl hl.1 rfl (Nat.le_of_ble_eq_true rfl) dOperators_areOfOneClass_5 ⟨Nat.zero_le _, Nat.zero_le _⟩ (fun r8 hr8 => ?_)
  refine lv_istore_n (lv' := [(3, .int r8), (0, .ref (γ.2.2.2 11)), (1, .int x1), (2, .int x2)]) hx hb dOperators_areOfOneClass_8 rfl hl (by decide) rfl (fun ls hl => ?_)
  refine lv_iload_n hx hb dOperators_areOfOneClass_9 rfl (lv_at hl 0 rfl) ?_
  refine lv_aload_n hx hb dOperators_areOfOneClass_10 rfl (lv_at hl 1 rfl) ?_
  refine of_get S hC (of_11_0 hI) in_Operators rfl (by decide) qw_46160f6e07 dOperators_areOfOneClass_11 ?_
  refine lv_iload_n hx hb dOperators_areOfOneClass_14 rfl (lv_at hl 3 rfl) ?_
  refine pu_Vi (rest := [.int r8]) S hC (k9_Looks_classOf l γ A κ x2) meLooks_classOf qw_2e1b0e0eff ⟨Nat.le_of_ble_eq_true rfl, Nat.le_of_ble_eq_true rfl⟩ (rv_9 hC hI) hI rfl hl.1 rfl (Nat.le_of_ble_eq_true rfl) dOperators_areOfOneClass_15 ⟨Nat.zero_le _, Nat.zero_le _⟩ (fun r9 hr9 => ?_)
  refine lv_icmp_ne (tgt := 49) hx hb dOperators_areOfOneClass_18 (by decide) (fun c10 => ?_) (fun c10 => ?_)
  · refine lv_iconst (v := 0) hx hb dOperators_areOfOneClass_49 (by decide) ?_
    exact hE _ _ _ rfl trivial dOperators_areOfOneClass_50
  · refine lv_iload_n hx hb dOperators_areOfOneClass_21 rfl (lv_at hl 0 rfl) ?_
    refine lv_iconst (v := 4) hx hb dOperators_areOfOneClass_22 (by decide) ?_
    refine lv_icmp_ne (tgt := 45) hx hb dOperators_areOfOneClass_23 (by decide) (fun c11 => ?_) (fun c11 => ?_)
    · exact J45 ls x1 x2 r8 (lv_sub hl [1, 2, 3, 0] rfl)
    · refine lv_aload_n hx hb dOperators_areOfOneClass_26 rfl (lv_at hl 1 rfl) ?_
      refine of_get S hC (of_11_0 hI) in_Operators rfl (by decide) qw_46160f6e07 dOperators_areOfOneClass_27 ?_
      refine lv_iload_n hx hb dOperators_areOfOneClass_30 rfl (lv_at hl 2 rfl) ?_
      refine pu_Vi (rest := []) S hC (k9_Looks_extentOf l γ A κ x1) meLooks_extentOf qw_b0051a6c7a ⟨Nat.le_of_ble_eq_true rfl, Nat.le_of_ble_eq_true rfl⟩ (rv_9 hC hI) hI rfl hl.1 rfl (Nat.le_of_ble_eq_true rfl) dOperators_areOfOneClass_31 ⟨Nat.zero_le _, Nat.zero_le _⟩ (fun r12 hr12 => ?_)
      refine lv_aload_n hx hb dOperators_areOfOneClass_34 rfl (lv_at hl 1 rfl) ?_
      refine of_get S hC (of_11_0 hI) in_Operators rfl (by decide) qw_46160f6e07 dOperators_areOfOneClass_35 ?_
      refine lv_iload_n hx hb dOperators_areOfOneClass_38 rfl (lv_at hl 3 rfl) ?_
      refine pu_Vi (rest := [.int r12]) S hC (k9_Looks_extentOf l γ A κ x2) meLooks_extentOf qw_b0051a6c7a ⟨Nat.le_of_ble_eq_true rfl, Nat.le_of_ble_eq_true rfl⟩ (rv_9 hC hI) hI rfl hl.1 rfl (Nat.le_of_ble_eq_true rfl) dOperators_areOfOneClass_39 ⟨Nat.zero_le _, Nat.zero_le _⟩ (fun r13 hr13 => ?_)
      refine lv_icmp_ne (tgt := 49) hx hb dOperators_areOfOneClass_42 (by decide) (fun c14 => ?_) (fun c14 => ?_)
      · refine lv_iconst (v := 0) hx hb dOperators_areOfOneClass_49 (by decide) ?_
        exact hE _ _ _ rfl trivial dOperators_areOfOneClass_50
      · exact J45 ls x1 x2 r8 (lv_sub hl [1, 2, 3, 0] rfl)

set_option maxHeartbeats 4000000 in
set_option maxRecDepth 100000 in
theorem k_Operators_widthOf (l : Launch) (γ : gE) (A : Nat → Prop) (κ : Nat → Nat) (x1 : Int32)  : PU l yOperators_widthOf bOperators_widthOf 2 (some .int) 2 42 [.ref (γ.2.2.2 11), .int x1] γ (INV γ A κ) (vp_Si (fun v : Int32 => True)) := by
  refine pu_openI (by decide) (Nat.le_of_ble_eq_true rfl) ?_
  intro p e s m args below meth c ls Q S hC hI hE hl
  obtain ⟨hx, hb, hml, hown, hW⟩ := id S
  have hl : lv_has ls 2 [(0, .ref (γ.2.2.2 11)), (1, .int x1)] := hl
  refine lv_aload_n hx hb dOperators_widthOf_0 rfl (lv_at hl 0 rfl) ?_
  refine of_get S hC (of_11_0 hI) in_Operators rfl (by decide) qw_46160f6e07 dOperators_widthOf_1 ?_
  refine lv_iload_n hx hb dOperators_widthOf_4 rfl (lv_at hl 1 rfl) ?_
  refine pu_Vi (rest := []) S hC (k9_Looks_classOf l γ A κ x1) meLooks_classOf qw_2e1b0e0eff ⟨Nat.le_of_ble_eq_true rfl, Nat.le_of_ble_eq_true rfl⟩ (rv_9 hC hI) hI rfl hl.1 rfl (Nat.le_of_ble_eq_true rfl) dOperators_widthOf_5 ⟨Nat.zero_le _, Nat.zero_le _⟩ (fun r4 hr4 => ?_)
  refine lv_iconst (v := 3) hx hb dOperators_widthOf_8 (by decide) ?_
  refine lv_icmp_ne (tgt := 23) hx hb dOperators_widthOf_9 (by decide) (fun c5 => ?_) (fun c5 => ?_)
  · refine lv_iconst (v := 1) hx hb dOperators_widthOf_23 (by decide) ?_
    exact hE _ _ _ trivial dOperators_widthOf_24
  · refine lv_aload_n hx hb dOperators_widthOf_12 rfl (lv_at hl 0 rfl) ?_
    refine of_get S hC (of_11_0 hI) in_Operators rfl (by decide) qw_46160f6e07 dOperators_widthOf_13 ?_
    refine lv_iload_n hx hb dOperators_widthOf_16 rfl (lv_at hl 1 rfl) ?_
    refine pu_Vi (rest := []) S hC (k9_Looks_extentOf l γ A κ x1) meLooks_extentOf qw_b0051a6c7a ⟨Nat.le_of_ble_eq_true rfl, Nat.le_of_ble_eq_true rfl⟩ (rv_9 hC hI) hI rfl hl.1 rfl (Nat.le_of_ble_eq_true rfl) dOperators_widthOf_17 ⟨Nat.zero_le _, Nat.zero_le _⟩ (fun r6 hr6 => ?_)
    refine lv_goto (tgt := 24) hx hb dOperators_widthOf_20 (by decide) ?_
    exact hE _ _ _ trivial dOperators_widthOf_24

set_option maxHeartbeats 4000000 in
set_option maxRecDepth 100000 in
theorem k_Operators_resultLength (l : Launch) (γ : gE) (A : Nat → Prop) (κ : Nat → Nat) (x1 : Int32) (x2 : Int32) (x3 : Int32)  : PU l yOperators_resultLength bOperators_resultLength 4 (some .int) 3 63 [.ref (γ.2.2.2 11), .int x1, .int x2, .int x3] γ (INV γ A κ) (vp_Si (fun v : Int32 => True)) := by
  refine pu_openI (by decide) (Nat.le_of_ble_eq_true rfl) ?_
  intro p e s m args below meth c ls Q S hC hI hE hl
  obtain ⟨hx, hb, hml, hown, hW⟩ := id S
  have hl : lv_has ls 4 [(0, .ref (γ.2.2.2 11)), (1, .int x1), (2, .int x2), (3, .int x3)] := hl
  refine lv_iload_n hx hb dOperators_resultLength_0 rfl (lv_at hl 1 rfl) ?_
  refine lv_bipush (v := 14) hx hb dOperators_resultLength_1 (by decide) ?_
  refine lv_icmp_ne (tgt := 18) hx hb dOperators_resultLength_3 (by decide) (fun c9 => ?_) (fun c9 => ?_)
  · refine lv_aload_n hx hb dOperators_resultLength_18 rfl (lv_at hl 0 rfl) ?_
    refine of_get S hC (of_11_0 hI) in_Operators rfl (by decide) qw_46160f6e07 dOperators_resultLength_19 ?_
    refine lv_iload_n hx hb dOperators_resultLength_22 rfl (lv_at hl 2 rfl) ?_
    refine pu_Vi (rest := []) S hC (k9_Looks_classOf l γ A κ x2) meLooks_classOf qw_2e1b0e0eff ⟨Nat.le_of_ble_eq_true rfl, Nat.le_of_ble_eq_true rfl⟩ (rv_9 hC hI) hI rfl hl.1 rfl (Nat.le_of_ble_eq_true rfl) dOperators_resultLength_23 ⟨Nat.zero_le _, Nat.zero_le _⟩ (fun r10 hr10 => ?_)
    refine lv_iconst (v := 3) hx hb dOperators_resultLength_26 (by decide) ?_
    refine lv_icmp_ne (tgt := 41) hx hb dOperators_resultLength_27 (by decide) (fun c11 => ?_) (fun c11 => ?_)
    · refine lv_aload_n hx hb dOperators_resultLength_41 rfl (lv_at hl 0 rfl) ?_
      refine of_get S hC (of_11_0 hI) in_Operators rfl (by decide) qw_46160f6e07 dOperators_resultLength_42 ?_
      refine lv_iload_n hx hb dOperators_resultLength_45 rfl (lv_at hl 3 rfl) ?_
      refine pu_Vi (rest := []) S hC (k9_Looks_extentOf l γ A κ x3) meLooks_extentOf qw_b0051a6c7a ⟨Nat.le_of_ble_eq_true rfl, Nat.le_of_ble_eq_true rfl⟩ (rv_9 hC hI) hI rfl hl.1 rfl (Nat.le_of_ble_eq_true rfl) dOperators_resultLength_46 ⟨Nat.zero_le _, Nat.zero_le _⟩ (fun r12 hr12 => ?_)
      exact hE _ _ _ trivial dOperators_resultLength_49
    · refine lv_aload_n hx hb dOperators_resultLength_30 rfl (lv_at hl 0 rfl) ?_
      refine of_get S hC (of_11_0 hI) in_Operators rfl (by decide) qw_46160f6e07 dOperators_resultLength_31 ?_
      refine lv_iload_n hx hb dOperators_resultLength_34 rfl (lv_at hl 2 rfl) ?_
      refine pu_Vi (rest := []) S hC (k9_Looks_extentOf l γ A κ x2) meLooks_extentOf qw_b0051a6c7a ⟨Nat.le_of_ble_eq_true rfl, Nat.le_of_ble_eq_true rfl⟩ (rv_9 hC hI) hI rfl hl.1 rfl (Nat.le_of_ble_eq_true rfl) dOperators_resultLength_35 ⟨Nat.zero_le _, Nat.zero_le _⟩ (fun r13 hr13 => ?_)
      refine lv_goto (tgt := 49) hx hb dOperators_resultLength_38 (by decide) ?_
      exact hE _ _ _ trivial dOperators_resultLength_49
  · refine lv_aload_n hx hb dOperators_resultLength_6 rfl (lv_at hl 0 rfl) ?_
    refine lv_iload_n hx hb dOperators_resultLength_7 rfl (lv_at hl 2 rfl) ?_
    refine pu_Vi (rest := []) S hC (k_Operators_widthOf l γ A κ x2) meOperators_widthOf qw_c3b3c98375 ⟨Nat.le_of_ble_eq_true rfl, Nat.le_of_ble_eq_true rfl⟩ (rv_11 hC hI) hI rfl hl.1 rfl (Nat.le_of_ble_eq_true rfl) dOperators_resultLength_8 ⟨Nat.zero_le _, Nat.zero_le _⟩ (fun r14 hr14 => ?_)
    refine lv_aload_n hx hb dOperators_resultLength_11 rfl (lv_at hl 0 rfl) ?_
    refine lv_iload_n hx hb dOperators_resultLength_12 rfl (lv_at hl 3 rfl) ?_
    refine pu_Vi (rest := [.int r14]) S hC (k_Operators_widthOf l γ A κ x3) meOperators_widthOf qw_c3b3c98375 ⟨Nat.le_of_ble_eq_true rfl, Nat.le_of_ble_eq_true rfl⟩ (rv_11 hC hI) hI rfl hl.1 rfl (Nat.le_of_ble_eq_true rfl) dOperators_resultLength_13 ⟨Nat.zero_le _, Nat.zero_le _⟩ (fun r15 hr15 => ?_)
    refine lv_iadd hx hb dOperators_resultLength_16 ?_
    refine lv_topi (fun v16 ev16 => ?_)
    exact hE _ _ _ trivial dOperators_resultLength_17
theorem qw_0526218670 : (Cond.methodLink R_Operators 98 yOperators_areOfOneClass) ∈ bs_W0 := bs_in (in_tables_1_3 (List.mem_of_getElem? (i := 238) rfl)) rfl
theorem qn_de7362ca2e : (Cond.fieldLinkNest R_Operators 48 R_Looks "rows" "LTypeBook$Rows;" "TypeBook") ∈ lw_tbl := in_tables_1_1 (List.mem_of_getElem? (i := 209) rfl)
theorem qw_0d8e65883a : (Cond.methodLink R_Operators 130 yRows_isClear) ∈ bs_W0 := bs_in (in_tables_1_4 (List.mem_of_getElem? (i := 60) rfl)) rfl
theorem qw_567f1aae5f : (Cond.methodLink R_Operators 36 yLooks_numberOf) ∈ bs_W0 := bs_in (in_tables_1_3 (List.mem_of_getElem? (i := 206) rfl)) rfl
theorem qw_1bb8bfda8f : (Cond.methodLink R_Operators 132 yRows_bitsOf) ∈ bs_W0 := bs_in (in_tables_1_4 (List.mem_of_getElem? (i := 70) rfl)) rfl
theorem qw_2b8ebea4b9 : (Cond.methodLink R_Operators 52 yRows_get) ∈ bs_W0 := bs_in (in_tables_1_3 (List.mem_of_getElem? (i := 220) rfl)) rfl
theorem qw_a34bb4dff1 : (Cond.methodLink R_Operators 111 yjInteger_compare) ∈ bs_W0 := bs_in (in_tables_1_4 (List.mem_of_getElem? (i := 53) rfl)) rfl
theorem qw_9422e74c3c : (Cond.methodLink R_Operators 116 yOperators_isClear) ∈ bs_W0 := bs_in (in_tables_1_4 (List.mem_of_getElem? (i := 56) rfl)) rfl
theorem qw_1ec68b5307 : (Cond.methodLink R_Operators 119 yOperators_countsAs) ∈ bs_W0 := bs_in (in_tables_1_4 (List.mem_of_getElem? (i := 66) rfl)) rfl
theorem qw_ea81ec05e8 : (Cond.constantLong R_Operators 123 (-9223372036854775808)) ∈ bs_W0 := bs_in (in_tables_1_4 (List.mem_of_getElem? (i := 75) rfl)) rfl
theorem qw_e0d1ecf615 : (Cond.methodLink R_Operators 125 yjLong_compare) ∈ bs_W0 := bs_in (in_tables_1_4 (List.mem_of_getElem? (i := 76) rfl)) rfl
theorem qw_464f80981e : (Cond.fieldLink R_TypeBook 53 R_TypeBook "faultNode" "I") ∈ bs_W0 := bs_in (in_tables_1_2 (List.mem_of_getElem? (i := 58) rfl)) rfl
theorem qw_6151ee7924 : (Cond.fieldLink R_TypeBook 10 R_TypeBook "trees" "LTypeBook$Trees;") ∈ bs_W0 := bs_in (in_tables_1_2 (List.mem_of_getElem? (i := 52) rfl)) rfl
theorem qw_1062a20d6a : (Cond.methodLink R_TypeBook 168 yTrees_valueOf) ∈ bs_W0 := bs_in (in_tables_1_5 (List.mem_of_getElem? (i := 27) rfl)) rfl
set_option maxHeartbeats 4000000 in
set_option maxRecDepth 100000 in
theorem k_Operators_resultClass (l : Launch) (γ : gE) (A : Nat → Prop) (κ : Nat → Nat) (x1 : Int32) (x2 : Int32) (x3 : Int32)  : PU l yOperators_resultClass bOperators_resultClass 8 (some .int) 3 65 [.ref (γ.2.2.2 11), .int x1, .int x2, .int x3] γ (INV γ A κ) (vp_Si (fun v : Int32 => True)) := by
  refine pu_openI (by decide) (Nat.le_of_ble_eq_true rfl) ?_
  intro p e s m args below meth c ls Q S hC hI hE hl
  obtain ⟨hx, hb, hml, hown, hW⟩ := id S
  have hl : lv_has ls 8 [(0, .ref (γ.2.2.2 11)), (1, .int x1), (2, .int x2), (3, .int x3)] := hl
  have J213 : ∀ (ls : Array Slot)  (i1 : Int32) (i2 : Int32) (i3 : Int32) (i4 : Int32) (i5 : Int32) (i6 : Int32), lv_has ls 8 [(0, .ref (γ.2.2.2 11)), (1, .int i1), (2, .int i2), (3, .int i3), (4, .int i4), (5, .int i5), (6, .int i6)] → W p l e (bs_rm 3 0 0 65) s m args below meth c s.heap [] 0 0 Q (F0 m 213 ls []) := by
    intro ls  i1 i2 i3 i4 i5 i6  hl
    refine lv_iconst (v := 3) hx hb dOperators_resultClass_213 (by decide) ?_
    refine lv_goto (tgt := 218) hx hb dOperators_resultClass_214 (by decide) ?_
    exact hE _ _ _ trivial dOperators_resultClass_218
  have J202 : ∀ (ls : Array Slot)  (i1 : Int32) (i2 : Int32) (i3 : Int32) (i4 : Int32) (i5 : Int32) (i6 : Int32), lv_has ls 8 [(0, .ref (γ.2.2.2 11)), (1, .int i1), (2, .int i2), (3, .int i3), (4, .int i4), (5, .int i5), (6, .int i6)] → W p l e (bs_rm 3 0 0 65) s m args below meth c s.heap [] 0 0 Q (F0 m 202 ls []) := by
    intro ls  i1 i2 i3 i4 i5 i6  hl
    refine lv_iload hx hb dOperators_resultClass_202 (lv_at hl 5 rfl) ?_
    refine lv_iconst (v := 3) hx hb dOperators_resultClass_204 (by decide) ?_
    refine lv_icmp_eq (tgt := 213) hx hb dOperators_resultClass_205 (by decide) (fun c34 => ?_) (fun c34 => ?_)
    · exact J213 ls i1 i2 i3 i4 i5 i6 (lv_sub hl [0, 1, 2, 3, 4, 5, 6] rfl)
    · refine lv_iload hx hb dOperators_resultClass_208 (lv_at hl 5 rfl) ?_
      refine lv_if_ne (tgt := 217) hx hb dOperators_resultClass_210 (by decide) (fun c35 => ?_) (fun c35 => ?_)
      · refine lv_iconst (v := (-1)) hx hb dOperators_resultClass_217 (by decide) ?_
        exact hE _ _ _ trivial dOperators_resultClass_218
      · exact J213 ls i1 i2 i3 i4 i5 i6 (lv_sub hl [0, 1, 2, 3, 4, 5, 6] rfl)
  have J163 : ∀ (ls : Array Slot)  (i1 : Int32) (i2 : Int32) (i3 : Int32) (i4 : Int32) (i5 : Int32) (i6 : Int32) (t0 : Int32), lv_has ls 8 [(0, .ref (γ.2.2.2 11)), (1, .int i1), (2, .int i2), (3, .int i3), (4, .int i4), (5, .int i5), (6, .int i6)] → W p l e (bs_rm 3 0 0 65) s m args below meth c s.heap [] 0 0 Q (F0 m 163 ls [.int t0]) := by
    intro ls  i1 i2 i3 i4 i5 i6 t0  hl
    refine lv_istore (lv' := [(7, .int t0), (0, .ref (γ.2.2.2 11)), (1, .int i1), (2, .int i2), (3, .int i3), (4, .int i4), (5, .int i5), (6, .int i6)]) hx hb dOperators_resultClass_163 hl (by decide) rfl (fun ls hl => ?_)
    refine lv_iload hx hb dOperators_resultClass_165 (lv_at hl 7 rfl) ?_
    refine lv_if_eq (tgt := 174) hx hb dOperators_resultClass_167 (by decide) (fun c36 => ?_) (fun c36 => ?_)
    · refine lv_iload hx hb dOperators_resultClass_174 (lv_at hl 0 rfl) ?_
      refine lv_if_eq (tgt := 183) hx hb dOperators_resultClass_176 (by decide) (fun c37 => ?_) (fun c37 => ?_)
      · refine lv_iconst (v := (-1)) hx hb dOperators_resultClass_183 (by decide) ?_
        exact hE _ _ _ trivial dOperators_resultClass_184
      · refine lv_iconst (v := 3) hx hb dOperators_resultClass_179 (by decide) ?_
        refine lv_goto (tgt := 184) hx hb dOperators_resultClass_180 (by decide) ?_
        exact hE _ _ _ trivial dOperators_resultClass_184
    · refine lv_iconst (v := 2) hx hb dOperators_resultClass_170 (by decide) ?_
      refine lv_goto (tgt := 184) hx hb dOperators_resultClass_171 (by decide) ?_
      exact hE _ _ _ trivial dOperators_resultClass_184
  have J162 : ∀ (ls : Array Slot)  (i1 : Int32) (i2 : Int32) (i3 : Int32) (i4 : Int32) (i5 : Int32) (i6 : Int32), lv_has ls 8 [(0, .ref (γ.2.2.2 11)), (1, .int i1), (2, .int i2), (3, .int i3), (4, .int i4), (5, .int i5), (6, .int i6)] → W p l e (bs_rm 3 0 0 65) s m args below meth c s.heap [] 0 0 Q (F0 m 162 ls []) := by
    intro ls  i1 i2 i3 i4 i5 i6  hl
    refine lv_iconst (v := 0) hx hb dOperators_resultClass_162 (by decide) ?_
    exact J163 ls i1 i2 i3 i4 i5 i6 0 (lv_sub hl [0, 1, 2, 3, 4, 5, 6] rfl)
  have J158 : ∀ (ls : Array Slot)  (i1 : Int32) (i2 : Int32) (i3 : Int32) (i4 : Int32) (i5 : Int32) (i6 : Int32), lv_has ls 8 [(0, .ref (γ.2.2.2 11)), (1, .int i1), (2, .int i2), (3, .int i3), (4, .int i4), (5, .int i5), (6, .int i6)] → W p l e (bs_rm 3 0 0 65) s m args below meth c s.heap [] 0 0 Q (F0 m 158 ls []) := by
    intro ls  i1 i2 i3 i4 i5 i6  hl
    refine lv_iconst (v := 1) hx hb dOperators_resultClass_158 (by decide) ?_
    refine lv_goto (tgt := 163) hx hb dOperators_resultClass_159 (by decide) ?_
    exact J163 ls i1 i2 i3 i4 i5 i6 1 (lv_sub hl [0, 1, 2, 3, 4, 5, 6] rfl)
  have J146 : ∀ (ls : Array Slot)  (i1 : Int32) (i2 : Int32) (i3 : Int32) (i4 : Int32) (i5 : Int32) (i6 : Int32), lv_has ls 8 [(0, .ref (γ.2.2.2 11)), (1, .int i1), (2, .int i2), (3, .int i3), (4, .int i4), (5, .int i5), (6, .int i6)] → W p l e (bs_rm 3 0 0 65) s m args below meth c s.heap [] 0 0 Q (F0 m 146 ls []) := by
    intro ls  i1 i2 i3 i4 i5 i6  hl
    refine lv_iload hx hb dOperators_resultClass_146 (lv_at hl 5 rfl) ?_
    refine lv_iconst (v := 3) hx hb dOperators_resultClass_148 (by decide) ?_
    refine lv_icmp_eq (tgt := 158) hx hb dOperators_resultClass_149 (by decide) (fun c38 => ?_) (fun c38 => ?_)
    · exact J158 ls i1 i2 i3 i4 i5 i6 (lv_sub hl [0, 1, 2, 3, 4, 5, 6] rfl)
    · refine lv_iload hx hb dOperators_resultClass_152 (lv_at hl 5 rfl) ?_
      refine lv_iconst (v := 2) hx hb dOperators_resultClass_154 (by decide) ?_
      refine lv_icmp_ne (tgt := 162) hx hb dOperators_resultClass_155 (by decide) (fun c39 => ?_) (fun c39 => ?_)
      · exact J162 ls i1 i2 i3 i4 i5 i6 (lv_sub hl [0, 1, 2, 3, 4, 5, 6] rfl)
      · exact J158 ls i1 i2 i3 i4 i5 i6 (lv_sub hl [0, 1, 2, 3, 4, 5, 6] rfl)
  have J126 : ∀ (ls : Array Slot)  (i1 : Int32) (i2 : Int32) (i3 : Int32) (i4 : Int32) (i5 : Int32) (t0 : Int32), lv_has ls 8 [(0, .ref (γ.2.2.2 11)), (1, .int i1), (2, .int i2), (3, .int i3), (4, .int i4), (5, .int i5)] → W p l e (bs_rm 3 0 0 65) s m args below meth c s.heap [] 0 0 Q (F0 m 126 ls [.int t0]) := by
    intro ls  i1 i2 i3 i4 i5 t0  hl
    refine lv_istore (lv' := [(6, .int t0), (0, .ref (γ.2.2.2 11)), (1, .int i1), (2, .int i2), (3, .int i3), (4, .int i4), (5, .int i5)]) hx hb dOperators_resultClass_126 hl (by decide) rfl (fun ls hl => ?_)
    refine lv_iload_n hx hb dOperators_resultClass_128 rfl (lv_at hl 2 rfl) ?_
    refine lv_bipush (v := 13) hx hb dOperators_resultClass_129 (by decide) ?_
    refine lv_icmp_gt (tgt := 185) hx hb dOperators_resultClass_131 (by decide) (fun c40 => ?_) (fun c40 => ?_)
    · refine lv_iload_n hx hb dOperators_resultClass_185 rfl (lv_at hl 2 rfl) ?_
      refine lv_bipush (v := 14) hx hb dOperators_resultClass_186 (by decide) ?_
      refine lv_icmp_ne (tgt := 219) hx hb dOperators_resultClass_188 (by decide) (fun c41 => ?_) (fun c41 => ?_)
      · refine lv_iload_n hx hb dOperators_resultClass_219 rfl (lv_at hl 2 rfl) ?_
        refine lv_bipush (v := 18) hx hb dOperators_resultClass_220 (by decide) ?_
        refine lv_icmp_gt (tgt := 236) hx hb dOperators_resultClass_222 (by decide) (fun c42 => ?_) (fun c42 => ?_)
        · refine lv_iload hx hb dOperators_resultClass_236 (lv_at hl 5 rfl) ?_
          refine lv_iconst (v := 3) hx hb dOperators_resultClass_238 (by decide) ?_
          refine lv_icmp_ne (tgt := 252) hx hb dOperators_resultClass_239 (by decide) (fun c43 => ?_) (fun c43 => ?_)
          · refine lv_iconst (v := (-1)) hx hb dOperators_resultClass_252 (by decide) ?_
            exact hE _ _ _ trivial dOperators_resultClass_253
          · refine lv_iload hx hb dOperators_resultClass_242 (lv_at hl 6 rfl) ?_
            refine lv_iconst (v := 2) hx hb dOperators_resultClass_244 (by decide) ?_
            refine lv_icmp_ne (tgt := 252) hx hb dOperators_resultClass_245 (by decide) (fun c44 => ?_) (fun c44 => ?_)
            · refine lv_iconst (v := (-1)) hx hb dOperators_resultClass_252 (by decide) ?_
              exact hE _ _ _ trivial dOperators_resultClass_253
            · refine lv_iconst (v := 3) hx hb dOperators_resultClass_248 (by decide) ?_
              refine lv_goto (tgt := 253) hx hb dOperators_resultClass_249 (by decide) ?_
              exact hE _ _ _ trivial dOperators_resultClass_253
        · refine lv_iload hx hb dOperators_resultClass_225 (lv_at hl 0 rfl) ?_
          refine lv_if_eq (tgt := 234) hx hb dOperators_resultClass_227 (by decide) (fun c45 => ?_) (fun c45 => ?_)
          · refine lv_iconst (v := (-1)) hx hb dOperators_resultClass_234 (by decide) ?_
            exact hE _ _ _ trivial dOperators_resultClass_235
          · refine lv_iconst (v := 2) hx hb dOperators_resultClass_230 (by decide) ?_
            refine lv_goto (tgt := 235) hx hb dOperators_resultClass_231 (by decide) ?_
            exact hE _ _ _ trivial dOperators_resultClass_235
      · refine lv_iload hx hb dOperators_resultClass_191 (lv_at hl 5 rfl) ?_
        refine lv_iconst (v := 3) hx hb dOperators_resultClass_193 (by decide) ?_
        refine lv_icmp_eq (tgt := 202) hx hb dOperators_resultClass_194 (by decide) (fun c46 => ?_) (fun c46 => ?_)
        · exact J202 ls i1 i2 i3 i4 i5 t0 (lv_sub hl [1, 2, 3, 4, 5, 6, 0] rfl)
        · refine lv_iload hx hb dOperators_resultClass_197 (lv_at hl 5 rfl) ?_
          refine lv_if_ne (tgt := 217) hx hb dOperators_resultClass_199 (by decide) (fun c47 => ?_) (fun c47 => ?_)
          · refine lv_iconst (v := (-1)) hx hb dOperators_resultClass_217 (by decide) ?_
            exact hE _ _ _ trivial dOperators_resultClass_218
          · exact J202 ls i1 i2 i3 i4 i5 t0 (lv_sub hl [1, 2, 3, 4, 5, 6, 0] rfl)
    · refine lv_iload hx hb dOperators_resultClass_134 (lv_at hl 5 rfl) ?_
      refine lv_iconst (v := 3) hx hb dOperators_resultClass_136 (by decide) ?_
      refine lv_icmp_eq (tgt := 146) hx hb dOperators_resultClass_137 (by decide) (fun c48 => ?_) (fun c48 => ?_)
      · exact J146 ls i1 i2 i3 i4 i5 t0 (lv_sub hl [1, 2, 3, 4, 5, 6, 0] rfl)
      · refine lv_iload hx hb dOperators_resultClass_140 (lv_at hl 5 rfl) ?_
        refine lv_iconst (v := 2) hx hb dOperators_resultClass_142 (by decide) ?_
        refine lv_icmp_ne (tgt := 162) hx hb dOperators_resultClass_143 (by decide) (fun c49 => ?_) (fun c49 => ?_)
        · exact J162 ls i1 i2 i3 i4 i5 t0 (lv_sub hl [1, 2, 3, 4, 5, 6, 0] rfl)
        · exact J146 ls i1 i2 i3 i4 i5 t0 (lv_sub hl [1, 2, 3, 4, 5, 6, 0] rfl)
  have J125 : ∀ (ls : Array Slot)  (i1 : Int32) (i2 : Int32) (i3 : Int32) (i4 : Int32) (i5 : Int32), lv_has ls 8 [(0, .ref (γ.2.2.2 11)), (1, .int i1), (2, .int i2), (3, .int i3), (4, .int i4), (5, .int i5)] → W p l e (bs_rm 3 0 0 65) s m args below meth c s.heap [] 0 0 Q (F0 m 125 ls []) := by
    intro ls  i1 i2 i3 i4 i5  hl
    refine lv_iconst (v := 0) hx hb dOperators_resultClass_125 (by decide) ?_
    exact J126 ls i1 i2 i3 i4 i5 0 (lv_sub hl [0, 1, 2, 3, 4, 5] rfl)
  have J49 : ∀ (ls : Array Slot)  (i1 : Int32) (i2 : Int32) (i3 : Int32) (i4 : Int32) (i5 : Int32), lv_has ls 8 [(0, .ref (γ.2.2.2 11)), (1, .int i1), (2, .int i2), (3, .int i3), (4, .int i4), (5, .int i5)] → W p l e (bs_rm 3 0 0 65) s m args below meth c s.heap [] 0 0 Q (F0 m 49 ls []) := by
    intro ls  i1 i2 i3 i4 i5  hl
    refine lv_iload hx hb dOperators_resultClass_49 (lv_at hl 4 rfl) ?_
    refine lv_goto (tgt := 55) hx hb dOperators_resultClass_51 (by decide) ?_
    exact hE _ _ _ trivial dOperators_resultClass_55
  refine lv_aload_n hx hb dOperators_resultClass_0 rfl (lv_at hl 0 rfl) ?_
  refine of_get S hC (of_11_0 hI) in_Operators rfl (by decide) qw_46160f6e07 dOperators_resultClass_1 ?_
  refine lv_iload_n hx hb dOperators_resultClass_4 rfl (lv_at hl 2 rfl) ?_
  refine pu_Vi (rest := []) S hC (k9_Looks_classOf l γ A κ x2) meLooks_classOf qw_2e1b0e0eff ⟨Nat.le_of_ble_eq_true rfl, Nat.le_of_ble_eq_true rfl⟩ (rv_9 hC hI) hI rfl hl.1 rfl (Nat.le_of_ble_eq_true rfl) dOperators_resultClass_5 ⟨Nat.zero_le _, Nat.zero_le _⟩ (fun r50 hr50 => ?_)
  refine lv_istore (lv' := [(4, .int r50), (0, .ref (γ.2.2.2 11)), (1, .int x1), (2, .int x2), (3, .int x3)]) hx hb dOperators_resultClass_8 hl (by decide) rfl (fun ls hl => ?_)
  refine lv_aload_n hx hb dOperators_resultClass_10 rfl (lv_at hl 1 rfl) ?_
  refine of_get S hC (of_11_0 hI) in_Operators rfl (by decide) qw_46160f6e07 dOperators_resultClass_11 ?_
  refine lv_iload_n hx hb dOperators_resultClass_14 rfl (lv_at hl 4 rfl) ?_
  refine pu_Vi (rest := []) S hC (k9_Looks_classOf l γ A κ x3) meLooks_classOf qw_2e1b0e0eff ⟨Nat.le_of_ble_eq_true rfl, Nat.le_of_ble_eq_true rfl⟩ (rv_9 hC hI) hI rfl hl.1 rfl (Nat.le_of_ble_eq_true rfl) dOperators_resultClass_15 ⟨Nat.zero_le _, Nat.zero_le _⟩ (fun r51 hr51 => ?_)
  refine lv_istore (lv' := [(5, .int r51), (4, .int r50), (0, .ref (γ.2.2.2 11)), (1, .int x1), (2, .int x2), (3, .int x3)]) hx hb dOperators_resultClass_18 hl (by decide) rfl (fun ls hl => ?_)
  refine lv_iload_n hx hb dOperators_resultClass_20 rfl (lv_at hl 3 rfl) ?_
  refine lv_iconst (v := 5) hx hb dOperators_resultClass_21 (by decide) ?_
  refine lv_icmp_gt (tgt := 56) hx hb dOperators_resultClass_22 (by decide) (fun c52 => ?_) (fun c52 => ?_)
  · refine lv_iload_n hx hb dOperators_resultClass_56 rfl (lv_at hl 3 rfl) ?_
    refine lv_bipush (v := 7) hx hb dOperators_resultClass_57 (by decide) ?_
    refine lv_icmp_gt (tgt := 77) hx hb dOperators_resultClass_59 (by decide) (fun c53 => ?_) (fun c53 => ?_)
    · refine lv_iload_n hx hb dOperators_resultClass_77 rfl (lv_at hl 3 rfl) ?_
      refine lv_bipush (v := 11) hx hb dOperators_resultClass_78 (by decide) ?_
      refine lv_icmp_gt (tgt := 109) hx hb dOperators_resultClass_80 (by decide) (fun c54 => ?_) (fun c54 => ?_)
      · refine lv_iload hx hb dOperators_resultClass_109 (lv_at hl 1 rfl) ?_
        refine lv_iconst (v := 2) hx hb dOperators_resultClass_111 (by decide) ?_
        refine lv_icmp_ne (tgt := 125) hx hb dOperators_resultClass_112 (by decide) (fun c55 => ?_) (fun c55 => ?_)
        · exact J125 ls x1 x2 x3 r50 r51 (lv_sub hl [2, 3, 4, 5, 1, 0] rfl)
        · refine lv_iload hx hb dOperators_resultClass_115 (lv_at hl 0 rfl) ?_
          refine lv_iconst (v := 2) hx hb dOperators_resultClass_117 (by decide) ?_
          refine lv_icmp_ne (tgt := 125) hx hb dOperators_resultClass_118 (by decide) (fun c56 => ?_) (fun c56 => ?_)
          · exact J125 ls x1 x2 x3 r50 r51 (lv_sub hl [2, 3, 4, 5, 1, 0] rfl)
          · refine lv_iconst (v := 1) hx hb dOperators_resultClass_121 (by decide) ?_
            refine lv_goto (tgt := 126) hx hb dOperators_resultClass_122 (by decide) ?_
            exact J126 ls x1 x2 x3 r50 r51 1 (lv_sub hl [2, 3, 4, 5, 1, 0] rfl)
      · refine lv_aload_n hx hb dOperators_resultClass_83 rfl (lv_at hl 2 rfl) ?_
        refine lv_iload_n hx hb dOperators_resultClass_84 rfl (lv_at hl 4 rfl) ?_
        refine lv_iload_n hx hb dOperators_resultClass_85 rfl (lv_at hl 5 rfl) ?_
        refine pu_Vi (rest := []) S hC (k_Operators_areOfOneClass l γ A κ x2 x3) meOperators_areOfOneClass qw_0526218670 ⟨Nat.le_of_ble_eq_true rfl, Nat.le_of_ble_eq_true rfl⟩ (rv_11 hC hI) hI rfl hl.1 rfl (Nat.le_of_ble_eq_true rfl) dOperators_resultClass_86 ⟨Nat.zero_le _, Nat.zero_le _⟩ (fun r57 hr57 => ?_)
        refine lv_if_eq (tgt := 107) hx hb dOperators_resultClass_89 (by decide) (fun c58 => ?_) (fun c58 => ?_)
        · refine lv_iconst (v := (-1)) hx hb dOperators_resultClass_107 (by decide) ?_
          exact hE _ _ _ trivial dOperators_resultClass_108
        · refine lv_iload hx hb dOperators_resultClass_92 (lv_at hl 1 rfl) ?_
          refine lv_iconst (v := 1) hx hb dOperators_resultClass_94 (by decide) ?_
          refine lv_icmp_eq (tgt := 107) hx hb dOperators_resultClass_95 (by decide) (fun c59 => ?_) (fun c59 => ?_)
          · refine lv_iconst (v := (-1)) hx hb dOperators_resultClass_107 (by decide) ?_
            exact hE _ _ _ trivial dOperators_resultClass_108
          · refine lv_iload hx hb dOperators_resultClass_98 (lv_at hl 1 rfl) ?_
            refine lv_if_eq (tgt := 107) hx hb dOperators_resultClass_100 (by decide) (fun c60 => ?_) (fun c60 => ?_)
            · refine lv_iconst (v := (-1)) hx hb dOperators_resultClass_107 (by decide) ?_
              exact hE _ _ _ trivial dOperators_resultClass_108
            · refine lv_iconst (v := 1) hx hb dOperators_resultClass_103 (by decide) ?_
              refine lv_goto (tgt := 108) hx hb dOperators_resultClass_104 (by decide) ?_
              exact hE _ _ _ trivial dOperators_resultClass_108
    · refine lv_aload_n hx hb dOperators_resultClass_62 rfl (lv_at hl 2 rfl) ?_
      refine lv_iload_n hx hb dOperators_resultClass_63 rfl (lv_at hl 4 rfl) ?_
      refine lv_iload_n hx hb dOperators_resultClass_64 rfl (lv_at hl 5 rfl) ?_
      refine pu_Vi (rest := []) S hC (k_Operators_areOfOneClass l γ A κ x2 x3) meOperators_areOfOneClass qw_0526218670 ⟨Nat.le_of_ble_eq_true rfl, Nat.le_of_ble_eq_true rfl⟩ (rv_11 hC hI) hI rfl hl.1 rfl (Nat.le_of_ble_eq_true rfl) dOperators_resultClass_65 ⟨Nat.zero_le _, Nat.zero_le _⟩ (fun r61 hr61 => ?_)
      refine lv_if_eq (tgt := 75) hx hb dOperators_resultClass_68 (by decide) (fun c62 => ?_) (fun c62 => ?_)
      · refine lv_iconst (v := (-1)) hx hb dOperators_resultClass_75 (by decide) ?_
        exact hE _ _ _ trivial dOperators_resultClass_76
      · refine lv_iconst (v := 1) hx hb dOperators_resultClass_71 (by decide) ?_
        refine lv_goto (tgt := 76) hx hb dOperators_resultClass_72 (by decide) ?_
        exact hE _ _ _ trivial dOperators_resultClass_76
  · refine lv_iload hx hb dOperators_resultClass_25 (lv_at hl 1 rfl) ?_
    refine lv_iload hx hb dOperators_resultClass_27 (lv_at hl 0 rfl) ?_
    refine lv_icmp_ne (tgt := 54) hx hb dOperators_resultClass_29 (by decide) (fun c63 => ?_) (fun c63 => ?_)
    · refine lv_iconst (v := (-1)) hx hb dOperators_resultClass_54 (by decide) ?_
      exact hE _ _ _ trivial dOperators_resultClass_55
    · refine lv_iload hx hb dOperators_resultClass_32 (lv_at hl 1 rfl) ?_
      refine lv_iconst (v := 1) hx hb dOperators_resultClass_34 (by decide) ?_
      refine lv_icmp_eq (tgt := 49) hx hb dOperators_resultClass_35 (by decide) (fun c64 => ?_) (fun c64 => ?_)
      · exact J49 ls x1 x2 x3 r50 r51 (lv_sub hl [2, 3, 4, 5, 1, 0] rfl)
      · refine lv_iload hx hb dOperators_resultClass_38 (lv_at hl 1 rfl) ?_
        refine lv_if_eq (tgt := 49) hx hb dOperators_resultClass_40 (by decide) (fun c65 => ?_) (fun c65 => ?_)
        · exact J49 ls x1 x2 x3 r50 r51 (lv_sub hl [2, 3, 4, 5, 1, 0] rfl)
        · refine lv_iload hx hb dOperators_resultClass_43 (lv_at hl 1 rfl) ?_
          refine lv_iconst (v := 3) hx hb dOperators_resultClass_45 (by decide) ?_
          refine lv_icmp_ne (tgt := 54) hx hb dOperators_resultClass_46 (by decide) (fun c66 => ?_) (fun c66 => ?_)
          · refine lv_iconst (v := (-1)) hx hb dOperators_resultClass_54 (by decide) ?_
            exact hE _ _ _ trivial dOperators_resultClass_55
          · exact J49 ls x1 x2 x3 r50 r51 (lv_sub hl [2, 3, 4, 5, 1, 0] rfl)

set_option maxHeartbeats 4000000 in
set_option maxRecDepth 100000 in
theorem k_Operators_isClear (l : Launch) (γ : gE) (A : Nat → Prop) (κ : Nat → Nat) (x1 : Int32)  : PU l yOperators_isClear bOperators_isClear 2 (some .boolean) 2 45 [.ref (γ.2.2.2 11), .int x1] γ (INV γ A κ) (vp_Si (fun v : Int32 => True)) := by
  refine pu_openZ (by decide) (Nat.le_of_ble_eq_true rfl) ?_
  intro p e s m args below meth c ls Q S hC hI hE hl
  obtain ⟨hx, hb, hml, hown, hW⟩ := id S
  have hl : lv_has ls 2 [(0, .ref (γ.2.2.2 11)), (1, .int x1)] := hl
  have J34 : ∀ (ls : Array Slot)  (i1 : Int32), lv_has ls 2 [(0, .ref (γ.2.2.2 11)), (1, .int i1)] → W p l e (bs_rm 2 0 0 45) s m args below meth c s.heap [] 0 0 Q (F0 m 34 ls []) := by
    intro ls  i1  hl
    refine lv_iconst (v := 1) hx hb dOperators_isClear_34 (by decide) ?_
    refine lv_goto (tgt := 39) hx hb dOperators_isClear_35 (by decide) ?_
    exact hE _ _ _ rfl trivial dOperators_isClear_39
  refine lv_aload_n hx hb dOperators_isClear_0 rfl (lv_at hl 0 rfl) ?_
  refine of_get S hC (of_11_0 hI) in_Operators rfl (by decide) qw_46160f6e07 dOperators_isClear_1 ?_
  refine lv_iload_n hx hb dOperators_isClear_4 rfl (lv_at hl 1 rfl) ?_
  refine pu_Vi (rest := []) S hC (k9_Looks_classOf l γ A κ x1) meLooks_classOf qw_2e1b0e0eff ⟨Nat.le_of_ble_eq_true rfl, Nat.le_of_ble_eq_true rfl⟩ (rv_9 hC hI) hI rfl hl.1 rfl (Nat.le_of_ble_eq_true rfl) dOperators_isClear_5 ⟨Nat.zero_le _, Nat.zero_le _⟩ (fun r6 hr6 => ?_)
  refine lv_iconst (v := 3) hx hb dOperators_isClear_8 (by decide) ?_
  refine lv_icmp_ne (tgt := 34) hx hb dOperators_isClear_9 (by decide) (fun c7 => ?_) (fun c7 => ?_)
  · exact J34 ls x1 (lv_sub hl [0, 1] rfl)
  · refine lv_aload_n hx hb dOperators_isClear_12 rfl (lv_at hl 0 rfl) ?_
    refine of_get S hC (of_11_0 hI) in_Operators rfl (by decide) qw_46160f6e07 dOperators_isClear_13 ?_
    refine of_getN S hC (of_9_5 hI) in_Looks rfl (by decide) qn_de7362ca2e dOperators_isClear_16 ?_
    refine lv_iload_n hx hb dOperators_isClear_19 rfl (lv_at hl 1 rfl) ?_
    refine lv_aload_n hx hb dOperators_isClear_20 rfl (lv_at hl 0 rfl) ?_
    refine of_get S hC (of_11_0 hI) in_Operators rfl (by decide) qw_46160f6e07 dOperators_isClear_21 ?_
    refine lv_iload_n hx hb dOperators_isClear_24 rfl (lv_at hl 1 rfl) ?_
    refine pu_Vi (rest := [.int x1, .ref (γ.2.2.2 10)]) S hC (k9_Looks_extentOf l γ A κ x1) meLooks_extentOf qw_b0051a6c7a ⟨Nat.le_of_ble_eq_true rfl, Nat.le_of_ble_eq_true rfl⟩ (rv_9 hC hI) hI rfl hl.1 rfl (Nat.le_of_ble_eq_true rfl) dOperators_isClear_25 ⟨Nat.zero_le _, Nat.zero_le _⟩ (fun r8 hr8 => ?_)
    refine pu_Vi (rest := []) S hC (k10_Rows_isClear l γ A κ x1 r8) meRows_isClear qw_0d8e65883a ⟨Nat.le_of_ble_eq_true rfl, Nat.le_of_ble_eq_true rfl⟩ (rv_10 hC hI) hI rfl hl.1 rfl (Nat.le_of_ble_eq_true rfl) dOperators_isClear_28 ⟨Nat.zero_le _, Nat.zero_le _⟩ (fun r9 hr9 => ?_)
    refine lv_if_eq (tgt := 38) hx hb dOperators_isClear_31 (by decide) (fun c10 => ?_) (fun c10 => ?_)
    · refine lv_iconst (v := 0) hx hb dOperators_isClear_38 (by decide) ?_
      exact hE _ _ _ rfl trivial dOperators_isClear_39
    · exact J34 ls x1 (lv_sub hl [0, 1] rfl)

set_option maxHeartbeats 4000000 in
set_option maxRecDepth 100000 in
theorem k_Operators_countsAs (l : Launch) (γ : gE) (A : Nat → Prop) (κ : Nat → Nat) (x1 : Int32)  : PU l yOperators_countsAs bOperators_countsAs 2 (some .long) 2 47 [.ref (γ.2.2.2 11), .int x1] γ (INV γ A κ) (vp_Sl (fun v : Int64 => True)) := by
  refine pu_openJ (by decide) (Nat.le_of_ble_eq_true rfl) ?_
  intro p e s m args below meth c ls Q S hC hI hE hl
  obtain ⟨hx, hb, hml, hown, hW⟩ := id S
  have hl : lv_has ls 2 [(0, .ref (γ.2.2.2 11)), (1, .int x1)] := hl
  refine lv_aload_n hx hb dOperators_countsAs_0 rfl (lv_at hl 0 rfl) ?_
  refine of_get S hC (of_11_0 hI) in_Operators rfl (by decide) qw_46160f6e07 dOperators_countsAs_1 ?_
  refine lv_iload_n hx hb dOperators_countsAs_4 rfl (lv_at hl 1 rfl) ?_
  refine pu_Vi (rest := []) S hC (k9_Looks_classOf l γ A κ x1) meLooks_classOf qw_2e1b0e0eff ⟨Nat.le_of_ble_eq_true rfl, Nat.le_of_ble_eq_true rfl⟩ (rv_9 hC hI) hI rfl hl.1 rfl (Nat.le_of_ble_eq_true rfl) dOperators_countsAs_5 ⟨Nat.zero_le _, Nat.zero_le _⟩ (fun r7 hr7 => ?_)
  refine lv_iconst (v := 3) hx hb dOperators_countsAs_8 (by decide) ?_
  refine lv_icmp_ne (tgt := 34) hx hb dOperators_countsAs_9 (by decide) (fun c8 => ?_) (fun c8 => ?_)
  · refine lv_aload_n hx hb dOperators_countsAs_34 rfl (lv_at hl 0 rfl) ?_
    refine of_get S hC (of_11_0 hI) in_Operators rfl (by decide) qw_46160f6e07 dOperators_countsAs_35 ?_
    refine lv_iload_n hx hb dOperators_countsAs_38 rfl (lv_at hl 1 rfl) ?_
    refine pu_Vi (rest := []) S hC (k9_Looks_numberOf l γ A κ x1) meLooks_numberOf qw_567f1aae5f ⟨Nat.le_of_ble_eq_true rfl, Nat.le_of_ble_eq_true rfl⟩ (rv_9 hC hI) hI rfl hl.1 rfl (Nat.le_of_ble_eq_true rfl) dOperators_countsAs_39 ⟨Nat.zero_le _, Nat.zero_le _⟩ (fun r9 hr9 => ?_)
    refine lv_i2l hx hb dOperators_countsAs_42 rfl ?_
    refine lv_topl (fun v10 ev10 => ?_)
    exact hE _ _ _ trivial dOperators_countsAs_43
  · refine lv_aload_n hx hb dOperators_countsAs_12 rfl (lv_at hl 0 rfl) ?_
    refine of_get S hC (of_11_0 hI) in_Operators rfl (by decide) qw_46160f6e07 dOperators_countsAs_13 ?_
    refine of_getN S hC (of_9_5 hI) in_Looks rfl (by decide) qn_de7362ca2e dOperators_countsAs_16 ?_
    refine lv_iload_n hx hb dOperators_countsAs_19 rfl (lv_at hl 1 rfl) ?_
    refine lv_aload_n hx hb dOperators_countsAs_20 rfl (lv_at hl 0 rfl) ?_
    refine of_get S hC (of_11_0 hI) in_Operators rfl (by decide) qw_46160f6e07 dOperators_countsAs_21 ?_
    refine lv_iload_n hx hb dOperators_countsAs_24 rfl (lv_at hl 1 rfl) ?_
    refine pu_Vi (rest := [.int x1, .ref (γ.2.2.2 10)]) S hC (k9_Looks_extentOf l γ A κ x1) meLooks_extentOf qw_b0051a6c7a ⟨Nat.le_of_ble_eq_true rfl, Nat.le_of_ble_eq_true rfl⟩ (rv_9 hC hI) hI rfl hl.1 rfl (Nat.le_of_ble_eq_true rfl) dOperators_countsAs_25 ⟨Nat.zero_le _, Nat.zero_le _⟩ (fun r11 hr11 => ?_)
    refine pu_Vl (rest := []) S hC (k10_Rows_bitsOf l γ A κ x1 r11) meRows_bitsOf qw_1bb8bfda8f ⟨Nat.le_of_ble_eq_true rfl, Nat.le_of_ble_eq_true rfl⟩ (rv_10 hC hI) hI rfl hl.1 rfl (Nat.le_of_ble_eq_true rfl) dOperators_countsAs_28 ⟨Nat.zero_le _, Nat.zero_le _⟩ (fun r12 hr12 => ?_)
    refine lv_goto (tgt := 43) hx hb dOperators_countsAs_31 (by decide) ?_
    exact hE _ _ _ trivial dOperators_countsAs_43

set_option maxHeartbeats 4000000 in
set_option maxRecDepth 100000 in
theorem k_Operators_elementOf (l : Launch) (γ : gE) (A : Nat → Prop) (κ : Nat → Nat) (x1 : Int32) (x2 : Int32)  : PU l yOperators_elementOf bOperators_elementOf 3 (some .int) 2 42 [.ref (γ.2.2.2 11), .int x1, .int x2] γ (INV γ A κ) (vp_Si (fun v : Int32 => True)) := by
  refine pu_openI (by decide) (Nat.le_of_ble_eq_true rfl) ?_
  intro p e s m args below meth c ls Q S hC hI hE hl
  obtain ⟨hx, hb, hml, hown, hW⟩ := id S
  have hl : lv_has ls 3 [(0, .ref (γ.2.2.2 11)), (1, .int x1), (2, .int x2)] := hl
  refine lv_aload_n hx hb dOperators_elementOf_0 rfl (lv_at hl 0 rfl) ?_
  refine of_get S hC (of_11_0 hI) in_Operators rfl (by decide) qw_46160f6e07 dOperators_elementOf_1 ?_
  refine lv_iload_n hx hb dOperators_elementOf_4 rfl (lv_at hl 1 rfl) ?_
  refine pu_Vi (rest := []) S hC (k9_Looks_classOf l γ A κ x1) meLooks_classOf qw_2e1b0e0eff ⟨Nat.le_of_ble_eq_true rfl, Nat.le_of_ble_eq_true rfl⟩ (rv_9 hC hI) hI rfl hl.1 rfl (Nat.le_of_ble_eq_true rfl) dOperators_elementOf_5 ⟨Nat.zero_le _, Nat.zero_le _⟩ (fun r5 hr5 => ?_)
  refine lv_iconst (v := 3) hx hb dOperators_elementOf_8 (by decide) ?_
  refine lv_icmp_ne (tgt := 27) hx hb dOperators_elementOf_9 (by decide) (fun c6 => ?_) (fun c6 => ?_)
  · refine lv_aload_n hx hb dOperators_elementOf_27 rfl (lv_at hl 0 rfl) ?_
    refine of_get S hC (of_11_0 hI) in_Operators rfl (by decide) qw_46160f6e07 dOperators_elementOf_28 ?_
    refine lv_iload_n hx hb dOperators_elementOf_31 rfl (lv_at hl 1 rfl) ?_
    refine pu_Vi (rest := []) S hC (k9_Looks_numberOf l γ A κ x1) meLooks_numberOf qw_567f1aae5f ⟨Nat.le_of_ble_eq_true rfl, Nat.le_of_ble_eq_true rfl⟩ (rv_9 hC hI) hI rfl hl.1 rfl (Nat.le_of_ble_eq_true rfl) dOperators_elementOf_32 ⟨Nat.zero_le _, Nat.zero_le _⟩ (fun r7 hr7 => ?_)
    exact hE _ _ _ trivial dOperators_elementOf_35
  · refine lv_aload_n hx hb dOperators_elementOf_12 rfl (lv_at hl 0 rfl) ?_
    refine of_get S hC (of_11_0 hI) in_Operators rfl (by decide) qw_46160f6e07 dOperators_elementOf_13 ?_
    refine of_getN S hC (of_9_5 hI) in_Looks rfl (by decide) qn_de7362ca2e dOperators_elementOf_16 ?_
    refine lv_iload_n hx hb dOperators_elementOf_19 rfl (lv_at hl 1 rfl) ?_
    refine lv_iload_n hx hb dOperators_elementOf_20 rfl (lv_at hl 2 rfl) ?_
    refine pu_Vi (rest := []) S hC (k10_Rows_get l γ A κ x1 x2) meRows_get qw_2b8ebea4b9 ⟨Nat.le_of_ble_eq_true rfl, Nat.le_of_ble_eq_true rfl⟩ (rv_10 hC hI) hI rfl hl.1 rfl (Nat.le_of_ble_eq_true rfl) dOperators_elementOf_21 ⟨Nat.zero_le _, Nat.zero_le _⟩ (fun r8 hr8 => ?_)
    refine lv_goto (tgt := 35) hx hb dOperators_elementOf_24 (by decide) ?_
    exact hE _ _ _ trivial dOperators_elementOf_35

set_option maxHeartbeats 4000000 in
set_option maxRecDepth 100000 in
theorem k_Operators_areAlike (l : Launch) (γ : gE) (A : Nat → Prop) (κ : Nat → Nat) (x1 : Int32) (x2 : Int32)  : PU l yOperators_areAlike bOperators_areAlike 4 (some .boolean) 2 42 [.ref (γ.2.2.2 11), .int x1, .int x2] γ (INV γ A κ) (vp_Si (fun v : Int32 => True)) := by
  refine pu_openZ (by decide) (Nat.le_of_ble_eq_true rfl) ?_
  intro p e s m args below meth c ls Q S hC hI hE hl
  obtain ⟨hx, hb, hml, hown, hW⟩ := id S
  have hl : lv_has ls 4 [(0, .ref (γ.2.2.2 11)), (1, .int x1), (2, .int x2)] := hl
  have J39 : ∀ (N39 : Nat) (ls : Array Slot)  (i1 : Int32) (i2 : Int32) (i3 : Int32), (2147483647 - i3.toInt).toNat = N39 → lv_has ls 4 [(0, .ref (γ.2.2.2 11)), (1, .int i1), (2, .int i2), (3, .int i3)] → W p l e (bs_rm 2 0 0 42) s m args below meth c s.heap [] 0 0 Q (F0 m 39 ls []) := by
    intro N39
    induction N39 using Nat.strongRecOn with
    | ind N39 ih39 =>
      intro ls  i1 i2 i3  hm39 hl
      refine lv_iload_n hx hb dOperators_areAlike_39 rfl (lv_at hl 3 rfl) ?_
      refine lv_aload_n hx hb dOperators_areAlike_40 rfl (lv_at hl 0 rfl) ?_
      refine of_get S hC (of_11_0 hI) in_Operators rfl (by decide) qw_46160f6e07 dOperators_areAlike_41 ?_
      refine lv_iload_n hx hb dOperators_areAlike_44 rfl (lv_at hl 1 rfl) ?_
      refine pu_Vi (rest := [.int i3]) S hC (k9_Looks_extentOf l γ A κ i1) meLooks_extentOf qw_b0051a6c7a ⟨Nat.le_of_ble_eq_true rfl, Nat.le_of_ble_eq_true rfl⟩ (rv_9 hC hI) hI rfl hl.1 rfl (Nat.le_of_ble_eq_true rfl) dOperators_areAlike_45 ⟨Nat.zero_le _, Nat.zero_le _⟩ (fun r12 hr12 => ?_)
      refine lv_icmp_ge (tgt := 86) hx hb dOperators_areAlike_48 (by decide) (fun c13 => ?_) (fun c13 => ?_)
      · refine lv_iconst (v := 1) hx hb dOperators_areAlike_86 (by decide) ?_
        exact hE _ _ _ rfl trivial dOperators_areAlike_87
      · refine lv_aload_n hx hb dOperators_areAlike_51 rfl (lv_at hl 0 rfl) ?_
        refine of_get S hC (of_11_0 hI) in_Operators rfl (by decide) qw_46160f6e07 dOperators_areAlike_52 ?_
        refine of_getN S hC (of_9_5 hI) in_Looks rfl (by decide) qn_de7362ca2e dOperators_areAlike_55 ?_
        refine lv_iload_n hx hb dOperators_areAlike_58 rfl (lv_at hl 1 rfl) ?_
        refine lv_iload_n hx hb dOperators_areAlike_59 rfl (lv_at hl 3 rfl) ?_
        refine pu_Vi (rest := []) S hC (k10_Rows_get l γ A κ i1 i3) meRows_get qw_2b8ebea4b9 ⟨Nat.le_of_ble_eq_true rfl, Nat.le_of_ble_eq_true rfl⟩ (rv_10 hC hI) hI rfl hl.1 rfl (Nat.le_of_ble_eq_true rfl) dOperators_areAlike_60 ⟨Nat.zero_le _, Nat.zero_le _⟩ (fun r14 hr14 => ?_)
        refine lv_aload_n hx hb dOperators_areAlike_63 rfl (lv_at hl 0 rfl) ?_
        refine of_get S hC (of_11_0 hI) in_Operators rfl (by decide) qw_46160f6e07 dOperators_areAlike_64 ?_
        refine of_getN S hC (of_9_5 hI) in_Looks rfl (by decide) qn_de7362ca2e dOperators_areAlike_67 ?_
        refine lv_iload_n hx hb dOperators_areAlike_70 rfl (lv_at hl 2 rfl) ?_
        refine lv_iload_n hx hb dOperators_areAlike_71 rfl (lv_at hl 3 rfl) ?_
        refine pu_Vi (rest := [.int r14]) S hC (k10_Rows_get l γ A κ i2 i3) meRows_get qw_2b8ebea4b9 ⟨Nat.le_of_ble_eq_true rfl, Nat.le_of_ble_eq_true rfl⟩ (rv_10 hC hI) hI rfl hl.1 rfl (Nat.le_of_ble_eq_true rfl) dOperators_areAlike_72 ⟨Nat.zero_le _, Nat.zero_le _⟩ (fun r15 hr15 => ?_)
        refine lv_icmp_eq (tgt := 80) hx hb dOperators_areAlike_75 (by decide) (fun c16 => ?_) (fun c16 => ?_)
        · obtain ⟨v17, ev17⟩ : ∃ y : Int32, y = i3 + 1 := ⟨_, rfl⟩
          refine lv_iinc (v := v17) (lv' := [(3, .int v17), (0, .ref (γ.2.2.2 11)), (1, .int i1), (2, .int i2)]) hx hb dOperators_areAlike_80 hl (k := 3) rfl (by rw [ev17]; rfl) (by decide) rfl (fun ls hl => ?_)
          refine lv_goto (tgt := 39) hx hb dOperators_areAlike_83 (by decide) ?_
          exact ih39 _ (by have q1 : i3.toInt < 2147483647 := (by first | exact (mu_up (k := i3) (by assumption)).2 | assumption); have q2 := mu_lt q1; rw [← ev17] at q2; omega) ls i1 i2 v17 rfl (lv_sub hl [1, 2, 3, 0] rfl)
        · refine lv_iconst (v := 0) hx hb dOperators_areAlike_78 (by decide) ?_
          exact hE _ _ _ rfl trivial dOperators_areAlike_79
  refine lv_aload_n hx hb dOperators_areAlike_0 rfl (lv_at hl 0 rfl) ?_
  refine of_get S hC (of_11_0 hI) in_Operators rfl (by decide) qw_46160f6e07 dOperators_areAlike_1 ?_
  refine lv_iload_n hx hb dOperators_areAlike_4 rfl (lv_at hl 1 rfl) ?_
  refine pu_Vi (rest := []) S hC (k9_Looks_classOf l γ A κ x1) meLooks_classOf qw_2e1b0e0eff ⟨Nat.le_of_ble_eq_true rfl, Nat.le_of_ble_eq_true rfl⟩ (rv_9 hC hI) hI rfl hl.1 rfl (Nat.le_of_ble_eq_true rfl) dOperators_areAlike_5 ⟨Nat.zero_le _, Nat.zero_le _⟩ (fun r18 hr18 => ?_)
  refine lv_iconst (v := 3) hx hb dOperators_areAlike_8 (by decide) ?_
  refine lv_icmp_eq (tgt := 37) hx hb dOperators_areAlike_9 (by decide) (fun c19 => ?_) (fun c19 => ?_)
  · refine lv_iconst (v := 0) hx hb dOperators_areAlike_37 (by decide) ?_
    refine lv_istore_n (lv' := [(3, .int 0), (0, .ref (γ.2.2.2 11)), (1, .int x1), (2, .int x2)]) hx hb dOperators_areAlike_38 rfl hl (by decide) rfl (fun ls hl => ?_)
    exact J39 _ ls x1 x2 0 rfl (lv_sub hl [1, 2, 3, 0] rfl)
  · refine lv_aload_n hx hb dOperators_areAlike_12 rfl (lv_at hl 0 rfl) ?_
    refine of_get S hC (of_11_0 hI) in_Operators rfl (by decide) qw_46160f6e07 dOperators_areAlike_13 ?_
    refine lv_iload_n hx hb dOperators_areAlike_16 rfl (lv_at hl 1 rfl) ?_
    refine pu_Vi (rest := []) S hC (k9_Looks_numberOf l γ A κ x1) meLooks_numberOf qw_567f1aae5f ⟨Nat.le_of_ble_eq_true rfl, Nat.le_of_ble_eq_true rfl⟩ (rv_9 hC hI) hI rfl hl.1 rfl (Nat.le_of_ble_eq_true rfl) dOperators_areAlike_17 ⟨Nat.zero_le _, Nat.zero_le _⟩ (fun r20 hr20 => ?_)
    refine lv_aload_n hx hb dOperators_areAlike_20 rfl (lv_at hl 0 rfl) ?_
    refine of_get S hC (of_11_0 hI) in_Operators rfl (by decide) qw_46160f6e07 dOperators_areAlike_21 ?_
    refine lv_iload_n hx hb dOperators_areAlike_24 rfl (lv_at hl 2 rfl) ?_
    refine pu_Vi (rest := [.int r20]) S hC (k9_Looks_numberOf l γ A κ x2) meLooks_numberOf qw_567f1aae5f ⟨Nat.le_of_ble_eq_true rfl, Nat.le_of_ble_eq_true rfl⟩ (rv_9 hC hI) hI rfl hl.1 rfl (Nat.le_of_ble_eq_true rfl) dOperators_areAlike_25 ⟨Nat.zero_le _, Nat.zero_le _⟩ (fun r21 hr21 => ?_)
    refine lv_icmp_ne (tgt := 35) hx hb dOperators_areAlike_28 (by decide) (fun c22 => ?_) (fun c22 => ?_)
    · refine lv_iconst (v := 0) hx hb dOperators_areAlike_35 (by decide) ?_
      exact hE _ _ _ rfl trivial dOperators_areAlike_36
    · refine lv_iconst (v := 1) hx hb dOperators_areAlike_31 (by decide) ?_
      refine lv_goto (tgt := 36) hx hb dOperators_areAlike_32 (by decide) ?_
      exact hE _ _ _ rfl trivial dOperators_areAlike_36

set_option maxHeartbeats 4000000 in
set_option maxRecDepth 100000 in
theorem k_Operators_isOrdered (l : Launch) (γ : gE) (A : Nat → Prop) (κ : Nat → Nat) (x1 : Int32) (x2 : Int32) (x3 : Int32)  : PU l yOperators_isOrdered bOperators_isOrdered 5 (some .boolean) 3 68 [.ref (γ.2.2.2 11), .int x1, .int x2, .int x3] γ (INV γ A κ) (vp_Si (fun v : Int32 => True)) := by
  refine pu_openZ (by decide) (Nat.le_of_ble_eq_true rfl) ?_
  intro p e s m args below meth c ls Q S hC hI hE hl
  obtain ⟨hx, hb, hml, hown, hW⟩ := id S
  have hl : lv_has ls 5 [(0, .ref (γ.2.2.2 11)), (1, .int x1), (2, .int x2), (3, .int x3)] := hl
  have J74 : ∀ (ls : Array Slot)  (i1 : Int32) (i2 : Int32) (i3 : Int32) (i4 : Int32), lv_has ls 5 [(0, .ref (γ.2.2.2 11)), (1, .int i1), (2, .int i2), (3, .int i3), (4, .int i4)] → W p l e (bs_rm 3 0 0 68) s m args below meth c s.heap [] 0 0 Q (F0 m 74 ls []) := by
    intro ls  i1 i2 i3 i4  hl
    refine lv_iload_n hx hb dOperators_isOrdered_74 rfl (lv_at hl 1 rfl) ?_
    by_cases k22 : i1 = 8
    · subst k22
      refine lv_tableIn (tgt := 100) hx hb dOperators_isOrdered_75 (by decide) (by decide) rfl (by decide) ?_
      refine lv_iload hx hb dOperators_isOrdered_100 (lv_at hl 4 rfl) ?_
      refine lv_if_ge (tgt := 109) hx hb dOperators_isOrdered_102 (by decide) (fun c23 => ?_) (fun c23 => ?_)
      · refine lv_iconst (v := 0) hx hb dOperators_isOrdered_109 (by decide) ?_
        exact hE _ _ _ rfl trivial dOperators_isOrdered_110
      · refine lv_iconst (v := 1) hx hb dOperators_isOrdered_105 (by decide) ?_
        refine lv_goto (tgt := 110) hx hb dOperators_isOrdered_106 (by decide) ?_
        exact hE _ _ _ rfl trivial dOperators_isOrdered_110
    by_cases k24 : i1 = 9
    · subst k24
      refine lv_tableIn (tgt := 111) hx hb dOperators_isOrdered_75 (by decide) (by decide) rfl (by decide) ?_
      refine lv_iload hx hb dOperators_isOrdered_111 (lv_at hl 4 rfl) ?_
      refine lv_if_gt (tgt := 120) hx hb dOperators_isOrdered_113 (by decide) (fun c25 => ?_) (fun c25 => ?_)
      · refine lv_iconst (v := 0) hx hb dOperators_isOrdered_120 (by decide) ?_
        exact hE _ _ _ rfl trivial dOperators_isOrdered_121
      · refine lv_iconst (v := 1) hx hb dOperators_isOrdered_116 (by decide) ?_
        refine lv_goto (tgt := 121) hx hb dOperators_isOrdered_117 (by decide) ?_
        exact hE _ _ _ rfl trivial dOperators_isOrdered_121
    by_cases k26 : i1 = 10
    · subst k26
      refine lv_tableIn (tgt := 122) hx hb dOperators_isOrdered_75 (by decide) (by decide) rfl (by decide) ?_
      refine lv_iload hx hb dOperators_isOrdered_122 (lv_at hl 4 rfl) ?_
      refine lv_if_le (tgt := 131) hx hb dOperators_isOrdered_124 (by decide) (fun c27 => ?_) (fun c27 => ?_)
      · refine lv_iconst (v := 0) hx hb dOperators_isOrdered_131 (by decide) ?_
        exact hE _ _ _ rfl trivial dOperators_isOrdered_132
      · refine lv_iconst (v := 1) hx hb dOperators_isOrdered_127 (by decide) ?_
        refine lv_goto (tgt := 132) hx hb dOperators_isOrdered_128 (by decide) ?_
        exact hE _ _ _ rfl trivial dOperators_isOrdered_132
    refine lv_tableOut (tgt := 133) hx hb dOperators_isOrdered_75 (by have qk22 := lv_neT (a := 8) k22 (by decide); have qk24 := lv_neT (a := 9) k24 (by decide); have qk26 := lv_neT (a := 10) k26 (by decide); omega) (by decide) ?_
    refine lv_iload hx hb dOperators_isOrdered_133 (lv_at hl 4 rfl) ?_
    refine lv_if_lt (tgt := 142) hx hb dOperators_isOrdered_135 (by decide) (fun c28 => ?_) (fun c28 => ?_)
    · refine lv_iconst (v := 0) hx hb dOperators_isOrdered_142 (by decide) ?_
      exact hE _ _ _ rfl trivial dOperators_isOrdered_143
    · refine lv_iconst (v := 1) hx hb dOperators_isOrdered_138 (by decide) ?_
      refine lv_goto (tgt := 143) hx hb dOperators_isOrdered_139 (by decide) ?_
      exact hE _ _ _ rfl trivial dOperators_isOrdered_143
  refine lv_aload_n hx hb dOperators_isOrdered_0 rfl (lv_at hl 0 rfl) ?_
  refine of_get S hC (of_11_0 hI) in_Operators rfl (by decide) qw_46160f6e07 dOperators_isOrdered_1 ?_
  refine lv_iload_n hx hb dOperators_isOrdered_4 rfl (lv_at hl 2 rfl) ?_
  refine pu_Vi (rest := []) S hC (k9_Looks_numberOf l γ A κ x2) meLooks_numberOf qw_567f1aae5f ⟨Nat.le_of_ble_eq_true rfl, Nat.le_of_ble_eq_true rfl⟩ (rv_9 hC hI) hI rfl hl.1 rfl (Nat.le_of_ble_eq_true rfl) dOperators_isOrdered_5 ⟨Nat.zero_le _, Nat.zero_le _⟩ (fun r29 hr29 => ?_)
  refine lv_aload_n hx hb dOperators_isOrdered_8 rfl (lv_at hl 0 rfl) ?_
  refine of_get S hC (of_11_0 hI) in_Operators rfl (by decide) qw_46160f6e07 dOperators_isOrdered_9 ?_
  refine lv_iload_n hx hb dOperators_isOrdered_12 rfl (lv_at hl 3 rfl) ?_
  refine pu_Vi (rest := [.int r29]) S hC (k9_Looks_numberOf l γ A κ x3) meLooks_numberOf qw_567f1aae5f ⟨Nat.le_of_ble_eq_true rfl, Nat.le_of_ble_eq_true rfl⟩ (rv_9 hC hI) hI rfl hl.1 rfl (Nat.le_of_ble_eq_true rfl) dOperators_isOrdered_13 ⟨Nat.zero_le _, Nat.zero_le _⟩ (fun r30 hr30 => ?_)
  refine pu_Si (rest := []) S hC (s_jInteger_compare l γ (INV γ A κ) r29 r30) mejInteger_compare qw_a34bb4dff1 ⟨Nat.le_of_ble_eq_true rfl, Nat.le_of_ble_eq_true rfl⟩ hI rfl hl.1 rfl (Nat.le_of_ble_eq_true rfl) dOperators_isOrdered_16 ⟨Nat.zero_le _, Nat.zero_le _⟩ (fun r31 hr31 => ?_)
  refine lv_istore (lv' := [(4, .int r31), (0, .ref (γ.2.2.2 11)), (1, .int x1), (2, .int x2), (3, .int x3)]) hx hb dOperators_isOrdered_19 hl (by decide) rfl (fun ls hl => ?_)
  refine lv_aload_n hx hb dOperators_isOrdered_21 rfl (lv_at hl 1 rfl) ?_
  refine of_get S hC (of_11_0 hI) in_Operators rfl (by decide) qw_46160f6e07 dOperators_isOrdered_22 ?_
  refine lv_iload_n hx hb dOperators_isOrdered_25 rfl (lv_at hl 3 rfl) ?_
  refine pu_Vi (rest := []) S hC (k9_Looks_classOf l γ A κ x2) meLooks_classOf qw_2e1b0e0eff ⟨Nat.le_of_ble_eq_true rfl, Nat.le_of_ble_eq_true rfl⟩ (rv_9 hC hI) hI rfl hl.1 rfl (Nat.le_of_ble_eq_true rfl) dOperators_isOrdered_26 ⟨Nat.zero_le _, Nat.zero_le _⟩ (fun r32 hr32 => ?_)
  refine lv_iconst (v := 3) hx hb dOperators_isOrdered_29 (by decide) ?_
  refine lv_icmp_ne (tgt := 74) hx hb dOperators_isOrdered_30 (by decide) (fun c33 => ?_) (fun c33 => ?_)
  · exact J74 ls x1 x2 x3 r31 (lv_sub hl [1, 2, 3, 4, 0] rfl)
  · refine lv_aload_n hx hb dOperators_isOrdered_33 rfl (lv_at hl 1 rfl) ?_
    refine lv_iload_n hx hb dOperators_isOrdered_34 rfl (lv_at hl 3 rfl) ?_
    refine pu_Vi (rest := []) S hC (k_Operators_isClear l γ A κ x2) meOperators_isClear qw_9422e74c3c ⟨Nat.le_of_ble_eq_true rfl, Nat.le_of_ble_eq_true rfl⟩ (rv_11 hC hI) hI rfl hl.1 rfl (Nat.le_of_ble_eq_true rfl) dOperators_isOrdered_35 ⟨Nat.zero_le _, Nat.zero_le _⟩ (fun r34 hr34 => ?_)
    refine lv_if_eq (tgt := 49) hx hb dOperators_isOrdered_38 (by decide) (fun c35 => ?_) (fun c35 => ?_)
    · refine lv_iconst (v := 0) hx hb dOperators_isOrdered_49 (by decide) ?_
      exact hE _ _ _ rfl trivial dOperators_isOrdered_50
    · refine lv_aload_n hx hb dOperators_isOrdered_41 rfl (lv_at hl 1 rfl) ?_
      refine lv_iload_n hx hb dOperators_isOrdered_42 rfl (lv_at hl 4 rfl) ?_
      refine pu_Vi (rest := []) S hC (k_Operators_isClear l γ A κ x3) meOperators_isClear qw_9422e74c3c ⟨Nat.le_of_ble_eq_true rfl, Nat.le_of_ble_eq_true rfl⟩ (rv_11 hC hI) hI rfl hl.1 rfl (Nat.le_of_ble_eq_true rfl) dOperators_isOrdered_43 ⟨Nat.zero_le _, Nat.zero_le _⟩ (fun r36 hr36 => ?_)
      refine lv_if_ne (tgt := 51) hx hb dOperators_isOrdered_46 (by decide) (fun c37 => ?_) (fun c37 => ?_)
      · refine lv_aload_n hx hb dOperators_isOrdered_51 rfl (lv_at hl 1 rfl) ?_
        refine lv_iload_n hx hb dOperators_isOrdered_52 rfl (lv_at hl 3 rfl) ?_
        refine pu_Vl (rest := []) S hC (k_Operators_countsAs l γ A κ x2) meOperators_countsAs qw_1ec68b5307 ⟨Nat.le_of_ble_eq_true rfl, Nat.le_of_ble_eq_true rfl⟩ (rv_11 hC hI) hI rfl hl.1 rfl (Nat.le_of_ble_eq_true rfl) dOperators_isOrdered_53 ⟨Nat.zero_le _, Nat.zero_le _⟩ (fun r38 hr38 => ?_)
        refine lv_ldc2 (v := (-9223372036854775808)) hx hb hown (hW _ qw_ea81ec05e8) dOperators_isOrdered_56 ?_
        refine lv_lxor hx hb dOperators_isOrdered_59 ?_
        refine lv_topl (fun v39 ev39 => ?_)
        refine lv_aload_n hx hb dOperators_isOrdered_60 rfl (lv_at hl 1 rfl) ?_
        refine lv_iload_n hx hb dOperators_isOrdered_61 rfl (lv_at hl 4 rfl) ?_
        refine pu_Vl (rest := [.long v39]) S hC (k_Operators_countsAs l γ A κ x3) meOperators_countsAs qw_1ec68b5307 ⟨Nat.le_of_ble_eq_true rfl, Nat.le_of_ble_eq_true rfl⟩ (rv_11 hC hI) hI rfl hl.1 rfl (Nat.le_of_ble_eq_true rfl) dOperators_isOrdered_62 ⟨Nat.zero_le _, Nat.zero_le _⟩ (fun r40 hr40 => ?_)
        refine lv_ldc2 (v := (-9223372036854775808)) hx hb hown (hW _ qw_ea81ec05e8) dOperators_isOrdered_65 ?_
        refine lv_lxor hx hb dOperators_isOrdered_68 ?_
        refine lv_topl (fun v41 ev41 => ?_)
        refine pu_Si (rest := []) S hC (s_jLong_compare l γ (INV γ A κ) v39 v41) mejLong_compare qw_e0d1ecf615 ⟨Nat.le_of_ble_eq_true rfl, Nat.le_of_ble_eq_true rfl⟩ hI rfl hl.1 rfl (Nat.le_of_ble_eq_true rfl) dOperators_isOrdered_69 ⟨Nat.zero_le _, Nat.zero_le _⟩ (fun r42 hr42 => ?_)
        refine lv_istore (lv' := [(4, .int r42), (0, .ref (γ.2.2.2 11)), (1, .int x1), (2, .int x2), (3, .int x3)]) hx hb dOperators_isOrdered_72 hl (by decide) rfl (fun ls hl => ?_)
        exact J74 ls x1 x2 x3 r42 (lv_sub hl [1, 2, 3, 4, 0] rfl)
      · refine lv_iconst (v := 0) hx hb dOperators_isOrdered_49 (by decide) ?_
        exact hE _ _ _ rfl trivial dOperators_isOrdered_50

set_option maxHeartbeats 4000000 in
set_option maxRecDepth 100000 in
theorem k_TypeBook_place (l : Launch) (γ : gE) (A : Nat → Prop) (κ : Nat → Nat)   : PU l yTypeBook_place bTypeBook_place 1 (some .int) 0 0 [.ref (γ.2.2.2 0)] γ (INV γ A κ) (vp_Si (fun v : Int32 => True)) := by
  refine pu_openI (by decide) (Nat.le_of_ble_eq_true rfl) ?_
  intro p e s m args below meth c ls Q S hC hI hE hl
  obtain ⟨hx, hb, hml, hown, hW⟩ := id S
  have hl : lv_has ls 1 [(0, .ref (γ.2.2.2 0))] := hl
  refine lv_aload_n hx hb dTypeBook_place_0 rfl (lv_at hl 0 rfl) ?_
  obtain ⟨v2, hOv2⟩ := of_0_6 hI
  refine of_get S hC hOv2 in_TypeBook rfl (by decide) qw_464f80981e dTypeBook_place_1 ?_
  exact hE _ _ _ trivial dTypeBook_place_4

set_option maxHeartbeats 4000000 in
set_option maxRecDepth 100000 in
theorem k_TypeBook_isNameOfOneBefore (l : Launch) (γ : gE) (A : Nat → Prop) (κ : Nat → Nat) (x1 : Int32) (x2 : Int32)  : PU l yTypeBook_isNameOfOneBefore bTypeBook_isNameOfOneBefore 4 (some .boolean) 2 42 [.ref (γ.2.2.2 0), .int x1, .int x2] γ (INV γ A κ) (vp_Si (fun v : Int32 => True)) := by
  refine pu_openZ (by decide) (Nat.le_of_ble_eq_true rfl) ?_
  intro p e s m args below meth c ls Q S hC hI hE hl
  obtain ⟨hx, hb, hml, hown, hW⟩ := id S
  have hl : lv_has ls 4 [(0, .ref (γ.2.2.2 0)), (1, .int x1), (2, .int x2)] := hl
  have J2 : ∀ (N2 : Nat) (ls : Array Slot)  (i1 : Int32) (i2 : Int32) (i3 : Int32), (2147483647 - i3.toInt).toNat = N2 → lv_has ls 4 [(0, .ref (γ.2.2.2 0)), (1, .int i1), (2, .int i2), (3, .int i3)] → W p l e (bs_rm 2 0 0 42) s m args below meth c s.heap [] 0 0 Q (F0 m 2 ls []) := by
    intro N2
    induction N2 using Nat.strongRecOn with
    | ind N2 ih2 =>
      intro ls  i1 i2 i3  hm2 hl
      refine lv_iload_n hx hb dTypeBook_isNameOfOneBefore_2 rfl (lv_at hl 3 rfl) ?_
      refine lv_iload_n hx hb dTypeBook_isNameOfOneBefore_3 rfl (lv_at hl 2 rfl) ?_
      refine lv_icmp_ge (tgt := 34) hx hb dTypeBook_isNameOfOneBefore_4 (by decide) (fun c6 => ?_) (fun c6 => ?_)
      · refine lv_iconst (v := 0) hx hb dTypeBook_isNameOfOneBefore_34 (by decide) ?_
        exact hE _ _ _ rfl trivial dTypeBook_isNameOfOneBefore_35
      · refine lv_aload_n hx hb dTypeBook_isNameOfOneBefore_7 rfl (lv_at hl 0 rfl) ?_
        refine of_get S hC (of_0_0 hI) in_TypeBook rfl (by decide) qw_6151ee7924 dTypeBook_isNameOfOneBefore_8 ?_
        refine lv_iload_n hx hb dTypeBook_isNameOfOneBefore_11 rfl (lv_at hl 3 rfl) ?_
        refine pu_Vi (rest := []) S hC (k1_Trees_valueOf l γ A κ i3) meTrees_valueOf qw_1062a20d6a ⟨Nat.le_of_ble_eq_true rfl, Nat.le_of_ble_eq_true rfl⟩ (rv_1 hC hI) hI rfl hl.1 rfl (Nat.le_of_ble_eq_true rfl) dTypeBook_isNameOfOneBefore_12 ⟨Nat.zero_le _, Nat.zero_le _⟩ (fun r7 hr7 => ?_)
        refine lv_aload_n hx hb dTypeBook_isNameOfOneBefore_15 rfl (lv_at hl 0 rfl) ?_
        refine of_get S hC (of_0_0 hI) in_TypeBook rfl (by decide) qw_6151ee7924 dTypeBook_isNameOfOneBefore_16 ?_
        refine lv_iload_n hx hb dTypeBook_isNameOfOneBefore_19 rfl (lv_at hl 2 rfl) ?_
        refine pu_Vi (rest := [.int r7]) S hC (k1_Trees_valueOf l γ A κ i2) meTrees_valueOf qw_1062a20d6a ⟨Nat.le_of_ble_eq_true rfl, Nat.le_of_ble_eq_true rfl⟩ (rv_1 hC hI) hI rfl hl.1 rfl (Nat.le_of_ble_eq_true rfl) dTypeBook_isNameOfOneBefore_20 ⟨Nat.zero_le _, Nat.zero_le _⟩ (fun r8 hr8 => ?_)
        refine lv_icmp_ne (tgt := 28) hx hb dTypeBook_isNameOfOneBefore_23 (by decide) (fun c9 => ?_) (fun c9 => ?_)
        · obtain ⟨v10, ev10⟩ : ∃ y : Int32, y = i3 + 1 := ⟨_, rfl⟩
          refine lv_iinc (v := v10) (lv' := [(3, .int v10), (0, .ref (γ.2.2.2 0)), (1, .int i1), (2, .int i2)]) hx hb dTypeBook_isNameOfOneBefore_28 hl (k := 3) rfl (by rw [ev10]; rfl) (by decide) rfl (fun ls hl => ?_)
          refine lv_goto (tgt := 2) hx hb dTypeBook_isNameOfOneBefore_31 (by decide) ?_
          exact ih2 _ (by have q1 : i3.toInt < 2147483647 := (by first | exact (mu_up (k := i3) (by assumption)).2 | assumption); have q2 := mu_lt q1; rw [← ev10] at q2; omega) ls i1 i2 v10 rfl (lv_sub hl [1, 2, 3, 0] rfl)
        · refine lv_iconst (v := 1) hx hb dTypeBook_isNameOfOneBefore_26 (by decide) ?_
          exact hE _ _ _ rfl trivial dTypeBook_isNameOfOneBefore_27
  refine lv_iload_n hx hb dTypeBook_isNameOfOneBefore_0 rfl (lv_at hl 1 rfl) ?_
  refine lv_istore_n (lv' := [(3, .int x1), (0, .ref (γ.2.2.2 0)), (1, .int x1), (2, .int x2)]) hx hb dTypeBook_isNameOfOneBefore_1 rfl hl (by decide) rfl (fun ls hl => ?_)
  exact J2 _ ls x1 x2 x1 rfl (lv_sub hl [1, 2, 3, 0] rfl)
theorem qw_920bbe1ee1 : (Cond.methodLink R_TypeBook 134 yTrees_kindOf) ∈ bs_W0 := bs_in (in_tables_1_4 (List.mem_of_getElem? (i := 221) rfl)) rfl
theorem qw_75eb836d1a : (Cond.methodLink R_TypeBook 156 yTrees_countOf) ∈ bs_W0 := bs_in (in_tables_1_5 (List.mem_of_getElem? (i := 21) rfl)) rfl
theorem qw_cf09947176 : (Cond.methodLink R_TypeBook 244 yTrees_firstOf) ∈ bs_W0 := bs_in (in_tables_1_5 (List.mem_of_getElem? (i := 22) rfl)) rfl
theorem qw_a088f6ef48 : (Cond.fieldLink R_TypeBook 19 R_TypeBook "names" "LTypeBook$Names;") ∈ bs_W0 := bs_in (in_tables_1_2 (List.mem_of_getElem? (i := 53) rfl)) rfl
theorem qw_5bf4c88d20 : (Cond.methodLink R_TypeBook 177 yNames_isTaken) ∈ bs_W0 := bs_in (in_tables_1_5 (List.mem_of_getElem? (i := 28) rfl)) rfl
theorem qw_15066d379c : (Cond.methodLink R_TypeBook 247 yTypeBook_isNameOfOneBefore) ∈ bs_W0 := bs_in (in_tables_1_5 (List.mem_of_getElem? (i := 33) rfl)) rfl
theorem qw_4a6bff5ab0 : (Cond.constantLong R_Rows 27 15) ∈ bs_W0 := bs_in (in_tables_1_3 (List.mem_of_getElem? (i := 179) rfl)) rfl
theorem qw_14d339857e : (Cond.constantLong R_Rows 29 (-1)) ∈ bs_W0 := bs_in (in_tables_1_3 (List.mem_of_getElem? (i := 180) rfl)) rfl
theorem qw_b8cf967c79 : (Cond.methodLink R_Rows 52 yRows_set) ∈ bs_W0 := bs_in (in_tables_1_4 (List.mem_of_getElem? (i := 87) rfl)) rfl
set_option maxHeartbeats 4000000 in
set_option maxRecDepth 100000 in
theorem k_TypeBook_malformedEnumNode (l : Launch) (γ : gE) (A : Nat → Prop) (κ : Nat → Nat) (x1 : Int32)  : PU l yTypeBook_malformedEnumNode bTypeBook_malformedEnumNode 6 (some .int) 2 42 [.ref (γ.2.2.2 0), .int x1] γ (INV γ A κ) (vp_Si (fun v : Int32 => True)) := by
  refine pu_openI (by decide) (Nat.le_of_ble_eq_true rfl) ?_
  intro p e s m args below meth c ls Q S hC hI hE hl
  obtain ⟨hx, hb, hml, hown, hW⟩ := id S
  have hl : lv_has ls 6 [(0, .ref (γ.2.2.2 0)), (1, .int x1)] := hl
  have J49 : ∀ (N49 : Nat) (ls : Array Slot)  (i1 : Int32) (i2 : Int32) (i3 : Int32) (i4 : Int32) (i5 : Int32), (2147483647 - i5.toInt).toNat = N49 → lv_has ls 6 [(0, .ref (γ.2.2.2 0)), (1, .int i1), (2, .int i2), (3, .int i3), (4, .int i4), (5, .int i5)] → W p l e (bs_rm 2 0 0 42) s m args below meth c s.heap [] 0 0 Q (F0 m 49 ls []) := by
    intro N49
    induction N49 using Nat.strongRecOn with
    | ind N49 ih49 =>
      intro ls  i1 i2 i3 i4 i5  hm49 hl
      have J83 : ∀ (ls : Array Slot)  (i1 : Int32) (i2 : Int32) (i3 : Int32) (i4 : Int32) (i5 : Int32), (i5.toInt < 2147483647 ∧ (2147483647 - i5.toInt).toNat = N49) → lv_has ls 6 [(0, .ref (γ.2.2.2 0)), (1, .int i1), (2, .int i2), (3, .int i3), (4, .int i4), (5, .int i5)] → W p l e (bs_rm 2 0 0 42) s m args below meth c s.heap [] 0 0 Q (F0 m 83 ls []) := by
        intro ls  i1 i2 i3 i4 i5 ⟨hf49a, hf49b⟩ hl
        refine lv_aload_n hx hb dTypeBook_malformedEnumNode_83 rfl (lv_at hl 0 rfl) ?_
        refine of_get S hC (of_0_0 hI) in_TypeBook rfl (by decide) qw_6151ee7924 dTypeBook_malformedEnumNode_84 ?_
        refine lv_iload hx hb dTypeBook_malformedEnumNode_87 (lv_at hl 4 rfl) ?_
        refine pu_Vi (rest := []) S hC (k1_Trees_firstOf l γ A κ i4) meTrees_firstOf qw_cf09947176 ⟨Nat.le_of_ble_eq_true rfl, Nat.le_of_ble_eq_true rfl⟩ (rv_1 hC hI) hI rfl hl.1 rfl (Nat.le_of_ble_eq_true rfl) dTypeBook_malformedEnumNode_89 ⟨Nat.zero_le _, Nat.zero_le _⟩ (fun r15 hr15 => ?_)
        refine lv_iconst (v := 1) hx hb dTypeBook_malformedEnumNode_92 (by decide) ?_
        refine lv_isub hx hb dTypeBook_malformedEnumNode_93 ?_
        refine lv_topi (fun v16 ev16 => ?_)
        refine lv_istore (lv' := [(4, .int v16), (0, .ref (γ.2.2.2 0)), (1, .int i1), (2, .int i2), (3, .int i3), (5, .int i5)]) hx hb dTypeBook_malformedEnumNode_94 hl (by decide) rfl (fun ls hl => ?_)
        obtain ⟨v17, ev17⟩ : ∃ y : Int32, y = i5 + 1 := ⟨_, rfl⟩
        refine lv_iinc (v := v17) (lv' := [(5, .int v17), (4, .int v16), (0, .ref (γ.2.2.2 0)), (1, .int i1), (2, .int i2), (3, .int i3)]) hx hb dTypeBook_malformedEnumNode_96 hl (k := 5) rfl (by rw [ev17]; rfl) (by decide) rfl (fun ls hl => ?_)
        refine lv_goto (tgt := 49) hx hb dTypeBook_malformedEnumNode_99 (by decide) ?_
        exact ih49 _ (by have q1 : i5.toInt < 2147483647 := (by first | exact (mu_up (k := i5) (by assumption)).2 | assumption); have q2 := mu_lt q1; rw [← ev17] at q2; omega) ls i1 i2 i3 v16 v17 rfl (lv_sub hl [2, 3, 4, 5, 1, 0] rfl)
      have J80 : ∀ (ls : Array Slot)  (i1 : Int32) (i2 : Int32) (i3 : Int32) (i4 : Int32) (i5 : Int32), (i5.toInt < 2147483647 ∧ (2147483647 - i5.toInt).toNat = N49) → lv_has ls 6 [(0, .ref (γ.2.2.2 0)), (1, .int i1), (2, .int i2), (3, .int i3), (4, .int i4), (5, .int i5)] → W p l e (bs_rm 2 0 0 42) s m args below meth c s.heap [] 0 0 Q (F0 m 80 ls []) := by
        intro ls  i1 i2 i3 i4 i5 ⟨hf49a, hf49b⟩ hl
        refine lv_iload hx hb dTypeBook_malformedEnumNode_80 (lv_at hl 4 rfl) ?_
        refine lv_istore_n (lv' := [(3, .int i4), (0, .ref (γ.2.2.2 0)), (1, .int i1), (2, .int i2), (4, .int i4), (5, .int i5)]) hx hb dTypeBook_malformedEnumNode_82 rfl hl (by decide) rfl (fun ls hl => ?_)
        exact J83 ls i1 i2 i4 i4 i5 (by first | exact ⟨(mu_up (k := i5) (by assumption)).2, by assumption⟩ | exact ⟨by assumption, by assumption⟩) (lv_sub hl [1, 2, 3, 0, 4, 5] rfl)
      refine lv_iload hx hb dTypeBook_malformedEnumNode_49 (lv_at hl 5 rfl) ?_
      refine lv_iload_n hx hb dTypeBook_malformedEnumNode_51 rfl (lv_at hl 2 rfl) ?_
      refine lv_icmp_ge (tgt := 102) hx hb dTypeBook_malformedEnumNode_52 (by decide) (fun c18 => ?_) (fun c18 => ?_)
      · refine lv_iload_n hx hb dTypeBook_malformedEnumNode_102 rfl (lv_at hl 3 rfl) ?_
        exact hE _ _ _ trivial dTypeBook_malformedEnumNode_103
      · refine lv_aload_n hx hb dTypeBook_malformedEnumNode_55 rfl (lv_at hl 0 rfl) ?_
        refine of_get S hC (of_0_0 hI) in_TypeBook rfl (by decide) qw_6151ee7924 dTypeBook_malformedEnumNode_56 ?_
        refine lv_iload hx hb dTypeBook_malformedEnumNode_59 (lv_at hl 4 rfl) ?_
        refine pu_Vi (rest := []) S hC (k1_Trees_kindOf l γ A κ i4) meTrees_kindOf qw_920bbe1ee1 ⟨Nat.le_of_ble_eq_true rfl, Nat.le_of_ble_eq_true rfl⟩ (rv_1 hC hI) hI rfl hl.1 rfl (Nat.le_of_ble_eq_true rfl) dTypeBook_malformedEnumNode_61 ⟨Nat.zero_le _, Nat.zero_le _⟩ (fun r19 hr19 => ?_)
        refine lv_iconst (v := 1) hx hb dTypeBook_malformedEnumNode_64 (by decide) ?_
        refine lv_icmp_ne (tgt := 80) hx hb dTypeBook_malformedEnumNode_65 (by decide) (fun c20 => ?_) (fun c20 => ?_)
        · exact J80 ls i1 i2 i3 i4 i5 (by first | exact ⟨(mu_up (k := i5) (by assumption)).2, by assumption⟩ | exact ⟨by assumption, by assumption⟩) (lv_sub hl [0, 1, 2, 3, 4, 5] rfl)
        · refine lv_aload_n hx hb dTypeBook_malformedEnumNode_68 rfl (lv_at hl 0 rfl) ?_
          refine of_get S hC (of_0_0 hI) in_TypeBook rfl (by decide) qw_6151ee7924 dTypeBook_malformedEnumNode_69 ?_
          refine lv_iload hx hb dTypeBook_malformedEnumNode_72 (lv_at hl 4 rfl) ?_
          refine pu_Vi (rest := []) S hC (k1_Trees_countOf l γ A κ i4) meTrees_countOf qw_75eb836d1a ⟨Nat.le_of_ble_eq_true rfl, Nat.le_of_ble_eq_true rfl⟩ (rv_1 hC hI) hI rfl hl.1 rfl (Nat.le_of_ble_eq_true rfl) dTypeBook_malformedEnumNode_74 ⟨Nat.zero_le _, Nat.zero_le _⟩ (fun r21 hr21 => ?_)
          refine lv_if_eq (tgt := 83) hx hb dTypeBook_malformedEnumNode_77 (by decide) (fun c22 => ?_) (fun c22 => ?_)
          · exact J83 ls i1 i2 i3 i4 i5 (by first | exact ⟨(mu_up (k := i5) (by assumption)).2, by assumption⟩ | exact ⟨by assumption, by assumption⟩) (lv_sub hl [0, 1, 2, 3, 4, 5] rfl)
          · exact J80 ls i1 i2 i3 i4 i5 (by first | exact ⟨(mu_up (k := i5) (by assumption)).2, by assumption⟩ | exact ⟨by assumption, by assumption⟩) (lv_sub hl [0, 1, 2, 3, 4, 5] rfl)
  have J40 : ∀ (ls : Array Slot)  (i1 : Int32) (i2 : Int32) (t0 : Int32), lv_has ls 6 [(0, .ref (γ.2.2.2 0)), (1, .int i1), (2, .int i2)] → W p l e (bs_rm 2 0 0 42) s m args below meth c s.heap [] 0 0 Q (F0 m 40 ls [.int t0]) := by
    intro ls  i1 i2 t0  hl
    refine lv_istore_n (lv' := [(3, .int t0), (0, .ref (γ.2.2.2 0)), (1, .int i1), (2, .int i2)]) hx hb dTypeBook_malformedEnumNode_40 rfl hl (by decide) rfl (fun ls hl => ?_)
    refine lv_iload_n hx hb dTypeBook_malformedEnumNode_41 rfl (lv_at hl 2 rfl) ?_
    refine lv_iconst (v := 1) hx hb dTypeBook_malformedEnumNode_42 (by decide) ?_
    refine lv_isub hx hb dTypeBook_malformedEnumNode_43 ?_
    refine lv_topi (fun v23 ev23 => ?_)
    refine lv_istore (lv' := [(4, .int v23), (3, .int t0), (0, .ref (γ.2.2.2 0)), (1, .int i1), (2, .int i2)]) hx hb dTypeBook_malformedEnumNode_44 hl (by decide) rfl (fun ls hl => ?_)
    refine lv_iconst (v := 0) hx hb dTypeBook_malformedEnumNode_46 (by decide) ?_
    refine lv_istore (lv' := [(5, .int 0), (4, .int v23), (3, .int t0), (0, .ref (γ.2.2.2 0)), (1, .int i1), (2, .int i2)]) hx hb dTypeBook_malformedEnumNode_47 hl (by decide) rfl (fun ls hl => ?_)
    exact J49 _ ls i1 i2 t0 v23 0 rfl (lv_sub hl [3, 4, 5, 2, 1, 0] rfl)
  have J35 : ∀ (ls : Array Slot)  (i1 : Int32) (i2 : Int32), lv_has ls 6 [(0, .ref (γ.2.2.2 0)), (1, .int i1), (2, .int i2)] → W p l e (bs_rm 2 0 0 42) s m args below meth c s.heap [] 0 0 Q (F0 m 35 ls []) := by
    intro ls  i1 i2  hl
    refine lv_iload_n hx hb dTypeBook_malformedEnumNode_35 rfl (lv_at hl 1 rfl) ?_
    refine lv_goto (tgt := 40) hx hb dTypeBook_malformedEnumNode_36 (by decide) ?_
    exact J40 ls i1 i2 i1 (lv_sub hl [0, 1, 2] rfl)
  refine lv_aload_n hx hb dTypeBook_malformedEnumNode_0 rfl (lv_at hl 0 rfl) ?_
  refine of_get S hC (of_0_0 hI) in_TypeBook rfl (by decide) qw_6151ee7924 dTypeBook_malformedEnumNode_1 ?_
  refine lv_iload_n hx hb dTypeBook_malformedEnumNode_4 rfl (lv_at hl 1 rfl) ?_
  refine pu_Vi (rest := []) S hC (k1_Trees_kindOf l γ A κ x1) meTrees_kindOf qw_920bbe1ee1 ⟨Nat.le_of_ble_eq_true rfl, Nat.le_of_ble_eq_true rfl⟩ (rv_1 hC hI) hI rfl hl.1 rfl (Nat.le_of_ble_eq_true rfl) dTypeBook_malformedEnumNode_5 ⟨Nat.zero_le _, Nat.zero_le _⟩ (fun r24 hr24 => ?_)
  refine lv_bipush (v := 53) hx hb dTypeBook_malformedEnumNode_8 (by decide) ?_
  refine lv_icmp_eq (tgt := 15) hx hb dTypeBook_malformedEnumNode_10 (by decide) (fun c25 => ?_) (fun c25 => ?_)
  · refine lv_aload_n hx hb dTypeBook_malformedEnumNode_15 rfl (lv_at hl 0 rfl) ?_
    refine of_get S hC (of_0_0 hI) in_TypeBook rfl (by decide) qw_6151ee7924 dTypeBook_malformedEnumNode_16 ?_
    refine lv_iload_n hx hb dTypeBook_malformedEnumNode_19 rfl (lv_at hl 1 rfl) ?_
    refine pu_Vi (rest := []) S hC (k1_Trees_countOf l γ A κ x1) meTrees_countOf qw_75eb836d1a ⟨Nat.le_of_ble_eq_true rfl, Nat.le_of_ble_eq_true rfl⟩ (rv_1 hC hI) hI rfl hl.1 rfl (Nat.le_of_ble_eq_true rfl) dTypeBook_malformedEnumNode_20 ⟨Nat.zero_le _, Nat.zero_le _⟩ (fun r26 hr26 => ?_)
    refine lv_istore_n (lv' := [(2, .int r26), (0, .ref (γ.2.2.2 0)), (1, .int x1)]) hx hb dTypeBook_malformedEnumNode_23 rfl hl (by decide) rfl (fun ls hl => ?_)
    refine lv_iload_n hx hb dTypeBook_malformedEnumNode_24 rfl (lv_at hl 0 rfl) ?_
    refine lv_iconst (v := 1) hx hb dTypeBook_malformedEnumNode_25 (by decide) ?_
    refine lv_icmp_lt (tgt := 35) hx hb dTypeBook_malformedEnumNode_26 (by decide) (fun c27 => ?_) (fun c27 => ?_)
    · exact J35 ls x1 r26 (lv_sub hl [1, 2, 0] rfl)
    · refine lv_iload_n hx hb dTypeBook_malformedEnumNode_29 rfl (lv_at hl 0 rfl) ?_
      refine lv_bipush (v := 64) hx hb dTypeBook_malformedEnumNode_30 (by decide) ?_
      refine lv_icmp_le (tgt := 39) hx hb dTypeBook_malformedEnumNode_32 (by decide) (fun c28 => ?_) (fun c28 => ?_)
      · refine lv_iconst (v := (-1)) hx hb dTypeBook_malformedEnumNode_39 (by decide) ?_
        exact J40 ls x1 r26 (-1) (lv_sub hl [1, 2, 0] rfl)
      · exact J35 ls x1 r26 (lv_sub hl [1, 2, 0] rfl)
  · refine lv_iload_n hx hb dTypeBook_malformedEnumNode_13 rfl (lv_at hl 1 rfl) ?_
    exact hE _ _ _ trivial dTypeBook_malformedEnumNode_14

set_option maxHeartbeats 4000000 in
set_option maxRecDepth 100000 in
theorem k_TypeBook_takenEnumNode (l : Launch) (γ : gE) (A : Nat → Prop) (κ : Nat → Nat) (x1 : Int32)  : PU l yTypeBook_takenEnumNode bTypeBook_takenEnumNode 6 (some .int) 3 65 [.ref (γ.2.2.2 0), .int x1] γ (INV γ A κ) (vp_Si (fun v : Int32 => True)) := by
  refine pu_openI (by decide) (Nat.le_of_ble_eq_true rfl) ?_
  intro p e s m args below meth c ls Q S hC hI hE hl
  obtain ⟨hx, hb, hml, hown, hW⟩ := id S
  have hl : lv_has ls 6 [(0, .ref (γ.2.2.2 0)), (1, .int x1)] := hl
  have J34 : ∀ (N34 : Nat) (ls : Array Slot)  (i1 : Int32) (i2 : Int32) (i3 : Int32) (i4 : Int32), (2147483647 - i4.toInt).toNat = N34 → lv_has ls 6 [(0, .ref (γ.2.2.2 0)), (1, .int i1), (2, .int i2), (3, .int i3), (4, .int i4)] → W p l e (bs_rm 3 0 0 65) s m args below meth c s.heap [] 0 0 Q (F0 m 34 ls []) := by
    intro N34
    induction N34 using Nat.strongRecOn with
    | ind N34 ih34 =>
      intro ls  i1 i2 i3 i4  hm34 hl
      refine lv_iload hx hb dTypeBook_takenEnumNode_34 (lv_at hl 4 rfl) ?_
      refine lv_iload_n hx hb dTypeBook_takenEnumNode_36 rfl (lv_at hl 1 rfl) ?_
      refine lv_icmp_ge (tgt := 88) hx hb dTypeBook_takenEnumNode_37 (by decide) (fun c13 => ?_) (fun c13 => ?_)
      · refine lv_iconst (v := (-1)) hx hb dTypeBook_takenEnumNode_88 (by decide) ?_
        exact hE _ _ _ trivial dTypeBook_takenEnumNode_89
      · refine lv_aload_n hx hb dTypeBook_takenEnumNode_40 rfl (lv_at hl 0 rfl) ?_
        refine of_get S hC (of_0_0 hI) in_TypeBook rfl (by decide) qw_6151ee7924 dTypeBook_takenEnumNode_41 ?_
        refine lv_iload hx hb dTypeBook_takenEnumNode_44 (lv_at hl 4 rfl) ?_
        refine pu_Vi (rest := []) S hC (k1_Trees_valueOf l γ A κ i4) meTrees_valueOf qw_1062a20d6a ⟨Nat.le_of_ble_eq_true rfl, Nat.le_of_ble_eq_true rfl⟩ (rv_1 hC hI) hI rfl hl.1 rfl (Nat.le_of_ble_eq_true rfl) dTypeBook_takenEnumNode_46 ⟨Nat.zero_le _, Nat.zero_le _⟩ (fun r14 hr14 => ?_)
        refine lv_istore (lv' := [(5, .int r14), (0, .ref (γ.2.2.2 0)), (1, .int i1), (2, .int i2), (3, .int i3), (4, .int i4)]) hx hb dTypeBook_takenEnumNode_49 hl (by decide) rfl (fun ls hl => ?_)
        refine lv_iload hx hb dTypeBook_takenEnumNode_51 (lv_at hl 0 rfl) ?_
        refine lv_iload_n hx hb dTypeBook_takenEnumNode_53 rfl (lv_at hl 3 rfl) ?_
        refine lv_icmp_eq (tgt := 79) hx hb dTypeBook_takenEnumNode_54 (by decide) (fun c15 => ?_) (fun c15 => ?_)
        · refine lv_iload hx hb dTypeBook_takenEnumNode_79 (lv_at hl 5 rfl) ?_
          exact hE _ _ _ trivial dTypeBook_takenEnumNode_81
        · refine lv_aload_n hx hb dTypeBook_takenEnumNode_57 rfl (lv_at hl 1 rfl) ?_
          refine of_get S hC (of_0_1 hI) in_TypeBook rfl (by decide) qw_a088f6ef48 dTypeBook_takenEnumNode_58 ?_
          refine lv_iload hx hb dTypeBook_takenEnumNode_61 (lv_at hl 0 rfl) ?_
          refine pu_Vi (rest := []) S hC (k2_Names_isTaken l γ A κ r14) meNames_isTaken qw_5bf4c88d20 ⟨Nat.le_of_ble_eq_true rfl, Nat.le_of_ble_eq_true rfl⟩ (rv_2 hC hI) hI rfl hl.1 rfl (Nat.le_of_ble_eq_true rfl) dTypeBook_takenEnumNode_63 ⟨Nat.zero_le _, Nat.zero_le _⟩ (fun r16 hr16 => ?_)
          refine lv_if_ne (tgt := 79) hx hb dTypeBook_takenEnumNode_66 (by decide) (fun c17 => ?_) (fun c17 => ?_)
          · refine lv_iload hx hb dTypeBook_takenEnumNode_79 (lv_at hl 5 rfl) ?_
            exact hE _ _ _ trivial dTypeBook_takenEnumNode_81
          · refine lv_aload_n hx hb dTypeBook_takenEnumNode_69 rfl (lv_at hl 1 rfl) ?_
            refine lv_iload_n hx hb dTypeBook_takenEnumNode_70 rfl (lv_at hl 4 rfl) ?_
            refine lv_iload hx hb dTypeBook_takenEnumNode_71 (lv_at hl 5 rfl) ?_
            refine pu_Vi (rest := []) S hC (k_TypeBook_isNameOfOneBefore l γ A κ i3 i4) meTypeBook_isNameOfOneBefore qw_15066d379c ⟨Nat.le_of_ble_eq_true rfl, Nat.le_of_ble_eq_true rfl⟩ (rv_0 hC hI) hI rfl hl.1 rfl (Nat.le_of_ble_eq_true rfl) dTypeBook_takenEnumNode_73 ⟨Nat.zero_le _, Nat.zero_le _⟩ (fun r18 hr18 => ?_)
            refine lv_if_eq (tgt := 82) hx hb dTypeBook_takenEnumNode_76 (by decide) (fun c19 => ?_) (fun c19 => ?_)
            · obtain ⟨v20, ev20⟩ : ∃ y : Int32, y = i4 + 1 := ⟨_, rfl⟩
              refine lv_iinc (v := v20) (lv' := [(4, .int v20), (5, .int r14), (0, .ref (γ.2.2.2 0)), (1, .int i1), (2, .int i2), (3, .int i3)]) hx hb dTypeBook_takenEnumNode_82 hl (k := 5) rfl (by rw [ev20]; rfl) (by decide) rfl (fun ls hl => ?_)
              refine lv_goto (tgt := 34) hx hb dTypeBook_takenEnumNode_85 (by decide) ?_
              exact ih34 _ (by have q1 : i4.toInt < 2147483647 := (by first | exact (mu_up (k := i4) (by assumption)).2 | assumption); have q2 := mu_lt q1; rw [← ev20] at q2; omega) ls i1 i2 i3 v20 rfl (lv_sub hl [2, 3, 4, 5, 0] rfl)
            · refine lv_iload hx hb dTypeBook_takenEnumNode_79 (lv_at hl 5 rfl) ?_
              exact hE _ _ _ trivial dTypeBook_takenEnumNode_81
  refine lv_aload_n hx hb dTypeBook_takenEnumNode_0 rfl (lv_at hl 0 rfl) ?_
  refine of_get S hC (of_0_0 hI) in_TypeBook rfl (by decide) qw_6151ee7924 dTypeBook_takenEnumNode_1 ?_
  refine lv_iload_n hx hb dTypeBook_takenEnumNode_4 rfl (lv_at hl 1 rfl) ?_
  refine pu_Vi (rest := []) S hC (k1_Trees_valueOf l γ A κ x1) meTrees_valueOf qw_1062a20d6a ⟨Nat.le_of_ble_eq_true rfl, Nat.le_of_ble_eq_true rfl⟩ (rv_1 hC hI) hI rfl hl.1 rfl (Nat.le_of_ble_eq_true rfl) dTypeBook_takenEnumNode_5 ⟨Nat.zero_le _, Nat.zero_le _⟩ (fun r21 hr21 => ?_)
  refine lv_istore_n (lv' := [(2, .int r21), (0, .ref (γ.2.2.2 0)), (1, .int x1)]) hx hb dTypeBook_takenEnumNode_8 rfl hl (by decide) rfl (fun ls hl => ?_)
  refine lv_aload_n hx hb dTypeBook_takenEnumNode_9 rfl (lv_at hl 1 rfl) ?_
  refine of_get S hC (of_0_1 hI) in_TypeBook rfl (by decide) qw_a088f6ef48 dTypeBook_takenEnumNode_10 ?_
  refine lv_iload_n hx hb dTypeBook_takenEnumNode_13 rfl (lv_at hl 0 rfl) ?_
  refine pu_Vi (rest := []) S hC (k2_Names_isTaken l γ A κ r21) meNames_isTaken qw_5bf4c88d20 ⟨Nat.le_of_ble_eq_true rfl, Nat.le_of_ble_eq_true rfl⟩ (rv_2 hC hI) hI rfl hl.1 rfl (Nat.le_of_ble_eq_true rfl) dTypeBook_takenEnumNode_14 ⟨Nat.zero_le _, Nat.zero_le _⟩ (fun r22 hr22 => ?_)
  refine lv_if_eq (tgt := 22) hx hb dTypeBook_takenEnumNode_17 (by decide) (fun c23 => ?_) (fun c23 => ?_)
  · refine lv_aload_n hx hb dTypeBook_takenEnumNode_22 rfl (lv_at hl 1 rfl) ?_
    refine of_get S hC (of_0_0 hI) in_TypeBook rfl (by decide) qw_6151ee7924 dTypeBook_takenEnumNode_23 ?_
    refine lv_iload_n hx hb dTypeBook_takenEnumNode_26 rfl (lv_at hl 2 rfl) ?_
    refine pu_Vi (rest := []) S hC (k1_Trees_firstOf l γ A κ x1) meTrees_firstOf qw_cf09947176 ⟨Nat.le_of_ble_eq_true rfl, Nat.le_of_ble_eq_true rfl⟩ (rv_1 hC hI) hI rfl hl.1 rfl (Nat.le_of_ble_eq_true rfl) dTypeBook_takenEnumNode_27 ⟨Nat.zero_le _, Nat.zero_le _⟩ (fun r24 hr24 => ?_)
    refine lv_istore_n (lv' := [(3, .int r24), (2, .int r21), (0, .ref (γ.2.2.2 0)), (1, .int x1)]) hx hb dTypeBook_takenEnumNode_30 rfl hl (by decide) rfl (fun ls hl => ?_)
    refine lv_iload_n hx hb dTypeBook_takenEnumNode_31 rfl (lv_at hl 0 rfl) ?_
    refine lv_istore (lv' := [(4, .int r24), (3, .int r24), (2, .int r21), (0, .ref (γ.2.2.2 0)), (1, .int x1)]) hx hb dTypeBook_takenEnumNode_32 hl (by decide) rfl (fun ls hl => ?_)
    exact J34 _ ls x1 r21 r24 r24 rfl (lv_sub hl [3, 4, 2, 1, 0] rfl)
  · refine lv_iload_n hx hb dTypeBook_takenEnumNode_20 rfl (lv_at hl 2 rfl) ?_
    exact hE _ _ _ trivial dTypeBook_takenEnumNode_21

set_option maxHeartbeats 4000000 in
set_option maxRecDepth 100000 in
theorem c_Looks_setMeaning (l : Launch) (γ : gE) (Z : Nat → Prop) (a rw L : Nat) (x1 : Int32) (x2 : Int32)  : MU l yLooks_setMeaning bLooks_setMeaning 3 (none) 1 21 0 0 [.ref a, .int x1, .int x2] γ Z (cmp γ (fLooks γ a rw L) Z) (mQv (fun H => cmp γ (fLooks γ a rw L) Z H) Z) := by
  refine mu_openV (by decide) (Nat.le_of_ble_eq_true rfl) ?_
  intro p e s m args below meth c ls Q S hnm hC hA hI hE hl
  obtain ⟨hx, hb, hml, hown, hW⟩ := id S
  have hS : va_S Z s.heap s.heap [] := va_S.rf
  have hl : lv_has ls 3 [(0, .ref a), (1, .int x1), (2, .int x2)] := hl
  refine lv_aload_n hx hb dLooks_setMeaning_0 rfl (lv_at hl 0 rfl) ?_
  refine lv_iload_n hx hb dLooks_setMeaning_1 rfl (lv_at hl 1 rfl) ?_
  obtain ⟨ws_2, ⟨b0_2, b1_2, b2_2, b3_2, b4_2, f0_2, f1_2, f2_2, f3_2, f4_2, rfl, h1_2, h2_2⟩, hP, hD⟩ := id hI
  have hP : va_P γ.1 vwCl [(a, .inr (6, [.ref b0_2, .ref b1_2, .ref b2_2, .ref b3_2, .ref b4_2, .ref rw])), (b0_2, .inl (γ.2.1, L, .inl f0_2)), (b1_2, .inl (γ.2.1, L, .inl f1_2)), (b2_2, .inl (γ.2.1, L, .inl f2_2)), (b3_2, .inl (γ.2.1, L, .inl f3_2)), (b4_2, .inl (γ.2.1, L, .inl f4_2))] _ := hP
  have hD : va_D Z [(a, .inr (6, [.ref b0_2, .ref b1_2, .ref b2_2, .ref b3_2, .ref b4_2, .ref rw])), (b0_2, .inl (γ.2.1, L, .inl f0_2)), (b1_2, .inl (γ.2.1, L, .inl f1_2)), (b2_2, .inl (γ.2.1, L, .inl f2_2)), (b3_2, .inl (γ.2.1, L, .inl f3_2)), (b4_2, .inl (γ.2.1, L, .inl f4_2))] := hD
  refine pu_Vi (rest := []) S hC (c_Looks_has l γ Z a rw L x1) meLooks_has qw_4e5fd4a1cd ⟨Nat.le_of_ble_eq_true rfl, Nat.le_of_ble_eq_true rfl⟩ (va_recv hC.1 hP (ci := 6) (q0 := 0) rfl rfl) hI rfl hl.1 rfl (Nat.le_of_ble_eq_true rfl) dLooks_setMeaning_2 ⟨Nat.zero_le _, Nat.zero_le _⟩ (fun r4 hr4 => ?_)
  refine lv_if_eq (tgt := 15) hx hb dLooks_setMeaning_5 (by decide) (fun c5 => ?_) (fun c5 => ?_)
  · exact hE _ _ 15 ls hS hI dLooks_setMeaning_15
  · refine lv_aload_n hx hb dLooks_setMeaning_8 rfl (lv_at hl 0 rfl) ?_
    refine va_get (D := γ.1) (ci := 6) (v := .ref b2_2) (C := R_Looks) (T := T_Looks) (N := 6) (Ts := bs_W0) hx hb hW in_Looks hown hC.1 hP 0 rfl rfl 2 (by decide) (hW _ qw_427e012605) (fun _ h9 => h9) rfl dLooks_setMeaning_9 ?_
    refine lv_iload_n hx hb dLooks_setMeaning_12 rfl (lv_at hl 1 rfl) ?_
    refine lv_iload_n hx hb dLooks_setMeaning_13 rfl (lv_at hl 2 rfl) ?_
    refine va_iast hx hb hC.1 hP hD hS 3 0 rfl rfl (in_has (by assumption) (by assumption) (by omega) (by omega)) dLooks_setMeaning_14 (fun H locs hP hD hS => ?_)
    obtain ⟨u6, eu6⟩ : ∃ z : Nat → Int32, z = upd f2_2 (x1).toNatClampNeg x2 := ⟨_, rfl⟩
    rw [← eu6] at hP hD
    have hP : va_P γ.1 vwCl [(a, .inr (6, [.ref b0_2, .ref b1_2, .ref b2_2, .ref b3_2, .ref b4_2, .ref rw])), (b0_2, .inl (γ.2.1, L, .inl f0_2)), (b1_2, .inl (γ.2.1, L, .inl f1_2)), (b2_2, .inl (γ.2.1, L, .inl u6)), (b3_2, .inl (γ.2.1, L, .inl f3_2)), (b4_2, .inl (γ.2.1, L, .inl f4_2))] _ := hP
    have hD : va_D Z [(a, .inr (6, [.ref b0_2, .ref b1_2, .ref b2_2, .ref b3_2, .ref b4_2, .ref rw])), (b0_2, .inl (γ.2.1, L, .inl f0_2)), (b1_2, .inl (γ.2.1, L, .inl f1_2)), (b2_2, .inl (γ.2.1, L, .inl u6)), (b3_2, .inl (γ.2.1, L, .inl f3_2)), (b4_2, .inl (γ.2.1, L, .inl f4_2))] := hD
    have hI : cmp γ (fLooks γ a rw L) Z _ := ⟨_, ⟨b0_2, b1_2, b2_2, b3_2, b4_2, f0_2, f1_2, u6, f3_2, f4_2, rfl, (by omega), (by omega)⟩, hP, hD⟩
    exact hE _ _ 15 ls hS hI dLooks_setMeaning_15
theorem k6_Looks_setMeaning (l : Launch) (γ : gE) (A : Nat → Prop) (κ : Nat → Nat) (x1 : Int32) (x2 : Int32)  : MU l yLooks_setMeaning bLooks_setMeaning 3 (none) 1 21 0 0 [.ref (γ.2.2.2 6), .int x1, .int x2] γ A (INV γ A κ) (mQv (fun H => INV γ A κ H) A) :=
  mu_upv (κ := κ) (κ' := κ) 7 (by decide) (by decide) (fun _ _ _ _ => rfl) (fun Z => c_Looks_setMeaning l γ Z (γ.2.2.2 6) (γ.2.2.2 7) (κ 6) x1 x2)
theorem k9_Looks_setMeaning (l : Launch) (γ : gE) (A : Nat → Prop) (κ : Nat → Nat) (x1 : Int32) (x2 : Int32)  : MU l yLooks_setMeaning bLooks_setMeaning 3 (none) 1 21 0 0 [.ref (γ.2.2.2 9), .int x1, .int x2] γ A (INV γ A κ) (mQv (fun H => INV γ A κ H) A) :=
  mu_upv (κ := κ) (κ' := κ) 9 (by decide) (by decide) (fun _ _ _ _ => rfl) (fun Z => c_Looks_setMeaning l γ Z (γ.2.2.2 9) (γ.2.2.2 10) (κ 7) x1 x2)

set_option maxHeartbeats 4000000 in
set_option maxRecDepth 100000 in
theorem c_Looks_setNumber (l : Launch) (γ : gE) (Z : Nat → Prop) (a rw L : Nat) (x1 : Int32) (x2 : Int32)  : MU l yLooks_setNumber bLooks_setNumber 3 (none) 1 21 0 0 [.ref a, .int x1, .int x2] γ Z (cmp γ (fLooks γ a rw L) Z) (mQv (fun H => cmp γ (fLooks γ a rw L) Z H) Z) := by
  refine mu_openV (by decide) (Nat.le_of_ble_eq_true rfl) ?_
  intro p e s m args below meth c ls Q S hnm hC hA hI hE hl
  obtain ⟨hx, hb, hml, hown, hW⟩ := id S
  have hS : va_S Z s.heap s.heap [] := va_S.rf
  have hl : lv_has ls 3 [(0, .ref a), (1, .int x1), (2, .int x2)] := hl
  refine lv_aload_n hx hb dLooks_setNumber_0 rfl (lv_at hl 0 rfl) ?_
  refine lv_iload_n hx hb dLooks_setNumber_1 rfl (lv_at hl 1 rfl) ?_
  obtain ⟨ws_2, ⟨b0_2, b1_2, b2_2, b3_2, b4_2, f0_2, f1_2, f2_2, f3_2, f4_2, rfl, h1_2, h2_2⟩, hP, hD⟩ := id hI
  have hP : va_P γ.1 vwCl [(a, .inr (6, [.ref b0_2, .ref b1_2, .ref b2_2, .ref b3_2, .ref b4_2, .ref rw])), (b0_2, .inl (γ.2.1, L, .inl f0_2)), (b1_2, .inl (γ.2.1, L, .inl f1_2)), (b2_2, .inl (γ.2.1, L, .inl f2_2)), (b3_2, .inl (γ.2.1, L, .inl f3_2)), (b4_2, .inl (γ.2.1, L, .inl f4_2))] _ := hP
  have hD : va_D Z [(a, .inr (6, [.ref b0_2, .ref b1_2, .ref b2_2, .ref b3_2, .ref b4_2, .ref rw])), (b0_2, .inl (γ.2.1, L, .inl f0_2)), (b1_2, .inl (γ.2.1, L, .inl f1_2)), (b2_2, .inl (γ.2.1, L, .inl f2_2)), (b3_2, .inl (γ.2.1, L, .inl f3_2)), (b4_2, .inl (γ.2.1, L, .inl f4_2))] := hD
  refine pu_Vi (rest := []) S hC (c_Looks_has l γ Z a rw L x1) meLooks_has qw_4e5fd4a1cd ⟨Nat.le_of_ble_eq_true rfl, Nat.le_of_ble_eq_true rfl⟩ (va_recv hC.1 hP (ci := 6) (q0 := 0) rfl rfl) hI rfl hl.1 rfl (Nat.le_of_ble_eq_true rfl) dLooks_setNumber_2 ⟨Nat.zero_le _, Nat.zero_le _⟩ (fun r4 hr4 => ?_)
  refine lv_if_eq (tgt := 15) hx hb dLooks_setNumber_5 (by decide) (fun c5 => ?_) (fun c5 => ?_)
  · exact hE _ _ 15 ls hS hI dLooks_setNumber_15
  · refine lv_aload_n hx hb dLooks_setNumber_8 rfl (lv_at hl 0 rfl) ?_
    refine va_get (D := γ.1) (ci := 6) (v := .ref b3_2) (C := R_Looks) (T := T_Looks) (N := 6) (Ts := bs_W0) hx hb hW in_Looks hown hC.1 hP 0 rfl rfl 3 (by decide) (hW _ qw_5344cf30a3) (fun _ h9 => h9) rfl dLooks_setNumber_9 ?_
    refine lv_iload_n hx hb dLooks_setNumber_12 rfl (lv_at hl 1 rfl) ?_
    refine lv_iload_n hx hb dLooks_setNumber_13 rfl (lv_at hl 2 rfl) ?_
    refine va_iast hx hb hC.1 hP hD hS 4 0 rfl rfl (in_has (by assumption) (by assumption) (by omega) (by omega)) dLooks_setNumber_14 (fun H locs hP hD hS => ?_)
    obtain ⟨u6, eu6⟩ : ∃ z : Nat → Int32, z = upd f3_2 (x1).toNatClampNeg x2 := ⟨_, rfl⟩
    rw [← eu6] at hP hD
    have hP : va_P γ.1 vwCl [(a, .inr (6, [.ref b0_2, .ref b1_2, .ref b2_2, .ref b3_2, .ref b4_2, .ref rw])), (b0_2, .inl (γ.2.1, L, .inl f0_2)), (b1_2, .inl (γ.2.1, L, .inl f1_2)), (b2_2, .inl (γ.2.1, L, .inl f2_2)), (b3_2, .inl (γ.2.1, L, .inl u6)), (b4_2, .inl (γ.2.1, L, .inl f4_2))] _ := hP
    have hD : va_D Z [(a, .inr (6, [.ref b0_2, .ref b1_2, .ref b2_2, .ref b3_2, .ref b4_2, .ref rw])), (b0_2, .inl (γ.2.1, L, .inl f0_2)), (b1_2, .inl (γ.2.1, L, .inl f1_2)), (b2_2, .inl (γ.2.1, L, .inl f2_2)), (b3_2, .inl (γ.2.1, L, .inl u6)), (b4_2, .inl (γ.2.1, L, .inl f4_2))] := hD
    have hI : cmp γ (fLooks γ a rw L) Z _ := ⟨_, ⟨b0_2, b1_2, b2_2, b3_2, b4_2, f0_2, f1_2, f2_2, u6, f4_2, rfl, (by omega), (by omega)⟩, hP, hD⟩
    exact hE _ _ 15 ls hS hI dLooks_setNumber_15
theorem k6_Looks_setNumber (l : Launch) (γ : gE) (A : Nat → Prop) (κ : Nat → Nat) (x1 : Int32) (x2 : Int32)  : MU l yLooks_setNumber bLooks_setNumber 3 (none) 1 21 0 0 [.ref (γ.2.2.2 6), .int x1, .int x2] γ A (INV γ A κ) (mQv (fun H => INV γ A κ H) A) :=
  mu_upv (κ := κ) (κ' := κ) 7 (by decide) (by decide) (fun _ _ _ _ => rfl) (fun Z => c_Looks_setNumber l γ Z (γ.2.2.2 6) (γ.2.2.2 7) (κ 6) x1 x2)
theorem k9_Looks_setNumber (l : Launch) (γ : gE) (A : Nat → Prop) (κ : Nat → Nat) (x1 : Int32) (x2 : Int32)  : MU l yLooks_setNumber bLooks_setNumber 3 (none) 1 21 0 0 [.ref (γ.2.2.2 9), .int x1, .int x2] γ A (INV γ A κ) (mQv (fun H => INV γ A κ H) A) :=
  mu_upv (κ := κ) (κ' := κ) 9 (by decide) (by decide) (fun _ _ _ _ => rfl) (fun Z => c_Looks_setNumber l γ Z (γ.2.2.2 9) (γ.2.2.2 10) (κ 7) x1 x2)

set_option maxHeartbeats 4000000 in
set_option maxRecDepth 100000 in
theorem c_Looks_note (l : Launch) (γ : gE) (Z : Nat → Prop) (a rw L : Nat) (x1 : Int32) (x2 : Int32) (x3 : Int32) (x4 : Int32)  : MU l yLooks_note bLooks_note 5 (none) 1 21 0 0 [.ref a, .int x1, .int x2, .int x3, .int x4] γ Z (cmp γ (fLooks γ a rw L) Z) (mQv (fun H => cmp γ (fLooks γ a rw L) Z H) Z) := by
  refine mu_openV (by decide) (Nat.le_of_ble_eq_true rfl) ?_
  intro p e s m args below meth c ls Q S hnm hC hA hI hE hl
  obtain ⟨hx, hb, hml, hown, hW⟩ := id S
  have hS : va_S Z s.heap s.heap [] := va_S.rf
  have hl : lv_has ls 5 [(0, .ref a), (1, .int x1), (2, .int x2), (3, .int x3), (4, .int x4)] := hl
  refine lv_aload_n hx hb dLooks_note_0 rfl (lv_at hl 0 rfl) ?_
  refine lv_iload_n hx hb dLooks_note_1 rfl (lv_at hl 1 rfl) ?_
  obtain ⟨ws_2, ⟨b0_2, b1_2, b2_2, b3_2, b4_2, f0_2, f1_2, f2_2, f3_2, f4_2, rfl, h1_2, h2_2⟩, hP, hD⟩ := id hI
  have hP : va_P γ.1 vwCl [(a, .inr (6, [.ref b0_2, .ref b1_2, .ref b2_2, .ref b3_2, .ref b4_2, .ref rw])), (b0_2, .inl (γ.2.1, L, .inl f0_2)), (b1_2, .inl (γ.2.1, L, .inl f1_2)), (b2_2, .inl (γ.2.1, L, .inl f2_2)), (b3_2, .inl (γ.2.1, L, .inl f3_2)), (b4_2, .inl (γ.2.1, L, .inl f4_2))] _ := hP
  have hD : va_D Z [(a, .inr (6, [.ref b0_2, .ref b1_2, .ref b2_2, .ref b3_2, .ref b4_2, .ref rw])), (b0_2, .inl (γ.2.1, L, .inl f0_2)), (b1_2, .inl (γ.2.1, L, .inl f1_2)), (b2_2, .inl (γ.2.1, L, .inl f2_2)), (b3_2, .inl (γ.2.1, L, .inl f3_2)), (b4_2, .inl (γ.2.1, L, .inl f4_2))] := hD
  refine pu_Vi (rest := []) S hC (c_Looks_has l γ Z a rw L x1) meLooks_has qw_4e5fd4a1cd ⟨Nat.le_of_ble_eq_true rfl, Nat.le_of_ble_eq_true rfl⟩ (va_recv hC.1 hP (ci := 6) (q0 := 0) rfl rfl) hI rfl hl.1 rfl (Nat.le_of_ble_eq_true rfl) dLooks_note_2 ⟨Nat.zero_le _, Nat.zero_le _⟩ (fun r8 hr8 => ?_)
  refine lv_if_eq (tgt := 38) hx hb dLooks_note_5 (by decide) (fun c9 => ?_) (fun c9 => ?_)
  · exact hE _ _ 38 ls hS hI dLooks_note_38
  · refine lv_aload_n hx hb dLooks_note_8 rfl (lv_at hl 0 rfl) ?_
    refine va_get (D := γ.1) (ci := 6) (v := .ref b0_2) (C := R_Looks) (T := T_Looks) (N := 6) (Ts := bs_W0) hx hb hW in_Looks hown hC.1 hP 0 rfl rfl 0 (by decide) (hW _ qw_ac7df03aa7) (fun _ h9 => h9) rfl dLooks_note_9 ?_
    refine lv_iload_n hx hb dLooks_note_12 rfl (lv_at hl 1 rfl) ?_
    refine lv_iload_n hx hb dLooks_note_13 rfl (lv_at hl 2 rfl) ?_
    refine va_iast hx hb hC.1 hP hD hS 1 0 rfl rfl (in_has (by assumption) (by assumption) (by omega) (by omega)) dLooks_note_14 (fun H locs hP hD hS => ?_)
    obtain ⟨u10, eu10⟩ : ∃ z : Nat → Int32, z = upd f0_2 (x1).toNatClampNeg x2 := ⟨_, rfl⟩
    rw [← eu10] at hP hD
    have hP : va_P γ.1 vwCl [(a, .inr (6, [.ref b0_2, .ref b1_2, .ref b2_2, .ref b3_2, .ref b4_2, .ref rw])), (b0_2, .inl (γ.2.1, L, .inl u10)), (b1_2, .inl (γ.2.1, L, .inl f1_2)), (b2_2, .inl (γ.2.1, L, .inl f2_2)), (b3_2, .inl (γ.2.1, L, .inl f3_2)), (b4_2, .inl (γ.2.1, L, .inl f4_2))] _ := hP
    have hD : va_D Z [(a, .inr (6, [.ref b0_2, .ref b1_2, .ref b2_2, .ref b3_2, .ref b4_2, .ref rw])), (b0_2, .inl (γ.2.1, L, .inl u10)), (b1_2, .inl (γ.2.1, L, .inl f1_2)), (b2_2, .inl (γ.2.1, L, .inl f2_2)), (b3_2, .inl (γ.2.1, L, .inl f3_2)), (b4_2, .inl (γ.2.1, L, .inl f4_2))] := hD
    refine lv_aload_n hx hb dLooks_note_15 rfl (lv_at hl 0 rfl) ?_
    refine va_get (D := γ.1) (ci := 6) (v := .ref b1_2) (C := R_Looks) (T := T_Looks) (N := 6) (Ts := bs_W0) hx hb hW in_Looks hown hC.1 hP 0 rfl rfl 1 (by decide) (hW _ qw_7dd30c70bd) (fun _ h9 => h9) rfl dLooks_note_16 ?_
    refine lv_iload_n hx hb dLooks_note_19 rfl (lv_at hl 1 rfl) ?_
    refine lv_iload_n hx hb dLooks_note_20 rfl (lv_at hl 3 rfl) ?_
    refine va_iast hx hb hC.1 hP hD hS 2 0 rfl rfl (in_has (by assumption) (by assumption) (by omega) (by omega)) dLooks_note_21 (fun H locs hP hD hS => ?_)
    obtain ⟨u11, eu11⟩ : ∃ z : Nat → Int32, z = upd f1_2 (x1).toNatClampNeg x3 := ⟨_, rfl⟩
    rw [← eu11] at hP hD
    have hP : va_P γ.1 vwCl [(a, .inr (6, [.ref b0_2, .ref b1_2, .ref b2_2, .ref b3_2, .ref b4_2, .ref rw])), (b0_2, .inl (γ.2.1, L, .inl u10)), (b1_2, .inl (γ.2.1, L, .inl u11)), (b2_2, .inl (γ.2.1, L, .inl f2_2)), (b3_2, .inl (γ.2.1, L, .inl f3_2)), (b4_2, .inl (γ.2.1, L, .inl f4_2))] _ := hP
    have hD : va_D Z [(a, .inr (6, [.ref b0_2, .ref b1_2, .ref b2_2, .ref b3_2, .ref b4_2, .ref rw])), (b0_2, .inl (γ.2.1, L, .inl u10)), (b1_2, .inl (γ.2.1, L, .inl u11)), (b2_2, .inl (γ.2.1, L, .inl f2_2)), (b3_2, .inl (γ.2.1, L, .inl f3_2)), (b4_2, .inl (γ.2.1, L, .inl f4_2))] := hD
    refine lv_aload_n hx hb dLooks_note_22 rfl (lv_at hl 0 rfl) ?_
    refine va_get (D := γ.1) (ci := 6) (v := .ref b4_2) (C := R_Looks) (T := T_Looks) (N := 6) (Ts := bs_W0) hx hb hW in_Looks hown hC.1 hP 0 rfl rfl 4 (by decide) (hW _ qw_d08a1abfac) (fun _ h9 => h9) rfl dLooks_note_23 ?_
    refine lv_iload_n hx hb dLooks_note_26 rfl (lv_at hl 1 rfl) ?_
    refine lv_iload hx hb dLooks_note_27 (lv_at hl 4 rfl) ?_
    refine lv_if_eq (tgt := 36) hx hb dLooks_note_29 (by decide) (fun c12 => ?_) (fun c12 => ?_)
    · refine lv_iconst (v := 0) hx hb dLooks_note_36 (by decide) ?_
      refine va_iast hx hb hC.1 hP hD hS 5 0 rfl rfl (in_has (by assumption) (by assumption) (by omega) (by omega)) dLooks_note_37 (fun H locs hP hD hS => ?_)
      obtain ⟨u13, eu13⟩ : ∃ z : Nat → Int32, z = upd f4_2 (x1).toNatClampNeg 0 := ⟨_, rfl⟩
      rw [← eu13] at hP hD
      have hP : va_P γ.1 vwCl [(a, .inr (6, [.ref b0_2, .ref b1_2, .ref b2_2, .ref b3_2, .ref b4_2, .ref rw])), (b0_2, .inl (γ.2.1, L, .inl u10)), (b1_2, .inl (γ.2.1, L, .inl u11)), (b2_2, .inl (γ.2.1, L, .inl f2_2)), (b3_2, .inl (γ.2.1, L, .inl f3_2)), (b4_2, .inl (γ.2.1, L, .inl u13))] _ := hP
      have hD : va_D Z [(a, .inr (6, [.ref b0_2, .ref b1_2, .ref b2_2, .ref b3_2, .ref b4_2, .ref rw])), (b0_2, .inl (γ.2.1, L, .inl u10)), (b1_2, .inl (γ.2.1, L, .inl u11)), (b2_2, .inl (γ.2.1, L, .inl f2_2)), (b3_2, .inl (γ.2.1, L, .inl f3_2)), (b4_2, .inl (γ.2.1, L, .inl u13))] := hD
      have hI : cmp γ (fLooks γ a rw L) Z _ := ⟨_, ⟨b0_2, b1_2, b2_2, b3_2, b4_2, u10, u11, f2_2, f3_2, u13, rfl, (by omega), (by omega)⟩, hP, hD⟩
      exact hE _ _ 38 ls hS hI dLooks_note_38
    · refine lv_iconst (v := 1) hx hb dLooks_note_32 (by decide) ?_
      refine lv_goto (tgt := 37) hx hb dLooks_note_33 (by decide) ?_
      refine va_iast hx hb hC.1 hP hD hS 5 0 rfl rfl (in_has (by assumption) (by assumption) (by omega) (by omega)) dLooks_note_37 (fun H locs hP hD hS => ?_)
      obtain ⟨u14, eu14⟩ : ∃ z : Nat → Int32, z = upd f4_2 (x1).toNatClampNeg 1 := ⟨_, rfl⟩
      rw [← eu14] at hP hD
      have hP : va_P γ.1 vwCl [(a, .inr (6, [.ref b0_2, .ref b1_2, .ref b2_2, .ref b3_2, .ref b4_2, .ref rw])), (b0_2, .inl (γ.2.1, L, .inl u10)), (b1_2, .inl (γ.2.1, L, .inl u11)), (b2_2, .inl (γ.2.1, L, .inl f2_2)), (b3_2, .inl (γ.2.1, L, .inl f3_2)), (b4_2, .inl (γ.2.1, L, .inl u14))] _ := hP
      have hD : va_D Z [(a, .inr (6, [.ref b0_2, .ref b1_2, .ref b2_2, .ref b3_2, .ref b4_2, .ref rw])), (b0_2, .inl (γ.2.1, L, .inl u10)), (b1_2, .inl (γ.2.1, L, .inl u11)), (b2_2, .inl (γ.2.1, L, .inl f2_2)), (b3_2, .inl (γ.2.1, L, .inl f3_2)), (b4_2, .inl (γ.2.1, L, .inl u14))] := hD
      have hI : cmp γ (fLooks γ a rw L) Z _ := ⟨_, ⟨b0_2, b1_2, b2_2, b3_2, b4_2, u10, u11, f2_2, f3_2, u14, rfl, (by omega), (by omega)⟩, hP, hD⟩
      exact hE _ _ 38 ls hS hI dLooks_note_38
theorem k6_Looks_note (l : Launch) (γ : gE) (A : Nat → Prop) (κ : Nat → Nat) (x1 : Int32) (x2 : Int32) (x3 : Int32) (x4 : Int32)  : MU l yLooks_note bLooks_note 5 (none) 1 21 0 0 [.ref (γ.2.2.2 6), .int x1, .int x2, .int x3, .int x4] γ A (INV γ A κ) (mQv (fun H => INV γ A κ H) A) :=
  mu_upv (κ := κ) (κ' := κ) 7 (by decide) (by decide) (fun _ _ _ _ => rfl) (fun Z => c_Looks_note l γ Z (γ.2.2.2 6) (γ.2.2.2 7) (κ 6) x1 x2 x3 x4)
theorem k9_Looks_note (l : Launch) (γ : gE) (A : Nat → Prop) (κ : Nat → Nat) (x1 : Int32) (x2 : Int32) (x3 : Int32) (x4 : Int32)  : MU l yLooks_note bLooks_note 5 (none) 1 21 0 0 [.ref (γ.2.2.2 9), .int x1, .int x2, .int x3, .int x4] γ A (INV γ A κ) (mQv (fun H => INV γ A κ H) A) :=
  mu_upv (κ := κ) (κ' := κ) 9 (by decide) (by decide) (fun _ _ _ _ => rfl) (fun Z => c_Looks_note l γ Z (γ.2.2.2 9) (γ.2.2.2 10) (κ 7) x1 x2 x3 x4)

set_option maxHeartbeats 4000000 in
set_option maxRecDepth 100000 in
theorem c_Looks_forget (l : Launch) (γ : gE) (Z : Nat → Prop) (a rw L : Nat) (x1 : Int32)  : MU l yLooks_forget bLooks_forget 2 (none) 1 21 0 0 [.ref a, .int x1] γ Z (cmp γ (fLooks γ a rw L) Z) (mQv (fun H => cmp γ (fLooks γ a rw L) Z H) Z) := by
  refine mu_openV (by decide) (Nat.le_of_ble_eq_true rfl) ?_
  intro p e s m args below meth c ls Q S hnm hC hA hI hE hl
  obtain ⟨hx, hb, hml, hown, hW⟩ := id S
  have hS : va_S Z s.heap s.heap [] := va_S.rf
  have hl : lv_has ls 2 [(0, .ref a), (1, .int x1)] := hl
  refine lv_aload_n hx hb dLooks_forget_0 rfl (lv_at hl 0 rfl) ?_
  refine lv_iload_n hx hb dLooks_forget_1 rfl (lv_at hl 1 rfl) ?_
  obtain ⟨ws_2, ⟨b0_2, b1_2, b2_2, b3_2, b4_2, f0_2, f1_2, f2_2, f3_2, f4_2, rfl, h1_2, h2_2⟩, hP, hD⟩ := id hI
  have hP : va_P γ.1 vwCl [(a, .inr (6, [.ref b0_2, .ref b1_2, .ref b2_2, .ref b3_2, .ref b4_2, .ref rw])), (b0_2, .inl (γ.2.1, L, .inl f0_2)), (b1_2, .inl (γ.2.1, L, .inl f1_2)), (b2_2, .inl (γ.2.1, L, .inl f2_2)), (b3_2, .inl (γ.2.1, L, .inl f3_2)), (b4_2, .inl (γ.2.1, L, .inl f4_2))] _ := hP
  have hD : va_D Z [(a, .inr (6, [.ref b0_2, .ref b1_2, .ref b2_2, .ref b3_2, .ref b4_2, .ref rw])), (b0_2, .inl (γ.2.1, L, .inl f0_2)), (b1_2, .inl (γ.2.1, L, .inl f1_2)), (b2_2, .inl (γ.2.1, L, .inl f2_2)), (b3_2, .inl (γ.2.1, L, .inl f3_2)), (b4_2, .inl (γ.2.1, L, .inl f4_2))] := hD
  refine pu_Vi (rest := []) S hC (c_Looks_has l γ Z a rw L x1) meLooks_has qw_4e5fd4a1cd ⟨Nat.le_of_ble_eq_true rfl, Nat.le_of_ble_eq_true rfl⟩ (va_recv hC.1 hP (ci := 6) (q0 := 0) rfl rfl) hI rfl hl.1 rfl (Nat.le_of_ble_eq_true rfl) dLooks_forget_2 ⟨Nat.zero_le _, Nat.zero_le _⟩ (fun r8 hr8 => ?_)
  refine lv_if_eq (tgt := 43) hx hb dLooks_forget_5 (by decide) (fun c9 => ?_) (fun c9 => ?_)
  · exact hE _ _ 43 ls hS hI dLooks_forget_43
  · refine lv_aload_n hx hb dLooks_forget_8 rfl (lv_at hl 0 rfl) ?_
    refine va_get (D := γ.1) (ci := 6) (v := .ref b0_2) (C := R_Looks) (T := T_Looks) (N := 6) (Ts := bs_W0) hx hb hW in_Looks hown hC.1 hP 0 rfl rfl 0 (by decide) (hW _ qw_ac7df03aa7) (fun _ h9 => h9) rfl dLooks_forget_9 ?_
    refine lv_iload_n hx hb dLooks_forget_12 rfl (lv_at hl 1 rfl) ?_
    refine lv_iconst (v := (-1)) hx hb dLooks_forget_13 (by decide) ?_
    refine va_iast hx hb hC.1 hP hD hS 1 0 rfl rfl (in_has (by assumption) (by assumption) (by omega) (by omega)) dLooks_forget_14 (fun H locs hP hD hS => ?_)
    obtain ⟨u10, eu10⟩ : ∃ z : Nat → Int32, z = upd f0_2 (x1).toNatClampNeg (-1) := ⟨_, rfl⟩
    rw [← eu10] at hP hD
    have hP : va_P γ.1 vwCl [(a, .inr (6, [.ref b0_2, .ref b1_2, .ref b2_2, .ref b3_2, .ref b4_2, .ref rw])), (b0_2, .inl (γ.2.1, L, .inl u10)), (b1_2, .inl (γ.2.1, L, .inl f1_2)), (b2_2, .inl (γ.2.1, L, .inl f2_2)), (b3_2, .inl (γ.2.1, L, .inl f3_2)), (b4_2, .inl (γ.2.1, L, .inl f4_2))] _ := hP
    have hD : va_D Z [(a, .inr (6, [.ref b0_2, .ref b1_2, .ref b2_2, .ref b3_2, .ref b4_2, .ref rw])), (b0_2, .inl (γ.2.1, L, .inl u10)), (b1_2, .inl (γ.2.1, L, .inl f1_2)), (b2_2, .inl (γ.2.1, L, .inl f2_2)), (b3_2, .inl (γ.2.1, L, .inl f3_2)), (b4_2, .inl (γ.2.1, L, .inl f4_2))] := hD
    refine lv_aload_n hx hb dLooks_forget_15 rfl (lv_at hl 0 rfl) ?_
    refine va_get (D := γ.1) (ci := 6) (v := .ref b1_2) (C := R_Looks) (T := T_Looks) (N := 6) (Ts := bs_W0) hx hb hW in_Looks hown hC.1 hP 0 rfl rfl 1 (by decide) (hW _ qw_7dd30c70bd) (fun _ h9 => h9) rfl dLooks_forget_16 ?_
    refine lv_iload_n hx hb dLooks_forget_19 rfl (lv_at hl 1 rfl) ?_
    refine lv_iconst (v := 0) hx hb dLooks_forget_20 (by decide) ?_
    refine va_iast hx hb hC.1 hP hD hS 2 0 rfl rfl (in_has (by assumption) (by assumption) (by omega) (by omega)) dLooks_forget_21 (fun H locs hP hD hS => ?_)
    obtain ⟨u11, eu11⟩ : ∃ z : Nat → Int32, z = upd f1_2 (x1).toNatClampNeg 0 := ⟨_, rfl⟩
    rw [← eu11] at hP hD
    have hP : va_P γ.1 vwCl [(a, .inr (6, [.ref b0_2, .ref b1_2, .ref b2_2, .ref b3_2, .ref b4_2, .ref rw])), (b0_2, .inl (γ.2.1, L, .inl u10)), (b1_2, .inl (γ.2.1, L, .inl u11)), (b2_2, .inl (γ.2.1, L, .inl f2_2)), (b3_2, .inl (γ.2.1, L, .inl f3_2)), (b4_2, .inl (γ.2.1, L, .inl f4_2))] _ := hP
    have hD : va_D Z [(a, .inr (6, [.ref b0_2, .ref b1_2, .ref b2_2, .ref b3_2, .ref b4_2, .ref rw])), (b0_2, .inl (γ.2.1, L, .inl u10)), (b1_2, .inl (γ.2.1, L, .inl u11)), (b2_2, .inl (γ.2.1, L, .inl f2_2)), (b3_2, .inl (γ.2.1, L, .inl f3_2)), (b4_2, .inl (γ.2.1, L, .inl f4_2))] := hD
    refine lv_aload_n hx hb dLooks_forget_22 rfl (lv_at hl 0 rfl) ?_
    refine va_get (D := γ.1) (ci := 6) (v := .ref b2_2) (C := R_Looks) (T := T_Looks) (N := 6) (Ts := bs_W0) hx hb hW in_Looks hown hC.1 hP 0 rfl rfl 2 (by decide) (hW _ qw_427e012605) (fun _ h9 => h9) rfl dLooks_forget_23 ?_
    refine lv_iload_n hx hb dLooks_forget_26 rfl (lv_at hl 1 rfl) ?_
    refine lv_iconst (v := (-1)) hx hb dLooks_forget_27 (by decide) ?_
    refine va_iast hx hb hC.1 hP hD hS 3 0 rfl rfl (in_has (by assumption) (by assumption) (by omega) (by omega)) dLooks_forget_28 (fun H locs hP hD hS => ?_)
    obtain ⟨u12, eu12⟩ : ∃ z : Nat → Int32, z = upd f2_2 (x1).toNatClampNeg (-1) := ⟨_, rfl⟩
    rw [← eu12] at hP hD
    have hP : va_P γ.1 vwCl [(a, .inr (6, [.ref b0_2, .ref b1_2, .ref b2_2, .ref b3_2, .ref b4_2, .ref rw])), (b0_2, .inl (γ.2.1, L, .inl u10)), (b1_2, .inl (γ.2.1, L, .inl u11)), (b2_2, .inl (γ.2.1, L, .inl u12)), (b3_2, .inl (γ.2.1, L, .inl f3_2)), (b4_2, .inl (γ.2.1, L, .inl f4_2))] _ := hP
    have hD : va_D Z [(a, .inr (6, [.ref b0_2, .ref b1_2, .ref b2_2, .ref b3_2, .ref b4_2, .ref rw])), (b0_2, .inl (γ.2.1, L, .inl u10)), (b1_2, .inl (γ.2.1, L, .inl u11)), (b2_2, .inl (γ.2.1, L, .inl u12)), (b3_2, .inl (γ.2.1, L, .inl f3_2)), (b4_2, .inl (γ.2.1, L, .inl f4_2))] := hD
    refine lv_aload_n hx hb dLooks_forget_29 rfl (lv_at hl 0 rfl) ?_
    refine va_get (D := γ.1) (ci := 6) (v := .ref b3_2) (C := R_Looks) (T := T_Looks) (N := 6) (Ts := bs_W0) hx hb hW in_Looks hown hC.1 hP 0 rfl rfl 3 (by decide) (hW _ qw_5344cf30a3) (fun _ h9 => h9) rfl dLooks_forget_30 ?_
    refine lv_iload_n hx hb dLooks_forget_33 rfl (lv_at hl 1 rfl) ?_
    refine lv_iconst (v := 0) hx hb dLooks_forget_34 (by decide) ?_
    refine va_iast hx hb hC.1 hP hD hS 4 0 rfl rfl (in_has (by assumption) (by assumption) (by omega) (by omega)) dLooks_forget_35 (fun H locs hP hD hS => ?_)
    obtain ⟨u13, eu13⟩ : ∃ z : Nat → Int32, z = upd f3_2 (x1).toNatClampNeg 0 := ⟨_, rfl⟩
    rw [← eu13] at hP hD
    have hP : va_P γ.1 vwCl [(a, .inr (6, [.ref b0_2, .ref b1_2, .ref b2_2, .ref b3_2, .ref b4_2, .ref rw])), (b0_2, .inl (γ.2.1, L, .inl u10)), (b1_2, .inl (γ.2.1, L, .inl u11)), (b2_2, .inl (γ.2.1, L, .inl u12)), (b3_2, .inl (γ.2.1, L, .inl u13)), (b4_2, .inl (γ.2.1, L, .inl f4_2))] _ := hP
    have hD : va_D Z [(a, .inr (6, [.ref b0_2, .ref b1_2, .ref b2_2, .ref b3_2, .ref b4_2, .ref rw])), (b0_2, .inl (γ.2.1, L, .inl u10)), (b1_2, .inl (γ.2.1, L, .inl u11)), (b2_2, .inl (γ.2.1, L, .inl u12)), (b3_2, .inl (γ.2.1, L, .inl u13)), (b4_2, .inl (γ.2.1, L, .inl f4_2))] := hD
    refine lv_aload_n hx hb dLooks_forget_36 rfl (lv_at hl 0 rfl) ?_
    refine va_get (D := γ.1) (ci := 6) (v := .ref b4_2) (C := R_Looks) (T := T_Looks) (N := 6) (Ts := bs_W0) hx hb hW in_Looks hown hC.1 hP 0 rfl rfl 4 (by decide) (hW _ qw_d08a1abfac) (fun _ h9 => h9) rfl dLooks_forget_37 ?_
    refine lv_iload_n hx hb dLooks_forget_40 rfl (lv_at hl 1 rfl) ?_
    refine lv_iconst (v := 0) hx hb dLooks_forget_41 (by decide) ?_
    refine va_iast hx hb hC.1 hP hD hS 5 0 rfl rfl (in_has (by assumption) (by assumption) (by omega) (by omega)) dLooks_forget_42 (fun H locs hP hD hS => ?_)
    obtain ⟨u14, eu14⟩ : ∃ z : Nat → Int32, z = upd f4_2 (x1).toNatClampNeg 0 := ⟨_, rfl⟩
    rw [← eu14] at hP hD
    have hP : va_P γ.1 vwCl [(a, .inr (6, [.ref b0_2, .ref b1_2, .ref b2_2, .ref b3_2, .ref b4_2, .ref rw])), (b0_2, .inl (γ.2.1, L, .inl u10)), (b1_2, .inl (γ.2.1, L, .inl u11)), (b2_2, .inl (γ.2.1, L, .inl u12)), (b3_2, .inl (γ.2.1, L, .inl u13)), (b4_2, .inl (γ.2.1, L, .inl u14))] _ := hP
    have hD : va_D Z [(a, .inr (6, [.ref b0_2, .ref b1_2, .ref b2_2, .ref b3_2, .ref b4_2, .ref rw])), (b0_2, .inl (γ.2.1, L, .inl u10)), (b1_2, .inl (γ.2.1, L, .inl u11)), (b2_2, .inl (γ.2.1, L, .inl u12)), (b3_2, .inl (γ.2.1, L, .inl u13)), (b4_2, .inl (γ.2.1, L, .inl u14))] := hD
    have hI : cmp γ (fLooks γ a rw L) Z _ := ⟨_, ⟨b0_2, b1_2, b2_2, b3_2, b4_2, u10, u11, u12, u13, u14, rfl, (by omega), (by omega)⟩, hP, hD⟩
    exact hE _ _ 43 ls hS hI dLooks_forget_43
theorem k6_Looks_forget (l : Launch) (γ : gE) (A : Nat → Prop) (κ : Nat → Nat) (x1 : Int32)  : MU l yLooks_forget bLooks_forget 2 (none) 1 21 0 0 [.ref (γ.2.2.2 6), .int x1] γ A (INV γ A κ) (mQv (fun H => INV γ A κ H) A) :=
  mu_upv (κ := κ) (κ' := κ) 7 (by decide) (by decide) (fun _ _ _ _ => rfl) (fun Z => c_Looks_forget l γ Z (γ.2.2.2 6) (γ.2.2.2 7) (κ 6) x1)
theorem k9_Looks_forget (l : Launch) (γ : gE) (A : Nat → Prop) (κ : Nat → Nat) (x1 : Int32)  : MU l yLooks_forget bLooks_forget 2 (none) 1 21 0 0 [.ref (γ.2.2.2 9), .int x1] γ A (INV γ A κ) (mQv (fun H => INV γ A κ H) A) :=
  mu_upv (κ := κ) (κ' := κ) 9 (by decide) (by decide) (fun _ _ _ _ => rfl) (fun Z => c_Looks_forget l γ Z (γ.2.2.2 9) (γ.2.2.2 10) (κ 7) x1)

set_option maxHeartbeats 4000000 in
set_option maxRecDepth 100000 in
theorem c_Rows_set (l : Launch) (γ : gE) (Z : Nat → Prop) (a M : Nat) (x1 : Int32) (x2 : Int32) (x3 : Int32)  : MU l yRows_set bRows_set 6 (none) 0 0 0 0 [.ref a, .int x1, .int x2, .int x3] γ Z (cmp γ (fRows γ a M) Z) (mQv (fun H => cmp γ (fRows γ a M) Z H) Z) := by
  refine mu_openV (by decide) (Nat.le_of_ble_eq_true rfl) ?_
  intro p e s m args below meth c ls Q S hnm hC hA hI hE hl
  obtain ⟨hx, hb, hml, hown, hW⟩ := id S
  have hS : va_S Z s.heap s.heap [] := va_S.rf
  have hl : lv_has ls 6 [(0, .ref a), (1, .int x1), (2, .int x2), (3, .int x3)] := hl
  refine lv_iload_n hx hb dRows_set_0 rfl (lv_at hl 1 rfl) ?_
  refine lv_if_lt (tgt := 74) hx hb dRows_set_1 (by decide) (fun c20 => ?_) (fun c20 => ?_)
  · exact hE _ _ 74 ls hS hI dRows_set_74
  · refine lv_iload_n hx hb dRows_set_4 rfl (lv_at hl 1 rfl) ?_
    refine lv_aload_n hx hb dRows_set_5 rfl (lv_at hl 0 rfl) ?_
    obtain ⟨ws_2, ⟨b0_2, g0_2, rfl, h1_2, h2_2⟩, hP, hD⟩ := id hI
    have hP : va_P γ.1 vwCl [(a, .inr (5, [.ref b0_2])), (b0_2, .inl (γ.2.2.1, 4 * M, .inr (.inl g0_2)))] _ := hP
    have hD : va_D Z [(a, .inr (5, [.ref b0_2])), (b0_2, .inl (γ.2.2.1, 4 * M, .inr (.inl g0_2)))] := hD
    refine va_get (D := γ.1) (ci := 5) (v := .ref b0_2) (C := R_Rows) (T := T_Rows) (N := 1) (Ts := bs_W0) hx hb hW in_Rows hown hC.1 hP 0 rfl rfl 0 (by decide) (hW _ qw_05e9c8a29d) (fun _ h9 => h9) rfl dRows_set_6 ?_
    refine va_alen hx hb hC.1 hP 1 1 rfl rfl rfl dRows_set_9 ?_
    refine lv_topi (fun v21 ev21 => ?_)
    have ev21 : v21 = nI (4 * M) := ev21
    refine lv_iconst (v := 4) hx hb dRows_set_10 (by decide) ?_
    refine lv_idiv hx hb dRows_set_11 (by decide) ?_
    refine lv_topi (fun v22 ev22 => ?_)
    refine lv_icmp_ge (tgt := 74) hx hb dRows_set_12 (by decide) (fun c23 => ?_) (fun c23 => ?_)
    · exact hE _ _ 74 ls hS hI dRows_set_74
    · refine lv_iload_n hx hb dRows_set_15 rfl (lv_at hl 2 rfl) ?_
      refine lv_if_lt (tgt := 74) hx hb dRows_set_16 (by decide) (fun c24 => ?_) (fun c24 => ?_)
      · exact hE _ _ 74 ls hS hI dRows_set_74
      · refine lv_iload_n hx hb dRows_set_19 rfl (lv_at hl 2 rfl) ?_
        refine lv_bipush (v := 64) hx hb dRows_set_20 (by decide) ?_
        refine lv_icmp_ge (tgt := 74) hx hb dRows_set_22 (by decide) (fun c25 => ?_) (fun c25 => ?_)
        · exact hE _ _ 74 ls hS hI dRows_set_74
        · refine lv_iload_n hx hb dRows_set_25 rfl (lv_at hl 1 rfl) ?_
          refine lv_iconst (v := 4) hx hb dRows_set_26 (by decide) ?_
          refine lv_imul hx hb dRows_set_27 ?_
          refine lv_topi (fun v26 ev26 => ?_)
          refine lv_iload_n hx hb dRows_set_28 rfl (lv_at hl 2 rfl) ?_
          refine lv_bipush (v := 16) hx hb dRows_set_29 (by decide) ?_
          refine lv_idiv hx hb dRows_set_31 (by decide) ?_
          refine lv_topi (fun v27 ev27 => ?_)
          refine lv_iadd hx hb dRows_set_32 ?_
          refine lv_topi (fun v28 ev28 => ?_)
          refine lv_istore (lv' := [(4, .int v28), (0, .ref a), (1, .int x1), (2, .int x2), (3, .int x3)]) hx hb dRows_set_33 hl (by decide) rfl (fun ls hl => ?_)
          refine lv_iload_n hx hb dRows_set_35 rfl (lv_at hl 3 rfl) ?_
          refine lv_bipush (v := 16) hx hb dRows_set_36 (by decide) ?_
          refine lv_irem hx hb dRows_set_38 (by decide) ?_
          refine lv_topi (fun v29 ev29 => ?_)
          refine lv_iconst (v := 4) hx hb dRows_set_39 (by decide) ?_
          refine lv_imul hx hb dRows_set_40 ?_
          refine lv_topi (fun v30 ev30 => ?_)
          refine lv_istore (lv' := [(5, .int v30), (4, .int v28), (0, .ref a), (1, .int x1), (2, .int x2), (3, .int x3)]) hx hb dRows_set_41 hl (by decide) rfl (fun ls hl => ?_)
          refine lv_aload_n hx hb dRows_set_43 rfl (lv_at hl 2 rfl) ?_
          refine va_get (D := γ.1) (ci := 5) (v := .ref b0_2) (C := R_Rows) (T := T_Rows) (N := 1) (Ts := bs_W0) hx hb hW in_Rows hown hC.1 hP 0 rfl rfl 0 (by decide) (hW _ qw_05e9c8a29d) (fun _ h9 => h9) rfl dRows_set_44 ?_
          refine lv_iload hx hb dRows_set_47 (lv_at hl 1 rfl) ?_
          refine lv_aload_n hx hb dRows_set_49 rfl (lv_at hl 2 rfl) ?_
          refine va_get (D := γ.1) (ci := 5) (v := .ref b0_2) (C := R_Rows) (T := T_Rows) (N := 1) (Ts := bs_W0) hx hb hW in_Rows hown hC.1 hP 0 rfl rfl 0 (by decide) (hW _ qw_05e9c8a29d) (fun _ h9 => h9) rfl dRows_set_50 ?_
          refine lv_iload hx hb dRows_set_53 (lv_at hl 1 rfl) ?_
          refine va_lald hx hb hC.1 hP 1 1 rfl rfl (by subst_vars; exact rows_ix (by assumption) (by assumption) (by assumption) (by first | assumption | exact lt_nge (by assumption)) (by omega)) dRows_set_55 ?_
          refine lv_topl (fun v31 ev31 => ?_)
          refine lv_ldc2 (v := 15) hx hb hown (hW _ qw_4a6bff5ab0) dRows_set_56 ?_
          refine lv_iload hx hb dRows_set_59 (lv_at hl 0 rfl) ?_
          refine lv_lshl hx hb dRows_set_61 rfl ?_
          refine lv_topl (fun v32 ev32 => ?_)
          refine lv_ldc2 (v := (-1)) hx hb hown (hW _ qw_14d339857e) dRows_set_62 ?_
          refine lv_lxor hx hb dRows_set_65 ?_
          refine lv_topl (fun v33 ev33 => ?_)
          refine lv_land hx hb dRows_set_66 ?_
          refine lv_topl (fun v34 ev34 => ?_)
          refine lv_iload_n hx hb dRows_set_67 rfl (lv_at hl 5 rfl) ?_
          refine lv_i2l hx hb dRows_set_68 rfl ?_
          refine lv_topl (fun v35 ev35 => ?_)
          refine lv_iload hx hb dRows_set_69 (lv_at hl 0 rfl) ?_
          refine lv_lshl hx hb dRows_set_71 rfl ?_
          refine lv_topl (fun v36 ev36 => ?_)
          refine lv_lor hx hb dRows_set_72 ?_
          refine lv_topl (fun v37 ev37 => ?_)
          refine va_last hx hb hC.1 hP hD hS 1 1 rfl rfl (by subst_vars; exact rows_ix (by assumption) (by assumption) (by assumption) (by first | assumption | exact lt_nge (by assumption)) (by omega)) dRows_set_73 (fun H locs hP hD hS => ?_)
          obtain ⟨u38, eu38⟩ : ∃ z : Nat → Int64, z = vp_updL g0_2 (v28).toNatClampNeg v37 := ⟨_, rfl⟩
          rw [← eu38] at hP hD
          have hP : va_P γ.1 vwCl [(a, .inr (5, [.ref b0_2])), (b0_2, .inl (γ.2.2.1, 4 * M, .inr (.inl u38)))] _ := hP
          have hD : va_D Z [(a, .inr (5, [.ref b0_2])), (b0_2, .inl (γ.2.2.1, 4 * M, .inr (.inl u38)))] := hD
          have hI : cmp γ (fRows γ a M) Z _ := ⟨_, ⟨b0_2, u38, rfl, (by omega), (by omega)⟩, hP, hD⟩
          exact hE _ _ 74 ls hS hI dRows_set_74
theorem k5_Rows_set (l : Launch) (γ : gE) (A : Nat → Prop) (κ : Nat → Nat) (x1 : Int32) (x2 : Int32) (x3 : Int32)  : MU l yRows_set bRows_set 6 (none) 0 0 0 0 [.ref (γ.2.2.2 5), .int x1, .int x2, .int x3] γ A (INV γ A κ) (mQv (fun H => INV γ A κ H) A) :=
  mu_upv (κ := κ) (κ' := κ) 6 (by decide) (by decide) (fun _ _ _ _ => rfl) (fun Z => c_Rows_set l γ Z (γ.2.2.2 5) (κ 8) x1 x2 x3)
theorem k7_Rows_set (l : Launch) (γ : gE) (A : Nat → Prop) (κ : Nat → Nat) (x1 : Int32) (x2 : Int32) (x3 : Int32)  : MU l yRows_set bRows_set 6 (none) 0 0 0 0 [.ref (γ.2.2.2 7), .int x1, .int x2, .int x3] γ A (INV γ A κ) (mQv (fun H => INV γ A κ H) A) :=
  mu_upv (κ := κ) (κ' := κ) 8 (by decide) (by decide) (fun _ _ _ _ => rfl) (fun Z => c_Rows_set l γ Z (γ.2.2.2 7) (κ 9) x1 x2 x3)
theorem k10_Rows_set (l : Launch) (γ : gE) (A : Nat → Prop) (κ : Nat → Nat) (x1 : Int32) (x2 : Int32) (x3 : Int32)  : MU l yRows_set bRows_set 6 (none) 0 0 0 0 [.ref (γ.2.2.2 10), .int x1, .int x2, .int x3] γ A (INV γ A κ) (mQv (fun H => INV γ A κ H) A) :=
  mu_upv (κ := κ) (κ' := κ) 10 (by decide) (by decide) (fun _ _ _ _ => rfl) (fun Z => c_Rows_set l γ Z (γ.2.2.2 10) (κ 10) x1 x2 x3)

set_option maxHeartbeats 4000000 in
set_option maxRecDepth 100000 in
theorem c_Rows_setBits (l : Launch) (γ : gE) (Z : Nat → Prop) (a M : Nat) (x1 : Int32) (x2 : Int32) (x3 : Int64)  : MU l yRows_setBits bRows_setBits 6 (none) 1 25 0 0 [.ref a, .int x1, .int x2, .long x3] γ Z (cmp γ (fRows γ a M) Z) (mQv (fun H => cmp γ (fRows γ a M) Z H) Z) := by
  refine mu_openV (by decide) (Nat.le_of_ble_eq_true rfl) ?_
  intro p e s m args below meth c ls Q S hnm hC hA hI hE hl
  obtain ⟨hx, hb, hml, hown, hW⟩ := id S
  have hS : va_S Z s.heap s.heap [] := va_S.rf
  have hl : lv_has ls 6 [(0, .ref a), (1, .int x1), (2, .int x2), (3, .long x3)] := hl
  have J3 : ∀ (N3 : Nat) (ls : Array Slot) (H : Heap) (locs : List Loc) (i1 : Int32) (i2 : Int32) (j3 : Int64) (i5 : Int32), cmp γ (fRows γ a M) Z H → va_S Z s.heap H locs → (2147483647 - i5.toInt).toNat = N3 → lv_has ls 6 [(0, .ref a), (1, .int i1), (2, .int i2), (3, .long j3), (5, .int i5)] → W p l e (bs_rm 1 0 0 25) s m args below meth c H locs 0 0 Q (F0 m 3 ls []) := by
    intro N3
    induction N3 using Nat.strongRecOn with
    | ind N3 ih3 =>
      intro ls H locs i1 i2 j3 i5 hI hS hm3 hl
      have J36 : ∀ (ls : Array Slot) (H : Heap) (locs : List Loc) (i1 : Int32) (i2 : Int32) (j3 : Int64) (i5 : Int32) (t0 : Int32) (t1 : Int32) (t2 : Int32), cmp γ (fRows γ a M) Z H → va_S Z s.heap H locs → (i5.toInt < 2147483647 ∧ (2147483647 - i5.toInt).toNat = N3) → lv_has ls 6 [(0, .ref a), (1, .int i1), (2, .int i2), (3, .long j3), (5, .int i5)] → W p l e (bs_rm 1 0 0 25) s m args below meth c H locs 0 0 Q (F0 m 36 ls [.int t0, .int t1, .int t2, .ref a]) := by
        intro ls H locs i1 i2 j3 i5 t0 t1 t2 hI hS ⟨hf3a, hf3b⟩ hl
        obtain ⟨ws_2, ⟨b0_2, g0_2, rfl, h1_2, h2_2⟩, hP, hD⟩ := id hI
        have hP : va_P γ.1 vwCl [(a, .inr (5, [.ref b0_2])), (b0_2, .inl (γ.2.2.1, 4 * M, .inr (.inl g0_2)))] _ := hP
        have hD : va_D Z [(a, .inr (5, [.ref b0_2])), (b0_2, .inl (γ.2.2.1, 4 * M, .inr (.inl g0_2)))] := hD
        refine mu_Vv (rest := []) S hC (fun q h => hA q (Nat.le_trans hS.1 h)) (fun q h => h) hS (c_Rows_set l γ Z a M t2 t1 t0) meRows_set qw_b8cf967c79 ⟨Nat.le_of_ble_eq_true rfl, Nat.le_of_ble_eq_true rfl⟩ (va_recv hC.1 hP (ci := 5) (q0 := 0) rfl rfl) hI rfl hl.1 rfl (Nat.le_of_ble_eq_true rfl) dRows_setBits_36 ⟨Nat.le_refl _, Nat.le_refl _⟩ (fun H locs hI hS _ _ => ?_)
        obtain ⟨v8, ev8⟩ : ∃ y : Int32, y = i5 + 1 := ⟨_, rfl⟩
        refine lv_iinc (v := v8) (lv' := [(5, .int v8), (0, .ref a), (1, .int i1), (2, .int i2), (3, .long j3)]) hx hb dRows_setBits_39 hl (k := 4) rfl (by rw [ev8]; rfl) (by decide) rfl (fun ls hl => ?_)
        refine lv_goto (tgt := 3) hx hb dRows_setBits_42 (by decide) ?_
        exact ih3 _ (by have q1 : i5.toInt < 2147483647 := (by first | exact (mu_up (k := i5) (by assumption)).2 | assumption); have q2 := mu_lt q1; rw [← ev8] at q2; omega) ls _ _ i1 i2 j3 v8 hI hS rfl (lv_sub hl [1, 2, 3, 4, 0] rfl)
      refine lv_iload hx hb dRows_setBits_3 (lv_at hl 4 rfl) ?_
      refine lv_iload_n hx hb dRows_setBits_5 rfl (lv_at hl 2 rfl) ?_
      refine lv_icmp_ge (tgt := 45) hx hb dRows_setBits_6 (by decide) (fun c9 => ?_) (fun c9 => ?_)
      · exact hE _ _ 45 ls hS hI dRows_setBits_45
      · refine lv_iload hx hb dRows_setBits_9 (lv_at hl 4 rfl) ?_
        refine lv_bipush (v := 64) hx hb dRows_setBits_11 (by decide) ?_
        refine lv_icmp_ge (tgt := 45) hx hb dRows_setBits_13 (by decide) (fun c10 => ?_) (fun c10 => ?_)
        · exact hE _ _ 45 ls hS hI dRows_setBits_45
        · refine lv_aload_n hx hb dRows_setBits_16 rfl (lv_at hl 0 rfl) ?_
          refine lv_iload_n hx hb dRows_setBits_17 rfl (lv_at hl 1 rfl) ?_
          refine lv_iload hx hb dRows_setBits_18 (lv_at hl 4 rfl) ?_
          refine lv_lload_n hx hb dRows_setBits_20 rfl (lv_at hl 3 rfl) ?_
          refine lv_iload hx hb dRows_setBits_21 (lv_at hl 4 rfl) ?_
          refine lv_lushr hx hb dRows_setBits_23 rfl ?_
          refine lv_topl (fun v11 ev11 => ?_)
          refine lv_lconst (v := 1) hx hb dRows_setBits_24 (by decide) ?_
          refine lv_land hx hb dRows_setBits_25 ?_
          refine lv_topl (fun v12 ev12 => ?_)
          refine lv_lconst (v := 1) hx hb dRows_setBits_26 (by decide) ?_
          refine W.lcmp hx hb dRows_setBits_27 ?_
          refine lv_topi (fun v13 ev13 => ?_)
          refine lv_if_ne (tgt := 35) hx hb dRows_setBits_28 (by decide) (fun c14 => ?_) (fun c14 => ?_)
          · refine lv_iconst (v := 2) hx hb dRows_setBits_35 (by decide) ?_
            exact J36 ls _ _ i1 i2 j3 i5 2 i5 i1 hI hS (by first | exact ⟨(mu_up (k := i5) (by assumption)).2, by assumption⟩ | exact ⟨by assumption, by assumption⟩) (lv_sub hl [0, 1, 2, 3, 4] rfl)
          · refine lv_iconst (v := 3) hx hb dRows_setBits_31 (by decide) ?_
            refine lv_goto (tgt := 36) hx hb dRows_setBits_32 (by decide) ?_
            exact J36 ls _ _ i1 i2 j3 i5 3 i5 i1 hI hS (by first | exact ⟨(mu_up (k := i5) (by assumption)).2, by assumption⟩ | exact ⟨by assumption, by assumption⟩) (lv_sub hl [0, 1, 2, 3, 4] rfl)
  refine lv_iconst (v := 0) hx hb dRows_setBits_0 (by decide) ?_
  refine lv_istore (lv' := [(5, .int 0), (0, .ref a), (1, .int x1), (2, .int x2), (3, .long x3)]) hx hb dRows_setBits_1 hl (by decide) rfl (fun ls hl => ?_)
  exact J3 _ ls _ _ x1 x2 x3 0 hI hS rfl (lv_sub hl [1, 2, 3, 4, 0] rfl)
theorem k5_Rows_setBits (l : Launch) (γ : gE) (A : Nat → Prop) (κ : Nat → Nat) (x1 : Int32) (x2 : Int32) (x3 : Int64)  : MU l yRows_setBits bRows_setBits 6 (none) 1 25 0 0 [.ref (γ.2.2.2 5), .int x1, .int x2, .long x3] γ A (INV γ A κ) (mQv (fun H => INV γ A κ H) A) :=
  mu_upv (κ := κ) (κ' := κ) 6 (by decide) (by decide) (fun _ _ _ _ => rfl) (fun Z => c_Rows_setBits l γ Z (γ.2.2.2 5) (κ 8) x1 x2 x3)
theorem k7_Rows_setBits (l : Launch) (γ : gE) (A : Nat → Prop) (κ : Nat → Nat) (x1 : Int32) (x2 : Int32) (x3 : Int64)  : MU l yRows_setBits bRows_setBits 6 (none) 1 25 0 0 [.ref (γ.2.2.2 7), .int x1, .int x2, .long x3] γ A (INV γ A κ) (mQv (fun H => INV γ A κ H) A) :=
  mu_upv (κ := κ) (κ' := κ) 8 (by decide) (by decide) (fun _ _ _ _ => rfl) (fun Z => c_Rows_setBits l γ Z (γ.2.2.2 7) (κ 9) x1 x2 x3)
theorem k10_Rows_setBits (l : Launch) (γ : gE) (A : Nat → Prop) (κ : Nat → Nat) (x1 : Int32) (x2 : Int32) (x3 : Int64)  : MU l yRows_setBits bRows_setBits 6 (none) 1 25 0 0 [.ref (γ.2.2.2 10), .int x1, .int x2, .long x3] γ A (INV γ A κ) (mQv (fun H => INV γ A κ H) A) :=
  mu_upv (κ := κ) (κ' := κ) 10 (by decide) (by decide) (fun _ _ _ _ => rfl) (fun Z => c_Rows_setBits l γ Z (γ.2.2.2 10) (κ 10) x1 x2 x3)
