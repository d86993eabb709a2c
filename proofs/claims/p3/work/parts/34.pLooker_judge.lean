theorem qw_a0a252684f : (Cond.fieldLink R_Looker 31 R_Looker "at" "I") ∈ bs_W0 := bs_in (in_tables_1_2 (List.mem_of_getElem? (i := 33) rfl)) rfl
theorem qw_8a98d268f4 : (Cond.methodLink R_Looker 90 yLooker_classMisfit) ∈ bs_W0 := bs_in (in_tables_1_5 (List.mem_of_getElem? (i := 67) rfl)) rfl
theorem qw_43e62466e9 : (Cond.methodLink R_Looker 94 yLooker_earlier) ∈ bs_W0 := bs_in (in_tables_1_5 (List.mem_of_getElem? (i := 74) rfl)) rfl
theorem qw_37965fb84c : (Cond.methodLink R_Looker 97 yLooker_isOutside) ∈ bs_W0 := bs_in (in_tables_1_5 (List.mem_of_getElem? (i := 77) rfl)) rfl
theorem qw_213d2bb2ac : (Cond.fieldLink R_Looker 39 R_Looker "names" "LTypeBook$Names;") ∈ bs_W0 := bs_in (in_tables_1_2 (List.mem_of_getElem? (i := 27) rfl)) rfl
theorem qw_a4a7b18094 : (Cond.methodLink R_Looker 187 yNames_find) ∈ bs_W0 := bs_in (in_tables_1_4 (List.mem_of_getElem? (i := 209) rfl)) rfl
theorem qw_655d915bbc : (Cond.methodLink R_Looker 192 yNames_sortOf) ∈ bs_W0 := bs_in (in_tables_1_4 (List.mem_of_getElem? (i := 210) rfl)) rfl
theorem qw_f48a4a6aed : (Cond.methodLink R_Looker 80 yTrees_kindOf) ∈ bs_W0 := bs_in (in_tables_1_3 (List.mem_of_getElem? (i := 48) rfl)) rfl
theorem qw_63f3ae9b1e : (Cond.methodLink R_Looker 181 yLooker_namedTypeFault) ∈ bs_W0 := bs_in (in_tables_1_4 (List.mem_of_getElem? (i := 205) rfl)) rfl
theorem qw_844ff72d87 : (Cond.methodLink R_Looker 144 yTrees_leftOfTwo) ∈ bs_W0 := bs_in (in_tables_1_3 (List.mem_of_getElem? (i := 226) rfl)) rfl
theorem qw_dd79a0a1bc : (Cond.methodLink R_Looker 184 yLooker_boundsFault) ∈ bs_W0 := bs_in (in_tables_1_4 (List.mem_of_getElem? (i := 214) rfl)) rfl
theorem qw_108db87eb2 : (Cond.methodLink R_Looker 201 yNames_numberOf) ∈ bs_W0 := bs_in (in_tables_1_5 (List.mem_of_getElem? (i := 9) rfl)) rfl
theorem qw_9bfdade5f5 : (Cond.fieldLink R_Meanings 23 R_Meanings "objects" "LTypeBook$Objects;") ∈ bs_W0 := bs_in (in_tables_1_2 (List.mem_of_getElem? (i := 13) rfl)) rfl
theorem qw_2c7313498c : (Cond.methodLink R_Meanings 103 yObjects_whatOf) ∈ bs_W0 := bs_in (in_tables_1_3 (List.mem_of_getElem? (i := 125) rfl)) rfl
theorem qw_e2a2dba4a9 : (Cond.fieldLink R_Meanings 19 R_Meanings "types" "LTypeBook$Types;") ∈ bs_W0 := bs_in (in_tables_1_2 (List.mem_of_getElem? (i := 12) rfl)) rfl
theorem qw_bc7306873f : (Cond.methodLink R_Meanings 62 yObjects_typeOfObject) ∈ bs_W0 := bs_in (in_tables_1_3 (List.mem_of_getElem? (i := 93) rfl)) rfl
theorem qw_ac19273b21 : (Cond.methodLink R_Meanings 67 yTypes_classOf) ∈ bs_W0 := bs_in (in_tables_1_3 (List.mem_of_getElem? (i := 101) rfl)) rfl
theorem qw_2a07109efc : (Cond.fieldLink R_Meanings 15 R_Meanings "names" "LTypeBook$Names;") ∈ bs_W0 := bs_in (in_tables_1_2 (List.mem_of_getElem? (i := 11) rfl)) rfl
theorem qw_c54cffb97e : (Cond.fieldLink R_Meanings 9 R_Meanings "trees" "LTypeBook$Trees;") ∈ bs_W0 := bs_in (in_tables_1_2 (List.mem_of_getElem? (i := 10) rfl)) rfl
theorem qw_b5139988c8 : (Cond.methodLink R_Meanings 37 yTrees_valueOf) ∈ bs_W0 := bs_in (in_tables_1_3 (List.mem_of_getElem? (i := 69) rfl)) rfl
theorem qw_941b68ccbe : (Cond.methodLink R_Meanings 40 yNames_find) ∈ bs_W0 := bs_in (in_tables_1_3 (List.mem_of_getElem? (i := 73) rfl)) rfl
theorem qw_79c9b178a8 : (Cond.methodLink R_Meanings 48 yNames_sortOf) ∈ bs_W0 := bs_in (in_tables_1_3 (List.mem_of_getElem? (i := 85) rfl)) rfl
theorem qw_f03e5d487b : (Cond.methodLink R_Meanings 45 yNames_numberOf) ∈ bs_W0 := bs_in (in_tables_1_3 (List.mem_of_getElem? (i := 81) rfl)) rfl
theorem qw_33e16e4dc6 : (Cond.methodLink R_Meanings 184 yTypes_leftOf) ∈ bs_W0 := bs_in (in_tables_1_4 (List.mem_of_getElem? (i := 189) rfl)) rfl
theorem qw_8bca252105 : (Cond.methodLink R_Meanings 187 yTypes_rightOf) ∈ bs_W0 := bs_in (in_tables_1_4 (List.mem_of_getElem? (i := 193) rfl)) rfl
theorem qw_432ed99f40 : (Cond.methodLink R_Meanings 190 Lib.Math.max.name) ∈ bs_W0 := bs_in (in_tables_1_4 (List.mem_of_getElem? (i := 194) rfl)) rfl
theorem qw_7cc87a9f9b : (Cond.static Lib.Math.max.name) ∈ bs_W0 := bs_in (in_tables_1_1 (List.mem_of_getElem? (i := 81) rfl)) rfl
theorem qw_6b973c1ba4 : (Cond.code Lib.Math.max.name Lib.Math.max.code 2 (some .int)) ∈ bs_W0 := bs_in (in_tables_1_1 (List.mem_of_getElem? (i := 82) rfl)) rfl
theorem qw_883a959cdb : (Cond.methodLink R_Meanings 195 Lib.Math.min.name) ∈ bs_W0 := bs_in (in_tables_1_4 (List.mem_of_getElem? (i := 195) rfl)) rfl
theorem qw_1a05fe5770 : (Cond.static Lib.Math.min.name) ∈ bs_W0 := bs_in (in_tables_1_1 (List.mem_of_getElem? (i := 94) rfl)) rfl
theorem qw_5e99ca5e66 : (Cond.code Lib.Math.min.name Lib.Math.min.code 2 (some .int)) ∈ bs_W0 := bs_in (in_tables_1_1 (List.mem_of_getElem? (i := 95) rfl)) rfl
theorem qw_fae60a97b0 : (Cond.methodLink R_Meanings 198 yTypes_countOf) ∈ bs_W0 := bs_in (in_tables_1_4 (List.mem_of_getElem? (i := 196) rfl)) rfl
theorem qw_46160f6e07 : (Cond.fieldLink R_Operators 9 R_Operators "seen" "LTypeBook$Looks;") ∈ bs_W0 := bs_in (in_tables_1_2 (List.mem_of_getElem? (i := 0) rfl)) rfl
theorem qw_2e1b0e0eff : (Cond.methodLink R_Operators 15 yLooks_classOf) ∈ bs_W0 := bs_in (in_tables_1_3 (List.mem_of_getElem? (i := 189) rfl)) rfl
theorem qw_b0051a6c7a : (Cond.methodLink R_Operators 21 yLooks_extentOf) ∈ bs_W0 := bs_in (in_tables_1_3 (List.mem_of_getElem? (i := 193) rfl)) rfl
theorem qw_c3b3c98375 : (Cond.methodLink R_Operators 101 yOperators_widthOf) ∈ bs_W0 := bs_in (in_tables_1_4 (List.mem_of_getElem? (i := 6) rfl)) rfl
set_option maxHeartbeats 4000000 in
set_option maxRecDepth 100000 in
theorem k_Looker_judge (l : Launch) (γ : gE) (A : Nat → Prop) (κ : Nat → Nat) (x1 : Int32) (x2 : Int32) (x3 : Int32) (x4 : Int32)  : PU l yLooker_judge bLooker_judge 6 (some .int) 4 88 [.ref (γ.2.2.2 8), .int x1, .int x2, .int x3, .int x4] γ (INV γ A κ) (vp_Si (fun v : Int32 => True)) := by
  refine pu_openI (by decide) (Nat.le_of_ble_eq_true rfl) ?_
  intro p e s m args below meth c ls Q S hC hI hE hl
  obtain ⟨hx, hb, hml, hown, hW⟩ := id S
  have hl : lv_has ls 6 [(0, .ref (γ.2.2.2 8)), (1, .int x1), (2, .int x2), (3, .int x3), (4, .int x4)] := hl
  have J82 : ∀ (ls : Array Slot)  (i1 : Int32) (i2 : Int32) (i3 : Int32) (i4 : Int32) (i5 : Int32), lv_has ls 6 [(0, .ref (γ.2.2.2 8)), (1, .int i1), (2, .int i2), (3, .int i3), (4, .int i4), (5, .int i5)] → W p l e (bs_rm 4 0 0 88) s m args below meth c s.heap [] 0 0 Q (F0 m 82 ls []) := by
    intro ls  i1 i2 i3 i4 i5  hl
    refine lv_iload_n hx hb dLooker_judge_82 rfl (lv_at hl 1 rfl) ?_
    refine lv_iload hx hb dLooker_judge_83 (lv_at hl 5 rfl) ?_
    refine pu_Si (rest := []) S hC (s_Looker_earlier l γ (INV γ A κ) i1 i5) meLooker_earlier qw_43e62466e9 ⟨Nat.le_of_ble_eq_true rfl, Nat.le_of_ble_eq_true rfl⟩ hI rfl hl.1 rfl (Nat.le_of_ble_eq_true rfl) dLooker_judge_85 ⟨Nat.zero_le _, Nat.zero_le _⟩ (fun r16 hr16 => ?_)
    exact hE _ _ _ trivial dLooker_judge_88
  have J55 : ∀ (ls : Array Slot)  (i1 : Int32) (i2 : Int32) (i3 : Int32) (i4 : Int32) (i5 : Int32), lv_has ls 6 [(0, .ref (γ.2.2.2 8)), (1, .int i1), (2, .int i2), (3, .int i3), (4, .int i4), (5, .int i5)] → W p l e (bs_rm 4 0 0 88) s m args below meth c s.heap [] 0 0 Q (F0 m 55 ls []) := by
    intro ls  i1 i2 i3 i4 i5  hl
    refine lv_iload_n hx hb dLooker_judge_55 rfl (lv_at hl 3 rfl) ?_
    refine lv_iconst (v := (-1)) hx hb dLooker_judge_56 (by decide) ?_
    refine lv_icmp_eq (tgt := 82) hx hb dLooker_judge_57 (by decide) (fun c17 => ?_) (fun c17 => ?_)
    · exact J82 ls i1 i2 i3 i4 i5 (lv_sub hl [0, 1, 2, 3, 4, 5] rfl)
    · refine lv_iload_n hx hb dLooker_judge_60 rfl (lv_at hl 1 rfl) ?_
      refine lv_if_ne (tgt := 82) hx hb dLooker_judge_61 (by decide) (fun c18 => ?_) (fun c18 => ?_)
      · exact J82 ls i1 i2 i3 i4 i5 (lv_sub hl [0, 1, 2, 3, 4, 5] rfl)
      · refine lv_aload_n hx hb dLooker_judge_64 rfl (lv_at hl 0 rfl) ?_
        refine lv_iload_n hx hb dLooker_judge_65 rfl (lv_at hl 2 rfl) ?_
        refine lv_iload_n hx hb dLooker_judge_66 rfl (lv_at hl 3 rfl) ?_
        refine pu_Vi (rest := []) S hC (k_Looker_isOutside l γ A κ i2 i3) meLooker_isOutside qw_37965fb84c ⟨Nat.le_of_ble_eq_true rfl, Nat.le_of_ble_eq_true rfl⟩ (rv_8 hC hI) hI rfl hl.1 rfl (Nat.le_of_ble_eq_true rfl) dLooker_judge_67 ⟨Nat.zero_le _, Nat.zero_le _⟩ (fun r19 hr19 => ?_)
        refine lv_if_eq (tgt := 82) hx hb dLooker_judge_70 (by decide) (fun c20 => ?_) (fun c20 => ?_)
        · exact J82 ls i1 i2 i3 i4 i5 (lv_sub hl [0, 1, 2, 3, 4, 5] rfl)
        · refine lv_iload hx hb dLooker_judge_73 (lv_at hl 5 rfl) ?_
          refine lv_bipush (v := 8) hx hb dLooker_judge_75 (by decide) ?_
          refine pu_Si (rest := []) S hC (s_Looker_earlier l γ (INV γ A κ) i5 8) meLooker_earlier qw_43e62466e9 ⟨Nat.le_of_ble_eq_true rfl, Nat.le_of_ble_eq_true rfl⟩ hI rfl hl.1 rfl (Nat.le_of_ble_eq_true rfl) dLooker_judge_77 ⟨Nat.zero_le _, Nat.zero_le _⟩ (fun r21 hr21 => ?_)
          refine lv_istore (lv' := [(5, .int r21), (0, .ref (γ.2.2.2 8)), (1, .int i1), (2, .int i2), (3, .int i3), (4, .int i4)]) hx hb dLooker_judge_80 hl (by decide) rfl (fun ls hl => ?_)
          exact J82 ls i1 i2 i3 i4 r21 (lv_sub hl [1, 2, 3, 4, 5, 0] rfl)
  have J35 : ∀ (ls : Array Slot)  (i1 : Int32) (i2 : Int32) (i3 : Int32) (i4 : Int32) (t0 : Int32), lv_has ls 6 [(0, .ref (γ.2.2.2 8)), (1, .int i1), (2, .int i2), (3, .int i3), (4, .int i4)] → W p l e (bs_rm 4 0 0 88) s m args below meth c s.heap [] 0 0 Q (F0 m 35 ls [.int t0]) := by
    intro ls  i1 i2 i3 i4 t0  hl
    refine lv_istore (lv' := [(5, .int t0), (0, .ref (γ.2.2.2 8)), (1, .int i1), (2, .int i2), (3, .int i3), (4, .int i4)]) hx hb dLooker_judge_35 hl (by decide) rfl (fun ls hl => ?_)
    refine lv_iload_n hx hb dLooker_judge_37 rfl (lv_at hl 4 rfl) ?_
    refine lv_iconst (v := (-1)) hx hb dLooker_judge_38 (by decide) ?_
    refine lv_icmp_eq (tgt := 55) hx hb dLooker_judge_39 (by decide) (fun c22 => ?_) (fun c22 => ?_)
    · exact J55 ls i1 i2 i3 i4 t0 (lv_sub hl [1, 2, 3, 4, 5, 0] rfl)
    · refine lv_aload_n hx hb dLooker_judge_42 rfl (lv_at hl 1 rfl) ?_
      refine lv_iload_n hx hb dLooker_judge_43 rfl (lv_at hl 3 rfl) ?_
      refine lv_iload_n hx hb dLooker_judge_44 rfl (lv_at hl 4 rfl) ?_
      refine pu_Vi (rest := []) S hC (k_Looker_classMisfit l γ A κ i2 i3) meLooker_classMisfit qw_8a98d268f4 ⟨Nat.le_of_ble_eq_true rfl, Nat.le_of_ble_eq_true rfl⟩ (rv_8 hC hI) hI rfl hl.1 rfl (Nat.le_of_ble_eq_true rfl) dLooker_judge_45 ⟨Nat.zero_le _, Nat.zero_le _⟩ (fun r23 hr23 => ?_)
      refine lv_iload hx hb dLooker_judge_48 (lv_at hl 0 rfl) ?_
      refine pu_Si (rest := []) S hC (s_Looker_earlier l γ (INV γ A κ) r23 t0) meLooker_earlier qw_43e62466e9 ⟨Nat.le_of_ble_eq_true rfl, Nat.le_of_ble_eq_true rfl⟩ hI rfl hl.1 rfl (Nat.le_of_ble_eq_true rfl) dLooker_judge_50 ⟨Nat.zero_le _, Nat.zero_le _⟩ (fun r24 hr24 => ?_)
      refine lv_istore (lv' := [(5, .int r24), (0, .ref (γ.2.2.2 8)), (1, .int i1), (2, .int i2), (3, .int i3), (4, .int i4)]) hx hb dLooker_judge_53 hl (by decide) rfl (fun ls hl => ?_)
      exact J55 ls i1 i2 i3 i4 r24 (lv_sub hl [1, 2, 3, 4, 5, 0] rfl)
  have J34 : ∀ (ls : Array Slot)  (i1 : Int32) (i2 : Int32) (i3 : Int32) (i4 : Int32), lv_has ls 6 [(0, .ref (γ.2.2.2 8)), (1, .int i1), (2, .int i2), (3, .int i3), (4, .int i4)] → W p l e (bs_rm 4 0 0 88) s m args below meth c s.heap [] 0 0 Q (F0 m 34 ls []) := by
    intro ls  i1 i2 i3 i4  hl
    refine lv_iconst (v := 0) hx hb dLooker_judge_34 (by decide) ?_
    exact J35 ls i1 i2 i3 i4 0 (lv_sub hl [0, 1, 2, 3, 4] rfl)
  have J14 : ∀ (ls : Array Slot)  (i1 : Int32) (i2 : Int32) (i3 : Int32) (i4 : Int32), lv_has ls 6 [(0, .ref (γ.2.2.2 8)), (1, .int i1), (2, .int i2), (3, .int i3), (4, .int i4)] → W p l e (bs_rm 4 0 0 88) s m args below meth c s.heap [] 0 0 Q (F0 m 14 ls []) := by
    intro ls  i1 i2 i3 i4  hl
    refine lv_iload hx hb dLooker_judge_14 (lv_at hl 4 rfl) ?_
    refine lv_if_eq (tgt := 34) hx hb dLooker_judge_16 (by decide) (fun c25 => ?_) (fun c25 => ?_)
    · exact J34 ls i1 i2 i3 i4 (lv_sub hl [0, 1, 2, 3, 4] rfl)
    · refine lv_aload_n hx hb dLooker_judge_19 rfl (lv_at hl 0 rfl) ?_
      refine of_get S hC (of_8_3 hI) in_Looker rfl (by decide) qw_77aeadf252 dLooker_judge_20 ?_
      refine lv_iload_n hx hb dLooker_judge_23 rfl (lv_at hl 2 rfl) ?_
      refine pu_Vi (rest := []) S hC (k9_Looks_isFixed l γ A κ i2) meLooks_isFixed qw_3ab14e380a ⟨Nat.le_of_ble_eq_true rfl, Nat.le_of_ble_eq_true rfl⟩ (rv_9 hC hI) hI rfl hl.1 rfl (Nat.le_of_ble_eq_true rfl) dLooker_judge_24 ⟨Nat.zero_le _, Nat.zero_le _⟩ (fun r26 hr26 => ?_)
      refine lv_if_ne (tgt := 34) hx hb dLooker_judge_27 (by decide) (fun c27 => ?_) (fun c27 => ?_)
      · exact J34 ls i1 i2 i3 i4 (lv_sub hl [0, 1, 2, 3, 4] rfl)
      · refine lv_iconst (v := 5) hx hb dLooker_judge_30 (by decide) ?_
        refine lv_goto (tgt := 35) hx hb dLooker_judge_31 (by decide) ?_
        exact J35 ls i1 i2 i3 i4 5 (lv_sub hl [0, 1, 2, 3, 4] rfl)
  refine lv_iload_n hx hb dLooker_judge_0 rfl (lv_at hl 1 rfl) ?_
  refine lv_if_eq (tgt := 14) hx hb dLooker_judge_1 (by decide) (fun c28 => ?_) (fun c28 => ?_)
  · exact J14 ls x1 x2 x3 x4 (lv_sub hl [0, 1, 2, 3, 4] rfl)
  · refine lv_aload_n hx hb dLooker_judge_4 rfl (lv_at hl 0 rfl) ?_
    obtain ⟨v29, hOv29⟩ := of_8_7 hI
    refine of_get S hC hOv29 in_Looker rfl (by decide) qw_a0a252684f dLooker_judge_5 ?_
    refine lv_iload_n hx hb dLooker_judge_8 rfl (lv_at hl 2 rfl) ?_
    refine lv_icmp_eq (tgt := 14) hx hb dLooker_judge_9 (by decide) (fun c30 => ?_) (fun c30 => ?_)
    · exact J14 ls x1 x2 x3 x4 (lv_sub hl [0, 1, 2, 3, 4] rfl)
    · refine lv_iload_n hx hb dLooker_judge_12 rfl (lv_at hl 1 rfl) ?_
      exact hE _ _ _ trivial dLooker_judge_13

set_option maxHeartbeats 4000000 in
set_option maxRecDepth 100000 in
theorem k_Looker_namedTypeFault (l : Launch) (γ : gE) (A : Nat → Prop) (κ : Nat → Nat) (x1 : Int32)  : PU l yLooker_namedTypeFault bLooker_namedTypeFault 3 (some .int) 2 44 [.ref (γ.2.2.2 8), .int x1] γ (INV γ A κ) (vp_Si (fun v : Int32 => True)) := by
  refine pu_openI (by decide) (Nat.le_of_ble_eq_true rfl) ?_
  intro p e s m args below meth c ls Q S hC hI hE hl
  obtain ⟨hx, hb, hml, hown, hW⟩ := id S
  have hl : lv_has ls 3 [(0, .ref (γ.2.2.2 8)), (1, .int x1)] := hl
  refine lv_aload_n hx hb dLooker_namedTypeFault_0 rfl (lv_at hl 0 rfl) ?_
  refine of_get S hC (of_8_0 hI) in_Looker rfl (by decide) qw_22d2793f25 dLooker_namedTypeFault_1 ?_
  refine lv_iload_n hx hb dLooker_namedTypeFault_4 rfl (lv_at hl 1 rfl) ?_
  refine pu_Vi (rest := []) S hC (k1_Trees_countOf l γ A κ x1) meTrees_countOf qw_195048702c ⟨Nat.le_of_ble_eq_true rfl, Nat.le_of_ble_eq_true rfl⟩ (rv_1 hC hI) hI rfl hl.1 rfl (Nat.le_of_ble_eq_true rfl) dLooker_namedTypeFault_5 ⟨Nat.zero_le _, Nat.zero_le _⟩ (fun r8 hr8 => ?_)
  refine lv_if_eq (tgt := 14) hx hb dLooker_namedTypeFault_8 (by decide) (fun c9 => ?_) (fun c9 => ?_)
  · refine lv_aload_n hx hb dLooker_namedTypeFault_14 rfl (lv_at hl 0 rfl) ?_
    refine of_get S hC (of_8_1 hI) in_Looker rfl (by decide) qw_213d2bb2ac dLooker_namedTypeFault_15 ?_
    refine lv_aload_n hx hb dLooker_namedTypeFault_18 rfl (lv_at hl 0 rfl) ?_
    refine of_get S hC (of_8_0 hI) in_Looker rfl (by decide) qw_22d2793f25 dLooker_namedTypeFault_19 ?_
    refine lv_iload_n hx hb dLooker_namedTypeFault_22 rfl (lv_at hl 1 rfl) ?_
    refine pu_Vi (rest := [.ref (γ.2.2.2 2)]) S hC (k1_Trees_valueOf l γ A κ x1) meTrees_valueOf qw_ea9162cf9a ⟨Nat.le_of_ble_eq_true rfl, Nat.le_of_ble_eq_true rfl⟩ (rv_1 hC hI) hI rfl hl.1 rfl (Nat.le_of_ble_eq_true rfl) dLooker_namedTypeFault_23 ⟨Nat.zero_le _, Nat.zero_le _⟩ (fun r10 hr10 => ?_)
    refine pu_Vi (rest := []) S hC (k2_Names_find l γ A κ r10) meNames_find qw_a4a7b18094 ⟨Nat.le_of_ble_eq_true rfl, Nat.le_of_ble_eq_true rfl⟩ (rv_2 hC hI) hI rfl hl.1 rfl (Nat.le_of_ble_eq_true rfl) dLooker_namedTypeFault_26 ⟨Nat.zero_le _, Nat.zero_le _⟩ (fun r11 hr11 => ?_)
    refine lv_istore_n (lv' := [(2, .int r11), (0, .ref (γ.2.2.2 8)), (1, .int x1)]) hx hb dLooker_namedTypeFault_29 rfl hl (by decide) rfl (fun ls hl => ?_)
    refine lv_iload_n hx hb dLooker_namedTypeFault_30 rfl (lv_at hl 0 rfl) ?_
    refine lv_iconst (v := (-1)) hx hb dLooker_namedTypeFault_31 (by decide) ?_
    refine lv_icmp_ne (tgt := 39) hx hb dLooker_namedTypeFault_32 (by decide) (fun c12 => ?_) (fun c12 => ?_)
    · refine lv_aload_n hx hb dLooker_namedTypeFault_39 rfl (lv_at hl 1 rfl) ?_
      refine of_get S hC (of_8_1 hI) in_Looker rfl (by decide) qw_213d2bb2ac dLooker_namedTypeFault_40 ?_
      refine lv_iload_n hx hb dLooker_namedTypeFault_43 rfl (lv_at hl 0 rfl) ?_
      refine pu_Vi (rest := []) S hC (k2_Names_sortOf l γ A κ r11) meNames_sortOf qw_655d915bbc ⟨Nat.le_of_ble_eq_true rfl, Nat.le_of_ble_eq_true rfl⟩ (rv_2 hC hI) hI rfl hl.1 rfl (Nat.le_of_ble_eq_true rfl) dLooker_namedTypeFault_44 ⟨Nat.zero_le _, Nat.zero_le _⟩ (fun r13 hr13 => ?_)
      refine lv_iconst (v := 1) hx hb dLooker_namedTypeFault_47 (by decide) ?_
      refine lv_icmp_ne (tgt := 55) hx hb dLooker_namedTypeFault_48 (by decide) (fun c14 => ?_) (fun c14 => ?_)
      · refine lv_iconst (v := 2) hx hb dLooker_namedTypeFault_55 (by decide) ?_
        exact hE _ _ _ trivial dLooker_namedTypeFault_56
      · refine lv_iconst (v := 0) hx hb dLooker_namedTypeFault_51 (by decide) ?_
        refine lv_goto (tgt := 56) hx hb dLooker_namedTypeFault_52 (by decide) ?_
        exact hE _ _ _ trivial dLooker_namedTypeFault_56
    · refine lv_iconst (v := 1) hx hb dLooker_namedTypeFault_35 (by decide) ?_
      refine lv_goto (tgt := 56) hx hb dLooker_namedTypeFault_36 (by decide) ?_
      exact hE _ _ _ trivial dLooker_namedTypeFault_56
  · refine lv_bipush (v := 11) hx hb dLooker_namedTypeFault_11 (by decide) ?_
    exact hE _ _ _ trivial dLooker_namedTypeFault_13

set_option maxHeartbeats 4000000 in
set_option maxRecDepth 100000 in
theorem k_Looker_typeFault (l : Launch) (γ : gE) (A : Nat → Prop) (κ : Nat → Nat) (x1 : Int32)  : PU l yLooker_typeFault bLooker_typeFault 5 (some .int) 3 66 [.ref (γ.2.2.2 8), .int x1] γ (INV γ A κ) (vp_Si (fun v : Int32 => True)) := by
  refine pu_openI (by decide) (Nat.le_of_ble_eq_true rfl) ?_
  intro p e s m args below meth c ls Q S hC hI hE hl
  obtain ⟨hx, hb, hml, hown, hW⟩ := id S
  have hl : lv_has ls 5 [(0, .ref (γ.2.2.2 8)), (1, .int x1)] := hl
  have J67 : ∀ (ls : Array Slot)  (i1 : Int32) (i2 : Int32) (t0 : Int32) (t1 : Int32), lv_has ls 5 [(0, .ref (γ.2.2.2 8)), (1, .int i1), (2, .int i2)] → W p l e (bs_rm 3 0 0 66) s m args below meth c s.heap [] 0 0 Q (F0 m 67 ls [.int t0, .int t1]) := by
    intro ls  i1 i2 t0 t1  hl
    refine lv_icmp_eq (tgt := 72) hx hb dLooker_typeFault_67 (by decide) (fun c24 => ?_) (fun c24 => ?_)
    · refine lv_aload_n hx hb dLooker_typeFault_72 rfl (lv_at hl 0 rfl) ?_
      refine of_get S hC (of_8_0 hI) in_Looker rfl (by decide) qw_22d2793f25 dLooker_typeFault_73 ?_
      refine lv_iload_n hx hb dLooker_typeFault_76 rfl (lv_at hl 1 rfl) ?_
      refine pu_Vi (rest := []) S hC (k1_Trees_leftOfTwo l γ A κ i1) meTrees_leftOfTwo qw_844ff72d87 ⟨Nat.le_of_ble_eq_true rfl, Nat.le_of_ble_eq_true rfl⟩ (rv_1 hC hI) hI rfl hl.1 rfl (Nat.le_of_ble_eq_true rfl) dLooker_typeFault_77 ⟨Nat.zero_le _, Nat.zero_le _⟩ (fun r25 hr25 => ?_)
      refine lv_istore_n (lv' := [(3, .int r25), (0, .ref (γ.2.2.2 8)), (1, .int i1), (2, .int i2)]) hx hb dLooker_typeFault_80 rfl hl (by decide) rfl (fun ls hl => ?_)
      refine lv_iload_n hx hb dLooker_typeFault_81 rfl (lv_at hl 2 rfl) ?_
      refine lv_iconst (v := 1) hx hb dLooker_typeFault_82 (by decide) ?_
      refine lv_isub hx hb dLooker_typeFault_83 ?_
      refine lv_topi (fun v26 ev26 => ?_)
      refine lv_istore (lv' := [(4, .int v26), (3, .int r25), (0, .ref (γ.2.2.2 8)), (1, .int i1), (2, .int i2)]) hx hb dLooker_typeFault_84 hl (by decide) rfl (fun ls hl => ?_)
      refine lv_aload_n hx hb dLooker_typeFault_86 rfl (lv_at hl 2 rfl) ?_
      refine of_get S hC (of_8_3 hI) in_Looker rfl (by decide) qw_77aeadf252 dLooker_typeFault_87 ?_
      refine lv_iload_n hx hb dLooker_typeFault_90 rfl (lv_at hl 1 rfl) ?_
      refine pu_Vi (rest := []) S hC (k9_Looks_classOf l γ A κ r25) meLooks_classOf qw_f23e8ec7f8 ⟨Nat.le_of_ble_eq_true rfl, Nat.le_of_ble_eq_true rfl⟩ (rv_9 hC hI) hI rfl hl.1 rfl (Nat.le_of_ble_eq_true rfl) dLooker_typeFault_91 ⟨Nat.zero_le _, Nat.zero_le _⟩ (fun r27 hr27 => ?_)
      refine lv_iconst (v := 2) hx hb dLooker_typeFault_94 (by decide) ?_
      refine lv_icmp_ne (tgt := 111) hx hb dLooker_typeFault_95 (by decide) (fun c28 => ?_) (fun c28 => ?_)
      · refine lv_iconst (v := 3) hx hb dLooker_typeFault_111 (by decide) ?_
        exact hE _ _ _ trivial dLooker_typeFault_112
      · refine lv_aload_n hx hb dLooker_typeFault_98 rfl (lv_at hl 2 rfl) ?_
        refine of_get S hC (of_8_3 hI) in_Looker rfl (by decide) qw_77aeadf252 dLooker_typeFault_99 ?_
        refine lv_iload hx hb dLooker_typeFault_102 (lv_at hl 0 rfl) ?_
        refine pu_Vi (rest := []) S hC (k9_Looks_classOf l γ A κ v26) meLooks_classOf qw_f23e8ec7f8 ⟨Nat.le_of_ble_eq_true rfl, Nat.le_of_ble_eq_true rfl⟩ (rv_9 hC hI) hI rfl hl.1 rfl (Nat.le_of_ble_eq_true rfl) dLooker_typeFault_104 ⟨Nat.zero_le _, Nat.zero_le _⟩ (fun r29 hr29 => ?_)
        refine lv_iconst (v := 2) hx hb dLooker_typeFault_107 (by decide) ?_
        refine lv_icmp_eq (tgt := 113) hx hb dLooker_typeFault_108 (by decide) (fun c30 => ?_) (fun c30 => ?_)
        · refine lv_aload_n hx hb dLooker_typeFault_113 rfl (lv_at hl 2 rfl) ?_
          refine of_get S hC (of_8_3 hI) in_Looker rfl (by decide) qw_77aeadf252 dLooker_typeFault_114 ?_
          refine lv_iload_n hx hb dLooker_typeFault_117 rfl (lv_at hl 1 rfl) ?_
          refine pu_Vi (rest := []) S hC (k9_Looks_isFixed l γ A κ r25) meLooks_isFixed qw_3ab14e380a ⟨Nat.le_of_ble_eq_true rfl, Nat.le_of_ble_eq_true rfl⟩ (rv_9 hC hI) hI rfl hl.1 rfl (Nat.le_of_ble_eq_true rfl) dLooker_typeFault_118 ⟨Nat.zero_le _, Nat.zero_le _⟩ (fun r31 hr31 => ?_)
          refine lv_if_eq (tgt := 136) hx hb dLooker_typeFault_121 (by decide) (fun c32 => ?_) (fun c32 => ?_)
          · refine lv_iconst (v := 5) hx hb dLooker_typeFault_136 (by decide) ?_
            exact hE _ _ _ trivial dLooker_typeFault_137
          · refine lv_aload_n hx hb dLooker_typeFault_124 rfl (lv_at hl 2 rfl) ?_
            refine of_get S hC (of_8_3 hI) in_Looker rfl (by decide) qw_77aeadf252 dLooker_typeFault_125 ?_
            refine lv_iload hx hb dLooker_typeFault_128 (lv_at hl 0 rfl) ?_
            refine pu_Vi (rest := []) S hC (k9_Looks_isFixed l γ A κ v26) meLooks_isFixed qw_3ab14e380a ⟨Nat.le_of_ble_eq_true rfl, Nat.le_of_ble_eq_true rfl⟩ (rv_9 hC hI) hI rfl hl.1 rfl (Nat.le_of_ble_eq_true rfl) dLooker_typeFault_130 ⟨Nat.zero_le _, Nat.zero_le _⟩ (fun r33 hr33 => ?_)
            refine lv_if_ne (tgt := 138) hx hb dLooker_typeFault_133 (by decide) (fun c34 => ?_) (fun c34 => ?_)
            · refine lv_iload_n hx hb dLooker_typeFault_138 rfl (lv_at hl 4 rfl) ?_
              refine lv_aload_n hx hb dLooker_typeFault_139 rfl (lv_at hl 2 rfl) ?_
              refine of_get S hC (of_8_3 hI) in_Looker rfl (by decide) qw_77aeadf252 dLooker_typeFault_140 ?_
              refine lv_iload_n hx hb dLooker_typeFault_143 rfl (lv_at hl 1 rfl) ?_
              refine pu_Vi (rest := [.int i2]) S hC (k9_Looks_numberOf l γ A κ r25) meLooks_numberOf qw_7e695d47da ⟨Nat.le_of_ble_eq_true rfl, Nat.le_of_ble_eq_true rfl⟩ (rv_9 hC hI) hI rfl hl.1 rfl (Nat.le_of_ble_eq_true rfl) dLooker_typeFault_144 ⟨Nat.zero_le _, Nat.zero_le _⟩ (fun r35 hr35 => ?_)
              refine lv_aload_n hx hb dLooker_typeFault_147 rfl (lv_at hl 2 rfl) ?_
              refine of_get S hC (of_8_3 hI) in_Looker rfl (by decide) qw_77aeadf252 dLooker_typeFault_148 ?_
              refine lv_iload hx hb dLooker_typeFault_151 (lv_at hl 0 rfl) ?_
              refine pu_Vi (rest := [.int r35, .int i2]) S hC (k9_Looks_numberOf l γ A κ v26) meLooks_numberOf qw_7e695d47da ⟨Nat.le_of_ble_eq_true rfl, Nat.le_of_ble_eq_true rfl⟩ (rv_9 hC hI) hI rfl hl.1 rfl (Nat.le_of_ble_eq_true rfl) dLooker_typeFault_153 ⟨Nat.zero_le _, Nat.zero_le _⟩ (fun r36 hr36 => ?_)
              refine pu_Si (rest := []) S hC (s_Looker_boundsFault l γ (INV γ A κ) i2 r35 r36) meLooker_boundsFault qw_dd79a0a1bc ⟨Nat.le_of_ble_eq_true rfl, Nat.le_of_ble_eq_true rfl⟩ hI rfl hl.1 rfl (Nat.le_of_ble_eq_true rfl) dLooker_typeFault_156 ⟨Nat.zero_le _, Nat.zero_le _⟩ (fun r37 hr37 => ?_)
              exact hE _ _ _ trivial dLooker_typeFault_159
            · refine lv_iconst (v := 5) hx hb dLooker_typeFault_136 (by decide) ?_
              exact hE _ _ _ trivial dLooker_typeFault_137
        · refine lv_iconst (v := 3) hx hb dLooker_typeFault_111 (by decide) ?_
          exact hE _ _ _ trivial dLooker_typeFault_112
    · refine lv_iconst (v := 2) hx hb dLooker_typeFault_70 (by decide) ?_
      exact hE _ _ _ trivial dLooker_typeFault_71
  refine lv_aload_n hx hb dLooker_typeFault_0 rfl (lv_at hl 0 rfl) ?_
  refine of_get S hC (of_8_0 hI) in_Looker rfl (by decide) qw_22d2793f25 dLooker_typeFault_1 ?_
  refine lv_iload_n hx hb dLooker_typeFault_4 rfl (lv_at hl 1 rfl) ?_
  refine pu_Vi (rest := []) S hC (k1_Trees_kindOf l γ A κ x1) meTrees_kindOf qw_f48a4a6aed ⟨Nat.le_of_ble_eq_true rfl, Nat.le_of_ble_eq_true rfl⟩ (rv_1 hC hI) hI rfl hl.1 rfl (Nat.le_of_ble_eq_true rfl) dLooker_typeFault_5 ⟨Nat.zero_le _, Nat.zero_le _⟩ (fun r38 hr38 => ?_)
  refine lv_istore_n (lv' := [(2, .int r38), (0, .ref (γ.2.2.2 8)), (1, .int x1)]) hx hb dLooker_typeFault_8 rfl hl (by decide) rfl (fun ls hl => ?_)
  refine lv_iload_n hx hb dLooker_typeFault_9 rfl (lv_at hl 0 rfl) ?_
  refine lv_bipush (v := 10) hx hb dLooker_typeFault_10 (by decide) ?_
  refine lv_icmp_ne (tgt := 21) hx hb dLooker_typeFault_12 (by decide) (fun c39 => ?_) (fun c39 => ?_)
  · refine lv_iload_n hx hb dLooker_typeFault_21 rfl (lv_at hl 0 rfl) ?_
    refine lv_bipush (v := 11) hx hb dLooker_typeFault_22 (by decide) ?_
    refine lv_icmp_lt (tgt := 45) hx hb dLooker_typeFault_24 (by decide) (fun c40 => ?_) (fun c40 => ?_)
    · refine lv_bipush (v := 11) hx hb dLooker_typeFault_45 (by decide) ?_
      exact hE _ _ _ trivial dLooker_typeFault_47
    · refine lv_iload_n hx hb dLooker_typeFault_27 rfl (lv_at hl 0 rfl) ?_
      refine lv_bipush (v := 13) hx hb dLooker_typeFault_28 (by decide) ?_
      refine lv_icmp_gt (tgt := 45) hx hb dLooker_typeFault_30 (by decide) (fun c41 => ?_) (fun c41 => ?_)
      · refine lv_bipush (v := 11) hx hb dLooker_typeFault_45 (by decide) ?_
        exact hE _ _ _ trivial dLooker_typeFault_47
      · refine lv_aload_n hx hb dLooker_typeFault_33 rfl (lv_at hl 1 rfl) ?_
        refine of_get S hC (of_8_0 hI) in_Looker rfl (by decide) qw_22d2793f25 dLooker_typeFault_34 ?_
        refine lv_iload_n hx hb dLooker_typeFault_37 rfl (lv_at hl 2 rfl) ?_
        refine pu_Vi (rest := []) S hC (k1_Trees_countOf l γ A κ x1) meTrees_countOf qw_195048702c ⟨Nat.le_of_ble_eq_true rfl, Nat.le_of_ble_eq_true rfl⟩ (rv_1 hC hI) hI rfl hl.1 rfl (Nat.le_of_ble_eq_true rfl) dLooker_typeFault_38 ⟨Nat.zero_le _, Nat.zero_le _⟩ (fun r42 hr42 => ?_)
        refine lv_iconst (v := 2) hx hb dLooker_typeFault_41 (by decide) ?_
        refine lv_icmp_eq (tgt := 48) hx hb dLooker_typeFault_42 (by decide) (fun c43 => ?_) (fun c43 => ?_)
        · refine lv_aload_n hx hb dLooker_typeFault_48 rfl (lv_at hl 1 rfl) ?_
          refine of_get S hC (of_8_0 hI) in_Looker rfl (by decide) qw_22d2793f25 dLooker_typeFault_49 ?_
          refine lv_iload_n hx hb dLooker_typeFault_52 rfl (lv_at hl 2 rfl) ?_
          refine pu_Vi (rest := []) S hC (k1_Trees_valueOf l γ A κ x1) meTrees_valueOf qw_ea9162cf9a ⟨Nat.le_of_ble_eq_true rfl, Nat.le_of_ble_eq_true rfl⟩ (rv_1 hC hI) hI rfl hl.1 rfl (Nat.le_of_ble_eq_true rfl) dLooker_typeFault_53 ⟨Nat.zero_le _, Nat.zero_le _⟩ (fun r44 hr44 => ?_)
          refine lv_iload_n hx hb dLooker_typeFault_56 rfl (lv_at hl 0 rfl) ?_
          refine lv_bipush (v := 11) hx hb dLooker_typeFault_57 (by decide) ?_
          refine lv_icmp_ne (tgt := 66) hx hb dLooker_typeFault_59 (by decide) (fun c45 => ?_) (fun c45 => ?_)
          · refine lv_iconst (v := 5) hx hb dLooker_typeFault_66 (by decide) ?_
            exact J67 ls x1 r38 5 r44 (lv_sub hl [1, 2, 0] rfl)
          · refine lv_iconst (v := 0) hx hb dLooker_typeFault_62 (by decide) ?_
            refine lv_goto (tgt := 67) hx hb dLooker_typeFault_63 (by decide) ?_
            exact J67 ls x1 r38 0 r44 (lv_sub hl [1, 2, 0] rfl)
        · refine lv_bipush (v := 11) hx hb dLooker_typeFault_45 (by decide) ?_
          exact hE _ _ _ trivial dLooker_typeFault_47
  · refine lv_aload_n hx hb dLooker_typeFault_15 rfl (lv_at hl 1 rfl) ?_
    refine lv_iload_n hx hb dLooker_typeFault_16 rfl (lv_at hl 2 rfl) ?_
    refine pu_Vi (rest := []) S hC (k_Looker_namedTypeFault l γ A κ x1) meLooker_namedTypeFault qw_63f3ae9b1e ⟨Nat.le_of_ble_eq_true rfl, Nat.le_of_ble_eq_true rfl⟩ (rv_8 hC hI) hI rfl hl.1 rfl (Nat.le_of_ble_eq_true rfl) dLooker_typeFault_17 ⟨Nat.zero_le _, Nat.zero_le _⟩ (fun r46 hr46 => ?_)
    exact hE _ _ _ trivial dLooker_typeFault_20

set_option maxHeartbeats 4000000 in
set_option maxRecDepth 100000 in
theorem k_Looker_namedType (l : Launch) (γ : gE) (A : Nat → Prop) (κ : Nat → Nat) (x1 : Int32)  : PU l yLooker_namedType bLooker_namedType 2 (some .int) 2 44 [.ref (γ.2.2.2 8), .int x1] γ (INV γ A κ) (vp_Si (fun v : Int32 => True)) := by
  refine pu_openI (by decide) (Nat.le_of_ble_eq_true rfl) ?_
  intro p e s m args below meth c ls Q S hC hI hE hl
  obtain ⟨hx, hb, hml, hown, hW⟩ := id S
  have hl : lv_has ls 2 [(0, .ref (γ.2.2.2 8)), (1, .int x1)] := hl
  refine lv_aload_n hx hb dLooker_namedType_0 rfl (lv_at hl 0 rfl) ?_
  refine of_get S hC (of_8_1 hI) in_Looker rfl (by decide) qw_213d2bb2ac dLooker_namedType_1 ?_
  refine lv_aload_n hx hb dLooker_namedType_4 rfl (lv_at hl 0 rfl) ?_
  refine of_get S hC (of_8_1 hI) in_Looker rfl (by decide) qw_213d2bb2ac dLooker_namedType_5 ?_
  refine lv_aload_n hx hb dLooker_namedType_8 rfl (lv_at hl 0 rfl) ?_
  refine of_get S hC (of_8_0 hI) in_Looker rfl (by decide) qw_22d2793f25 dLooker_namedType_9 ?_
  refine lv_iload_n hx hb dLooker_namedType_12 rfl (lv_at hl 1 rfl) ?_
  refine pu_Vi (rest := [.ref (γ.2.2.2 2), .ref (γ.2.2.2 2)]) S hC (k1_Trees_valueOf l γ A κ x1) meTrees_valueOf qw_ea9162cf9a ⟨Nat.le_of_ble_eq_true rfl, Nat.le_of_ble_eq_true rfl⟩ (rv_1 hC hI) hI rfl hl.1 rfl (Nat.le_of_ble_eq_true rfl) dLooker_namedType_13 ⟨Nat.zero_le _, Nat.zero_le _⟩ (fun r4 hr4 => ?_)
  refine pu_Vi (rest := [.ref (γ.2.2.2 2)]) S hC (k2_Names_find l γ A κ r4) meNames_find qw_a4a7b18094 ⟨Nat.le_of_ble_eq_true rfl, Nat.le_of_ble_eq_true rfl⟩ (rv_2 hC hI) hI rfl hl.1 rfl (Nat.le_of_ble_eq_true rfl) dLooker_namedType_16 ⟨Nat.zero_le _, Nat.zero_le _⟩ (fun r5 hr5 => ?_)
  refine pu_Vi (rest := []) S hC (k2_Names_numberOf l γ A κ r5) meNames_numberOf qw_108db87eb2 ⟨Nat.le_of_ble_eq_true rfl, Nat.le_of_ble_eq_true rfl⟩ (rv_2 hC hI) hI rfl hl.1 rfl (Nat.le_of_ble_eq_true rfl) dLooker_namedType_19 ⟨Nat.zero_le _, Nat.zero_le _⟩ (fun r6 hr6 => ?_)
  exact hE _ _ _ trivial dLooker_namedType_22

set_option maxHeartbeats 4000000 in
set_option maxRecDepth 100000 in
theorem k_Meanings_isConstant (l : Launch) (γ : gE) (A : Nat → Prop) (κ : Nat → Nat) (x1 : Int32)  : PU l yMeanings_isConstant bMeanings_isConstant 2 (some .boolean) 2 42 [.ref (γ.2.2.2 12), .int x1] γ (INV γ A κ) (vp_Si (fun v : Int32 => True)) := by
  refine pu_openZ (by decide) (Nat.le_of_ble_eq_true rfl) ?_
  intro p e s m args below meth c ls Q S hC hI hE hl
  obtain ⟨hx, hb, hml, hown, hW⟩ := id S
  have hl : lv_has ls 2 [(0, .ref (γ.2.2.2 12)), (1, .int x1)] := hl
  refine lv_aload_n hx hb dMeanings_isConstant_0 rfl (lv_at hl 0 rfl) ?_
  refine of_get S hC (of_12_3 hI) in_Meanings rfl (by decide) qw_9bfdade5f5 dMeanings_isConstant_1 ?_
  refine lv_iload_n hx hb dMeanings_isConstant_4 rfl (lv_at hl 1 rfl) ?_
  refine pu_Vi (rest := []) S hC (k4_Objects_whatOf l γ A κ x1) meObjects_whatOf qw_2c7313498c ⟨Nat.le_of_ble_eq_true rfl, Nat.le_of_ble_eq_true rfl⟩ (rv_4 hC hI) hI rfl hl.1 rfl (Nat.le_of_ble_eq_true rfl) dMeanings_isConstant_5 ⟨Nat.zero_le _, Nat.zero_le _⟩ (fun r3 hr3 => ?_)
  refine lv_if_ne (tgt := 15) hx hb dMeanings_isConstant_8 (by decide) (fun c4 => ?_) (fun c4 => ?_)
  · refine lv_iconst (v := 0) hx hb dMeanings_isConstant_15 (by decide) ?_
    exact hE _ _ _ rfl trivial dMeanings_isConstant_16
  · refine lv_iconst (v := 1) hx hb dMeanings_isConstant_11 (by decide) ?_
    refine lv_goto (tgt := 16) hx hb dMeanings_isConstant_12 (by decide) ?_
    exact hE _ _ _ rfl trivial dMeanings_isConstant_16

set_option maxHeartbeats 4000000 in
set_option maxRecDepth 100000 in
theorem k_Meanings_isRow (l : Launch) (γ : gE) (A : Nat → Prop) (κ : Nat → Nat) (x1 : Int32)  : PU l yMeanings_isRow bMeanings_isRow 2 (some .boolean) 2 42 [.ref (γ.2.2.2 12), .int x1] γ (INV γ A κ) (vp_Si (fun v : Int32 => True)) := by
  refine pu_openZ (by decide) (Nat.le_of_ble_eq_true rfl) ?_
  intro p e s m args below meth c ls Q S hC hI hE hl
  obtain ⟨hx, hb, hml, hown, hW⟩ := id S
  have hl : lv_has ls 2 [(0, .ref (γ.2.2.2 12)), (1, .int x1)] := hl
  refine lv_aload_n hx hb dMeanings_isRow_0 rfl (lv_at hl 0 rfl) ?_
  refine of_get S hC (of_12_2 hI) in_Meanings rfl (by decide) qw_e2a2dba4a9 dMeanings_isRow_1 ?_
  refine lv_aload_n hx hb dMeanings_isRow_4 rfl (lv_at hl 0 rfl) ?_
  refine of_get S hC (of_12_3 hI) in_Meanings rfl (by decide) qw_9bfdade5f5 dMeanings_isRow_5 ?_
  refine lv_iload_n hx hb dMeanings_isRow_8 rfl (lv_at hl 1 rfl) ?_
  refine pu_Vi (rest := [.ref (γ.2.2.2 3)]) S hC (k4_Objects_typeOfObject l γ A κ x1) meObjects_typeOfObject qw_bc7306873f ⟨Nat.le_of_ble_eq_true rfl, Nat.le_of_ble_eq_true rfl⟩ (rv_4 hC hI) hI rfl hl.1 rfl (Nat.le_of_ble_eq_true rfl) dMeanings_isRow_9 ⟨Nat.zero_le _, Nat.zero_le _⟩ (fun r4 hr4 => ?_)
  refine pu_Vi (rest := []) S hC (k3_Types_classOf l γ A κ r4) meTypes_classOf qw_ac19273b21 ⟨Nat.le_of_ble_eq_true rfl, Nat.le_of_ble_eq_true rfl⟩ (rv_3 hC hI) hI rfl hl.1 rfl (Nat.le_of_ble_eq_true rfl) dMeanings_isRow_12 ⟨Nat.zero_le _, Nat.zero_le _⟩ (fun r5 hr5 => ?_)
  refine lv_iconst (v := 3) hx hb dMeanings_isRow_15 (by decide) ?_
  refine lv_icmp_ne (tgt := 23) hx hb dMeanings_isRow_16 (by decide) (fun c6 => ?_) (fun c6 => ?_)
  · refine lv_iconst (v := 0) hx hb dMeanings_isRow_23 (by decide) ?_
    exact hE _ _ _ rfl trivial dMeanings_isRow_24
  · refine lv_iconst (v := 1) hx hb dMeanings_isRow_19 (by decide) ?_
    refine lv_goto (tgt := 24) hx hb dMeanings_isRow_20 (by decide) ?_
    exact hE _ _ _ rfl trivial dMeanings_isRow_24

set_option maxHeartbeats 4000000 in
set_option maxRecDepth 100000 in
theorem k_Meanings_objectAt (l : Launch) (γ : gE) (A : Nat → Prop) (κ : Nat → Nat) (x1 : Int32)  : PU l yMeanings_objectAt bMeanings_objectAt 3 (some .int) 2 44 [.ref (γ.2.2.2 12), .int x1] γ (INV γ A κ) (vp_Si (fun v : Int32 => True)) := by
  refine pu_openI (by decide) (Nat.le_of_ble_eq_true rfl) ?_
  intro p e s m args below meth c ls Q S hC hI hE hl
  obtain ⟨hx, hb, hml, hown, hW⟩ := id S
  have hl : lv_has ls 3 [(0, .ref (γ.2.2.2 12)), (1, .int x1)] := hl
  refine lv_aload_n hx hb dMeanings_objectAt_0 rfl (lv_at hl 0 rfl) ?_
  refine of_get S hC (of_12_1 hI) in_Meanings rfl (by decide) qw_2a07109efc dMeanings_objectAt_1 ?_
  refine lv_aload_n hx hb dMeanings_objectAt_4 rfl (lv_at hl 0 rfl) ?_
  refine of_get S hC (of_12_0 hI) in_Meanings rfl (by decide) qw_c54cffb97e dMeanings_objectAt_5 ?_
  refine lv_iload_n hx hb dMeanings_objectAt_8 rfl (lv_at hl 1 rfl) ?_
  refine pu_Vi (rest := [.ref (γ.2.2.2 2)]) S hC (k1_Trees_valueOf l γ A κ x1) meTrees_valueOf qw_b5139988c8 ⟨Nat.le_of_ble_eq_true rfl, Nat.le_of_ble_eq_true rfl⟩ (rv_1 hC hI) hI rfl hl.1 rfl (Nat.le_of_ble_eq_true rfl) dMeanings_objectAt_9 ⟨Nat.zero_le _, Nat.zero_le _⟩ (fun r6 hr6 => ?_)
  refine pu_Vi (rest := []) S hC (k2_Names_find l γ A κ r6) meNames_find qw_941b68ccbe ⟨Nat.le_of_ble_eq_true rfl, Nat.le_of_ble_eq_true rfl⟩ (rv_2 hC hI) hI rfl hl.1 rfl (Nat.le_of_ble_eq_true rfl) dMeanings_objectAt_12 ⟨Nat.zero_le _, Nat.zero_le _⟩ (fun r7 hr7 => ?_)
  refine lv_istore_n (lv' := [(2, .int r7), (0, .ref (γ.2.2.2 12)), (1, .int x1)]) hx hb dMeanings_objectAt_15 rfl hl (by decide) rfl (fun ls hl => ?_)
  refine lv_aload_n hx hb dMeanings_objectAt_16 rfl (lv_at hl 1 rfl) ?_
  refine of_get S hC (of_12_1 hI) in_Meanings rfl (by decide) qw_2a07109efc dMeanings_objectAt_17 ?_
  refine lv_iload_n hx hb dMeanings_objectAt_20 rfl (lv_at hl 0 rfl) ?_
  refine pu_Vi (rest := []) S hC (k2_Names_sortOf l γ A κ r7) meNames_sortOf qw_79c9b178a8 ⟨Nat.le_of_ble_eq_true rfl, Nat.le_of_ble_eq_true rfl⟩ (rv_2 hC hI) hI rfl hl.1 rfl (Nat.le_of_ble_eq_true rfl) dMeanings_objectAt_21 ⟨Nat.zero_le _, Nat.zero_le _⟩ (fun r8 hr8 => ?_)
  refine lv_iconst (v := 2) hx hb dMeanings_objectAt_24 (by decide) ?_
  refine lv_icmp_ne (tgt := 39) hx hb dMeanings_objectAt_25 (by decide) (fun c9 => ?_) (fun c9 => ?_)
  · refine lv_iconst (v := (-1)) hx hb dMeanings_objectAt_39 (by decide) ?_
    exact hE _ _ _ trivial dMeanings_objectAt_40
  · refine lv_aload_n hx hb dMeanings_objectAt_28 rfl (lv_at hl 1 rfl) ?_
    refine of_get S hC (of_12_1 hI) in_Meanings rfl (by decide) qw_2a07109efc dMeanings_objectAt_29 ?_
    refine lv_iload_n hx hb dMeanings_objectAt_32 rfl (lv_at hl 0 rfl) ?_
    refine pu_Vi (rest := []) S hC (k2_Names_numberOf l γ A κ r7) meNames_numberOf qw_f03e5d487b ⟨Nat.le_of_ble_eq_true rfl, Nat.le_of_ble_eq_true rfl⟩ (rv_2 hC hI) hI rfl hl.1 rfl (Nat.le_of_ble_eq_true rfl) dMeanings_objectAt_33 ⟨Nat.zero_le _, Nat.zero_le _⟩ (fun r10 hr10 => ?_)
    refine lv_goto (tgt := 40) hx hb dMeanings_objectAt_36 (by decide) ?_
    exact hE _ _ _ trivial dMeanings_objectAt_40

set_option maxHeartbeats 4000000 in
set_option maxRecDepth 100000 in
theorem k_Meanings_isUnknown (l : Launch) (γ : gE) (A : Nat → Prop) (κ : Nat → Nat) (x1 : Int32)  : PU l yMeanings_isUnknown bMeanings_isUnknown 2 (some .boolean) 2 44 [.ref (γ.2.2.2 12), .int x1] γ (INV γ A κ) (vp_Si (fun v : Int32 => True)) := by
  refine pu_openZ (by decide) (Nat.le_of_ble_eq_true rfl) ?_
  intro p e s m args below meth c ls Q S hC hI hE hl
  obtain ⟨hx, hb, hml, hown, hW⟩ := id S
  have hl : lv_has ls 2 [(0, .ref (γ.2.2.2 12)), (1, .int x1)] := hl
  refine lv_aload_n hx hb dMeanings_isUnknown_0 rfl (lv_at hl 0 rfl) ?_
  refine of_get S hC (of_12_1 hI) in_Meanings rfl (by decide) qw_2a07109efc dMeanings_isUnknown_1 ?_
  refine lv_aload_n hx hb dMeanings_isUnknown_4 rfl (lv_at hl 0 rfl) ?_
  refine of_get S hC (of_12_0 hI) in_Meanings rfl (by decide) qw_c54cffb97e dMeanings_isUnknown_5 ?_
  refine lv_iload_n hx hb dMeanings_isUnknown_8 rfl (lv_at hl 1 rfl) ?_
  refine pu_Vi (rest := [.ref (γ.2.2.2 2)]) S hC (k1_Trees_valueOf l γ A κ x1) meTrees_valueOf qw_b5139988c8 ⟨Nat.le_of_ble_eq_true rfl, Nat.le_of_ble_eq_true rfl⟩ (rv_1 hC hI) hI rfl hl.1 rfl (Nat.le_of_ble_eq_true rfl) dMeanings_isUnknown_9 ⟨Nat.zero_le _, Nat.zero_le _⟩ (fun r4 hr4 => ?_)
  refine pu_Vi (rest := []) S hC (k2_Names_find l γ A κ r4) meNames_find qw_941b68ccbe ⟨Nat.le_of_ble_eq_true rfl, Nat.le_of_ble_eq_true rfl⟩ (rv_2 hC hI) hI rfl hl.1 rfl (Nat.le_of_ble_eq_true rfl) dMeanings_isUnknown_12 ⟨Nat.zero_le _, Nat.zero_le _⟩ (fun r5 hr5 => ?_)
  refine lv_iconst (v := (-1)) hx hb dMeanings_isUnknown_15 (by decide) ?_
  refine lv_icmp_ne (tgt := 23) hx hb dMeanings_isUnknown_16 (by decide) (fun c6 => ?_) (fun c6 => ?_)
  · refine lv_iconst (v := 0) hx hb dMeanings_isUnknown_23 (by decide) ?_
    exact hE _ _ _ rfl trivial dMeanings_isUnknown_24
  · refine lv_iconst (v := 1) hx hb dMeanings_isUnknown_19 (by decide) ?_
    refine lv_goto (tgt := 24) hx hb dMeanings_isUnknown_20 (by decide) ?_
    exact hE _ _ _ rfl trivial dMeanings_isUnknown_24

set_option maxHeartbeats 4000000 in
set_option maxRecDepth 100000 in
theorem k_Meanings_boundOf (l : Launch) (γ : gE) (A : Nat → Prop) (κ : Nat → Nat) (x1 : Int32) (x2 : Int32)  : PU l yMeanings_boundOf bMeanings_boundOf 5 (some .int) 2 42 [.ref (γ.2.2.2 12), .int x1, .int x2] γ (INV γ A κ) (vp_Si (fun v : Int32 => True)) := by
  refine pu_openI (by decide) (Nat.le_of_ble_eq_true rfl) ?_
  intro p e s m args below meth c ls Q S hC hI hE hl
  obtain ⟨hx, hb, hml, hown, hW⟩ := id S
  have hl : lv_has ls 5 [(0, .ref (γ.2.2.2 12)), (1, .int x1), (2, .int x2)] := hl
  refine lv_aload_n hx hb dMeanings_boundOf_0 rfl (lv_at hl 0 rfl) ?_
  refine of_get S hC (of_12_2 hI) in_Meanings rfl (by decide) qw_e2a2dba4a9 dMeanings_boundOf_1 ?_
  refine lv_iload_n hx hb dMeanings_boundOf_4 rfl (lv_at hl 2 rfl) ?_
  refine pu_Vi (rest := []) S hC (k3_Types_leftOf l γ A κ x2) meTypes_leftOf qw_33e16e4dc6 ⟨Nat.le_of_ble_eq_true rfl, Nat.le_of_ble_eq_true rfl⟩ (rv_3 hC hI) hI rfl hl.1 rfl (Nat.le_of_ble_eq_true rfl) dMeanings_boundOf_5 ⟨Nat.zero_le _, Nat.zero_le _⟩ (fun r10 hr10 => ?_)
  refine lv_istore_n (lv' := [(3, .int r10), (0, .ref (γ.2.2.2 12)), (1, .int x1), (2, .int x2)]) hx hb dMeanings_boundOf_8 rfl hl (by decide) rfl (fun ls hl => ?_)
  refine lv_aload_n hx hb dMeanings_boundOf_9 rfl (lv_at hl 1 rfl) ?_
  refine of_get S hC (of_12_2 hI) in_Meanings rfl (by decide) qw_e2a2dba4a9 dMeanings_boundOf_10 ?_
  refine lv_iload_n hx hb dMeanings_boundOf_13 rfl (lv_at hl 3 rfl) ?_
  refine pu_Vi (rest := []) S hC (k3_Types_rightOf l γ A κ x2) meTypes_rightOf qw_8bca252105 ⟨Nat.le_of_ble_eq_true rfl, Nat.le_of_ble_eq_true rfl⟩ (rv_3 hC hI) hI rfl hl.1 rfl (Nat.le_of_ble_eq_true rfl) dMeanings_boundOf_14 ⟨Nat.zero_le _, Nat.zero_le _⟩ (fun r11 hr11 => ?_)
  refine lv_istore (lv' := [(4, .int r11), (3, .int r10), (0, .ref (γ.2.2.2 12)), (1, .int x1), (2, .int x2)]) hx hb dMeanings_boundOf_17 hl (by decide) rfl (fun ls hl => ?_)
  refine lv_iload_n hx hb dMeanings_boundOf_19 rfl (lv_at hl 3 rfl) ?_
  by_cases k12 : x1 = 19
  · subst k12
    refine lv_tableIn (tgt := 52) hx hb dMeanings_boundOf_20 (by decide) (by decide) rfl (by decide) ?_
    refine lv_iload_n hx hb dMeanings_boundOf_52 rfl (lv_at hl 1 rfl) ?_
    exact hE _ _ _ trivial dMeanings_boundOf_53
  by_cases k13 : x1 = 20
  · subst k13
    refine lv_tableIn (tgt := 54) hx hb dMeanings_boundOf_20 (by decide) (by decide) rfl (by decide) ?_
    refine lv_iload hx hb dMeanings_boundOf_54 (lv_at hl 0 rfl) ?_
    exact hE _ _ _ trivial dMeanings_boundOf_56
  by_cases k14 : x1 = 21
  · subst k14
    refine lv_tableIn (tgt := 57) hx hb dMeanings_boundOf_20 (by decide) (by decide) rfl (by decide) ?_
    refine lv_iload_n hx hb dMeanings_boundOf_57 rfl (lv_at hl 1 rfl) ?_
    refine lv_iload hx hb dMeanings_boundOf_58 (lv_at hl 0 rfl) ?_
    refine va_mmax (rest := []) hx hb (hml.trans hl.1.symm) hown (hW _ qw_432ed99f40) (hW _ qw_7cc87a9f9b) (hW _ qw_0001fcaade) (hW _ qw_6b973c1ba4) (Nat.le_of_ble_eq_true rfl) (Nat.le_of_ble_eq_true rfl) (Nat.zero_le _) (Nat.zero_le _) dMeanings_boundOf_60 ?_
    refine lv_topi (fun v15 ev15 => ?_)
    exact hE _ _ _ trivial dMeanings_boundOf_63
  by_cases k16 : x1 = 22
  · subst k16
    refine lv_tableIn (tgt := 64) hx hb dMeanings_boundOf_20 (by decide) (by decide) rfl (by decide) ?_
    refine lv_iload_n hx hb dMeanings_boundOf_64 rfl (lv_at hl 1 rfl) ?_
    refine lv_iload hx hb dMeanings_boundOf_65 (lv_at hl 0 rfl) ?_
    refine va_mmin (rest := []) hx hb (hml.trans hl.1.symm) hown (hW _ qw_883a959cdb) (hW _ qw_1a05fe5770) (hW _ qw_0001fcaade) (hW _ qw_5e99ca5e66) (Nat.le_of_ble_eq_true rfl) (Nat.le_of_ble_eq_true rfl) (Nat.zero_le _) (Nat.zero_le _) dMeanings_boundOf_67 ?_
    refine lv_topi (fun v17 ev17 => ?_)
    exact hE _ _ _ trivial dMeanings_boundOf_70
  refine lv_tableOut (tgt := 71) hx hb dMeanings_boundOf_20 (by have qk12 := lv_neT (a := 19) k12 (by decide); have qk13 := lv_neT (a := 20) k13 (by decide); have qk14 := lv_neT (a := 21) k14 (by decide); have qk16 := lv_neT (a := 22) k16 (by decide); omega) (by decide) ?_
  refine lv_aload_n hx hb dMeanings_boundOf_71 rfl (lv_at hl 2 rfl) ?_
  refine of_get S hC (of_12_2 hI) in_Meanings rfl (by decide) qw_e2a2dba4a9 dMeanings_boundOf_72 ?_
  refine lv_iload_n hx hb dMeanings_boundOf_75 rfl (lv_at hl 4 rfl) ?_
  refine pu_Vi (rest := []) S hC (k3_Types_countOf l γ A κ x2) meTypes_countOf qw_fae60a97b0 ⟨Nat.le_of_ble_eq_true rfl, Nat.le_of_ble_eq_true rfl⟩ (rv_3 hC hI) hI rfl hl.1 rfl (Nat.le_of_ble_eq_true rfl) dMeanings_boundOf_76 ⟨Nat.zero_le _, Nat.zero_le _⟩ (fun r18 hr18 => ?_)
  exact hE _ _ _ trivial dMeanings_boundOf_79

set_option maxHeartbeats 4000000 in
set_option maxRecDepth 100000 in
theorem k_Operators_areOfOneClass (l : Launch) (γ : gE) (A : Nat → Prop) (κ : Nat → Nat) (x1 : Int32) (x2 : Int32)  : PU l yOperators_areOfOneClass bOperators_areOfOneClass 4 (some .boolean) 2 42 [.ref (γ.2.2.2 11), .int x1, .int x2] γ (INV γ A κ) (vp_Si (fun v : Int32 => True)) := by
  refine pu_openZ (by decide) (Nat.le_of_ble_eq_true rfl) ?_
  intro p e s m args below meth c ls Q S hC hI hE hl
  obtain ⟨hx, hb, hml, hown, hW⟩ := id S
  have hl : lv_has ls 4 [(0, .ref (γ.2.2.2 11)), (1, .int x1), (2, .int x2)] := hl
  have J45 : ∀ (ls : Array Slot)  (i1 : Int32) (i2 : Int32) (i3 : Int32), lv_has ls 4 [(0, .ref (γ.2.2.2 11)), (1, .int i1), (2, .int i2), (3, .int i3)] → W p l e (bs_rm 2 0 0 42) s m args below meth c s.heap [] 0 0 Q (F0 m 45 ls []) := by
    intro ls  i1 i2 i3  hl
    refine lv_iconst (v := 1) hx hb dOperators_areOfOneClass_45 (by decide) ?_
    refine lv_goto (tgt := 50) hx hb dOperators_areOfOneClass_46 (by decide) ?_
    exact hE _ _ _ rfl trivial dOperators_areOfOneClass_50
  refine lv_aload_n hx hb dOperators_areOfOneClass_0 rfl (lv_at hl 0 rfl) ?_
  refine of_get S hC (of_11_0 hI) in_Operators rfl (by decide) qw_46160f6e07 dOperators_areOfOneClass_1 ?_
  refine lv_iload_n hx hb dOperators_areOfOneClass_4 rfl (lv_at hl 1 rfl) ?_
  refine pu_Vi (rest := []) S hC (k9_Looks_classOf l γ A κ x1) meLooks_classOf qw_2e1b0e0eff ⟨Nat.le_of_ble_eq_true rfl, Nat.le_of_ble_eq_true rfl⟩ (rv_9 hC hI) hI rfl hl.1 rfl (Nat.le_of_ble_eq_true rfl) dOperators_areOfOneClass_5 ⟨Nat.zero_le _, Nat.zero_le _⟩ (fun r8 hr8 => ?_)
  refine lv_istore_n (lv' := [(3, .int r8), (0, .ref (γ.2.2.2 11)), (1, .int x1), (2, .int x2)]) hx hb dOperators_areOfOneClass_8 rfl hl (by decide) rfl (fun ls hl => ?_)
  refine lv_iload_n hx hb dOperators_areOfOneClass_9 rfl (lv_at hl 0 rfl) ?_
  refine lv_aload_n hx hb dOperators_areOfOneClass_10 rfl (lv_at hl 1 rfl) ?_
  refine of_get S hC (of_11_0 hI) in_Operators rfl (by decide) qw_46160f6e07 dOperators_areOfOneClass_11 ?_
  refine lv_iload_n hx hb dOperators_areOfOneClass_14 rfl (lv_at hl 3 rfl) ?_
  refine pu_Vi (rest := [.int r8]) S hC (k9_Looks_classOf l γ A κ x2) meLooks_classOf qw_2e1b0e0eff ⟨Nat.le_of_ble_eq_true rfl, Nat.le_of_ble_eq_true rfl⟩ (rv_9 hC hI) hI rfl hl.1 rfl (Nat.le_of_ble_eq_true rfl) dOperators_areOfOneClass_15 ⟨Nat.zero_le _, Nat.zero_le _⟩ (fun r9 hr9 => ?_)
  refine lv_icmp_ne (tgt := 49) hx hb dOperators_areOfOneClass_18 (by decide) (fun c10 => ?_) (fun c10 => ?_)
  · refine lv_iconst (v := 0) hx hb dOperators_areOfOneClass_49 (by decide) ?_
    exact hE _ _ _ rfl trivial dOperators_areOfOneClass_50
  · refine lv_iload_n hx hb dOperators_areOfOneClass_21 rfl (lv_at hl 0 rfl) ?_
    refine lv_iconst (v := 4) hx hb dOperators_areOfOneClass_22 (by decide) ?_
    refine lv_icmp_ne (tgt := 45) hx hb dOperators_areOfOneClass_23 (by decide) (fun c11 => ?_) (fun c11 => ?_)
    · exact J45 ls x1 x2 r8 (lv_sub hl [1, 2, 3, 0] rfl)
    · refine lv_aload_n hx hb dOperators_areOfOneClass_26 rfl (lv_at hl 1 rfl) ?_
      refine of_get S hC (of_11_0 hI) in_Operators rfl (by decide) qw_46160f6e07 dOperators_areOfOneClass_27 ?_
      refine lv_iload_n hx hb dOperators_areOfOneClass_30 rfl (lv_at hl 2 rfl) ?_
      refine pu_Vi (rest := []) S hC (k9_Looks_extentOf l γ A κ x1) meLooks_extentOf qw_b0051a6c7a ⟨Nat.le_of_ble_eq_true rfl, Nat.le_of_ble_eq_true rfl⟩ (rv_9 hC hI) hI rfl hl.1 rfl (Nat.le_of_ble_eq_true rfl) dOperators_areOfOneClass_31 ⟨Nat.zero_le _, Nat.zero_le _⟩ (fun r12 hr12 => ?_)
      refine lv_aload_n hx hb dOperators_areOfOneClass_34 rfl (lv_at hl 1 rfl) ?_
      refine of_get S hC (of_11_0 hI) in_Operators rfl (by decide) qw_46160f6e07 dOperators_areOfOneClass_35 ?_
      refine lv_iload_n hx hb dOperators_areOfOneClass_38 rfl (lv_at hl 3 rfl) ?_
      refine pu_Vi (rest := [.int r12]) S hC (k9_Looks_extentOf l γ A κ x2) meLooks_extentOf qw_b0051a6c7a ⟨Nat.le_of_ble_eq_true rfl, Nat.le_of_ble_eq_true rfl⟩ (rv_9 hC hI) hI rfl hl.1 rfl (Nat.le_of_ble_eq_true rfl) dOperators_areOfOneClass_39 ⟨Nat.zero_le _, Nat.zero_le _⟩ (fun r13 hr13 => ?_)
      refine lv_icmp_ne (tgt := 49) hx hb dOperators_areOfOneClass_42 (by decide) (fun c14 => ?_) (fun c14 => ?_)
      · refine lv_iconst (v := 0) hx hb dOperators_areOfOneClass_49 (by decide) ?_
        exact hE _ _ _ rfl trivial dOperators_areOfOneClass_50
      · exact J45 ls x1 x2 r8 (lv_sub hl [1, 2, 3, 0] rfl)

set_option maxHeartbeats 4000000 in
set_option maxRecDepth 100000 in
theorem k_Operators_widthOf (l : Launch) (γ : gE) (A : Nat → Prop) (κ : Nat → Nat) (x1 : Int32)  : PU l yOperators_widthOf bOperators_widthOf 2 (some .int) 2 42 [.ref (γ.2.2.2 11), .int x1] γ (INV γ A κ) (vp_Si (fun v : Int32 => True)) := by
  refine pu_openI (by decide) (Nat.le_of_ble_eq_true rfl) ?_
  intro p e s m args below meth c ls Q S hC hI hE hl
  obtain ⟨hx, hb, hml, hown, hW⟩ := id S
  have hl : lv_has ls 2 [(0, .ref (γ.2.2.2 11)), (1, .int x1)] := hl
  refine lv_aload_n hx hb dOperators_widthOf_0 rfl (lv_at hl 0 rfl) ?_
  refine of_get S hC (of_11_0 hI) in_Operators rfl (by decide) qw_46160f6e07 dOperators_widthOf_1 ?_
  refine lv_iload_n hx hb dOperators_widthOf_4 rfl (lv_at hl 1 rfl) ?_
  refine pu_Vi (rest := []) S hC (k9_Looks_classOf l γ A κ x1) meLooks_classOf qw_2e1b0e0eff ⟨Nat.le_of_ble_eq_true rfl, Nat.le_of_ble_eq_true rfl⟩ (rv_9 hC hI) hI rfl hl.1 rfl (Nat.le_of_ble_eq_true rfl) dOperators_widthOf_5 ⟨Nat.zero_le _, Nat.zero_le _⟩ (fun r4 hr4 => ?_)
  refine lv_iconst (v := 3) hx hb dOperators_widthOf_8 (by decide) ?_
  refine lv_icmp_ne (tgt := 23) hx hb dOperators_widthOf_9 (by decide) (fun c5 => ?_) (fun c5 => ?_)
  · refine lv_iconst (v := 1) hx hb dOperators_widthOf_23 (by decide) ?_
    exact hE _ _ _ trivial dOperators_widthOf_24
  · refine lv_aload_n hx hb dOperators_widthOf_12 rfl (lv_at hl 0 rfl) ?_
    refine of_get S hC (of_11_0 hI) in_Operators rfl (by decide) qw_46160f6e07 dOperators_widthOf_13 ?_
    refine lv_iload_n hx hb dOperators_widthOf_16 rfl (lv_at hl 1 rfl) ?_
    refine pu_Vi (rest := []) S hC (k9_Looks_extentOf l γ A κ x1) meLooks_extentOf qw_b0051a6c7a ⟨Nat.le_of_ble_eq_true rfl, Nat.le_of_ble_eq_true rfl⟩ (rv_9 hC hI) hI rfl hl.1 rfl (Nat.le_of_ble_eq_true rfl) dOperators_widthOf_17 ⟨Nat.zero_le _, Nat.zero_le _⟩ (fun r6 hr6 => ?_)
    refine lv_goto (tgt := 24) hx hb dOperators_widthOf_20 (by decide) ?_
    exact hE _ _ _ trivial dOperators_widthOf_24

set_option maxHeartbeats 4000000 in
set_option maxRecDepth 100000 in
theorem k_Operators_resultLength (l : Launch) (γ : gE) (A : Nat → Prop) (κ : Nat → Nat) (x1 : Int32) (x2 : Int32) (x3 : Int32)  : PU l yOperators_resultLength bOperators_resultLength 4 (some .int) 3 63 [.ref (γ.2.2.2 11), .int x1, .int x2, .int x3] γ (INV γ A κ) (vp_Si (fun v : Int32 => True)) := by
  refine pu_openI (by decide) (Nat.le_of_ble_eq_true rfl) ?_
  intro p e s m args below meth c ls Q S hC hI hE hl
  obtain ⟨hx, hb, hml, hown, hW⟩ := id S
  have hl : lv_has ls 4 [(0, .ref (γ.2.2.2 11)), (1, .int x1), (2, .int x2), (3, .int x3)] := hl
  refine lv_iload_n hx hb dOperators_resultLength_0 rfl (lv_at hl 1 rfl) ?_
  refine lv_bipush (v := 14) hx hb dOperators_resultLength_1 (by decide) ?_
  refine lv_icmp_ne (tgt := 18) hx hb dOperators_resultLength_3 (by decide) (fun c9 => ?_) (fun c9 => ?_)
  · refine lv_aload_n hx hb dOperators_resultLength_18 rfl (lv_at hl 0 rfl) ?_
    refine of_get S hC (of_11_0 hI) in_Operators rfl (by decide) qw_46160f6e07 dOperators_resultLength_19 ?_
    refine lv_iload_n hx hb dOperators_resultLength_22 rfl (lv_at hl 2 rfl) ?_
    refine pu_Vi (rest := []) S hC (k9_Looks_classOf l γ A κ x2) meLooks_classOf qw_2e1b0e0eff ⟨Nat.le_of_ble_eq_true rfl, Nat.le_of_ble_eq_true rfl⟩ (rv_9 hC hI) hI rfl hl.1 rfl (Nat.le_of_ble_eq_true rfl) dOperators_resultLength_23 ⟨Nat.zero_le _, Nat.zero_le _⟩ (fun r10 hr10 => ?_)
    refine lv_iconst (v := 3) hx hb dOperators_resultLength_26 (by decide) ?_
    refine lv_icmp_ne (tgt := 41) hx hb dOperators_resultLength_27 (by decide) (fun c11 => ?_) (fun c11 => ?_)
    · refine lv_aload_n hx hb dOperators_resultLength_41 rfl (lv_at hl 0 rfl) ?_
      refine of_get S hC (of_11_0 hI) in_Operators rfl (by decide) qw_46160f6e07 dOperators_resultLength_42 ?_
      refine lv_iload_n hx hb dOperators_resultLength_45 rfl (lv_at hl 3 rfl) ?_
      refine pu_Vi (rest := []) S hC (k9_Looks_extentOf l γ A κ x3) meLooks_extentOf qw_b0051a6c7a ⟨Nat.le_of_ble_eq_true rfl, Nat.le_of_ble_eq_true rfl⟩ (rv_9 hC hI) hI rfl hl.1 rfl (Nat.le_of_ble_eq_true rfl) dOperators_resultLength_46 ⟨Nat.zero_le _, Nat.zero_le _⟩ (fun r12 hr12 => ?_)
      exact hE _ _ _ trivial dOperators_resultLength_49
    · refine lv_aload_n hx hb dOperators_resultLength_30 rfl (lv_at hl 0 rfl) ?_
      refine of_get S hC (of_11_0 hI) in_Operators rfl (by decide) qw_46160f6e07 dOperators_resultLength_31 ?_
      refine lv_iload_n hx hb dOperators_resultLength_34 rfl (lv_at hl 2 rfl) ?_
      refine pu_Vi (rest := []) S hC (k9_Looks_extentOf l γ A κ x2) meLooks_extentOf qw_b0051a6c7a ⟨Nat.le_of_ble_eq_true rfl, Nat.le_of_ble_eq_true rfl⟩ (rv_9 hC hI) hI rfl hl.1 rfl (Nat.le_of_ble_eq_true rfl) dOperators_resultLength_35 ⟨Nat.zero_le _, Nat.zero_le _⟩ (fun r13 hr13 => ?_)
      refine lv_goto (tgt := 49) hx hb dOperators_resultLength_38 (by decide) ?_
      exact hE _ _ _ trivial dOperators_resultLength_49
  · refine lv_aload_n hx hb dOperators_resultLength_6 rfl (lv_at hl 0 rfl) ?_
    refine lv_iload_n hx hb dOperators_resultLength_7 rfl (lv_at hl 2 rfl) ?_
    refine pu_Vi (rest := []) S hC (k_Operators_widthOf l γ A κ x2) meOperators_widthOf qw_c3b3c98375 ⟨Nat.le_of_ble_eq_true rfl, Nat.le_of_ble_eq_true rfl⟩ (rv_11 hC hI) hI rfl hl.1 rfl (Nat.le_of_ble_eq_true rfl) dOperators_resultLength_8 ⟨Nat.zero_le _, Nat.zero_le _⟩ (fun r14 hr14 => ?_)
    refine lv_aload_n hx hb dOperators_resultLength_11 rfl (lv_at hl 0 rfl) ?_
    refine lv_iload_n hx hb dOperators_resultLength_12 rfl (lv_at hl 3 rfl) ?_
    refine pu_Vi (rest := [.int r14]) S hC (k_Operators_widthOf l γ A κ x3) meOperators_widthOf qw_c3b3c98375 ⟨Nat.le_of_ble_eq_true rfl, Nat.le_of_ble_eq_true rfl⟩ (rv_11 hC hI) hI rfl hl.1 rfl (Nat.le_of_ble_eq_true rfl) dOperators_resultLength_13 ⟨Nat.zero_le _, Nat.zero_le _⟩ (fun r15 hr15 => ?_)
    refine lv_iadd hx hb dOperators_resultLength_16 ?_
    refine lv_topi (fun v16 ev16 => ?_)
    exact hE _ _ _ trivial dOperators_resultLength_17
